theorem dX5_make_155 : decode cX5_make 155 = .ok (.iconst 1, 1) := by decide +kernel
theorem dX5_make_156 : decode cX5_make 156 = .ok (.iadd, 1) := by decide +kernel
theorem dX5_make_157 : decode cX5_make 157 = .ok (.putfield 69, 3) := by decide +kernel
theorem dX5_make_160 : decode cX5_make 160 = .ok (.aload_n 0, 1) := by decide +kernel
theorem dX5_make_161 : decode cX5_make 161 = .ok (.getfield 22, 3) := by decide +kernel
theorem dX5_make_164 : decode cX5_make 164 = .ok (.iload_n 1, 1) := by decide +kernel
theorem dX5_make_165 : decode cX5_make 165 = .ok (.aload_n 0, 1) := by decide +kernel
theorem dX5_make_166 : decode cX5_make 166 = .ok (.getfield 22, 3) := by decide +kernel
theorem dX5_make_169 : decode cX5_make 169 = .ok (.iload_n 1, 1) := by decide +kernel
theorem dX5_make_170 : decode cX5_make 170 = .ok (.laload, 1) := by decide +kernel
theorem dX5_make_171 : decode cX5_make 171 = .ok (.lconst 1, 1) := by decide +kernel
theorem dX5_make_172 : decode cX5_make 172 = .ok (.iload 6, 2) := by decide +kernel
theorem dX5_make_174 : decode cX5_make 174 = .ok (.lshl, 1) := by decide +kernel
theorem dX5_make_175 : decode cX5_make 175 = .ok (.lor, 1) := by decide +kernel
theorem dX5_make_176 : decode cX5_make 176 = .ok (.lastore, 1) := by decide +kernel
theorem dX5_make_177 : decode cX5_make 177 = .ok (.iload 6, 2) := by decide +kernel
theorem dX5_make_179 : decode cX5_make 179 = .ok (.ireturn, 1) := by decide +kernel
theorem dX5_entry_0 : decode cX5_entry 0 = .ok (.aload_n 0, 1) := by decide +kernel
theorem dX5_entry_1 : decode cX5_entry 1 = .ok (.iload_n 1, 1) := by decide +kernel
theorem dX5_entry_2 : decode cX5_entry 2 = .ok (.iload_n 2, 1) := by decide +kernel
theorem dX5_entry_3 : decode cX5_entry 3 = .ok (.invokevirtual 73, 3) := by decide +kernel
theorem dX5_entry_6 : decode cX5_entry 6 = .ok (.ifCond .eq 17, 3) := by decide +kernel
theorem dX5_entry_9 : decode cX5_entry 9 = .ok (.aload_n 0, 1) := by decide +kernel
theorem dX5_entry_10 : decode cX5_entry 10 = .ok (.getfield 7, 3) := by decide +kernel
theorem dX5_entry_13 : decode cX5_entry 13 = .ok (.iload_n 2, 1) := by decide +kernel
theorem dX5_entry_14 : decode cX5_entry 14 = .ok (.iaload, 1) := by decide +kernel
theorem dX5_entry_15 : decode cX5_entry 15 = .ok (.iconst 2, 1) := by decide +kernel
theorem dX5_entry_16 : decode cX5_entry 16 = .ok (.if_icmp .ge 7, 3) := by decide +kernel
theorem dX5_entry_19 : decode cX5_entry 19 = .ok (.iconst 1, 1) := by decide +kernel
theorem dX5_entry_20 : decode cX5_entry 20 = .ok (.goto 4, 3) := by decide +kernel
theorem dX5_entry_23 : decode cX5_entry 23 = .ok (.iconst 0, 1) := by decide +kernel
theorem dX5_entry_24 : decode cX5_entry 24 = .ok (.ireturn, 1) := by decide +kernel
theorem dX5_blob_0 : decode cX5_blob 0 = .ok (.iload_n 1, 1) := by decide +kernel
theorem dX5_blob_1 : decode cX5_blob 1 = .ok (.invokestatic 90, 3) := by decide +kernel
theorem dX5_blob_4 : decode cX5_blob 4 = .ok (.ifCond .ne 5, 3) := by decide +kernel
theorem dX5_blob_7 : decode cX5_blob 7 = .ok (.iconst (-1), 1) := by decide +kernel
theorem dX5_blob_8 : decode cX5_blob 8 = .ok (.ireturn, 1) := by decide +kernel
theorem dX5_blob_9 : decode cX5_blob 9 = .ok (.aload_n 0, 1) := by decide +kernel
theorem dX5_blob_10 : decode cX5_blob 10 = .ok (.getfield 29, 3) := by decide +kernel
theorem dX5_blob_13 : decode cX5_blob 13 = .ok (.iload_n 1, 1) := by decide +kernel
theorem dX5_blob_14 : decode cX5_blob 14 = .ok (.baload, 1) := by decide +kernel
theorem dX5_blob_15 : decode cX5_blob 15 = .ok (.ifCond .eq 8, 3) := by decide +kernel
theorem dX5_blob_18 : decode cX5_blob 18 = .ok (.bipush (-2), 2) := by decide +kernel
theorem dX5_blob_20 : decode cX5_blob 20 = .ok (.goto 12, 3) := by decide +kernel
theorem dX5_blob_23 : decode cX5_blob 23 = .ok (.aload_n 0, 1) := by decide +kernel
theorem dX5_blob_24 : decode cX5_blob 24 = .ok (.iload_n 1, 1) := by decide +kernel
theorem dX5_blob_25 : decode cX5_blob 25 = .ok (.iconst 0, 1) := by decide +kernel
theorem dX5_blob_26 : decode cX5_blob 26 = .ok (.iload_n 2, 1) := by decide +kernel
theorem dX5_blob_27 : decode cX5_blob 27 = .ok (.iconst (-1), 1) := by decide +kernel
theorem dX5_blob_28 : decode cX5_blob 28 = .ok (.iconst (-1), 1) := by decide +kernel
theorem dX5_blob_29 : decode cX5_blob 29 = .ok (.invokevirtual 93, 3) := by decide +kernel
theorem dX5_blob_32 : decode cX5_blob 32 = .ok (.ireturn, 1) := by decide +kernel
theorem dX5_tree_0 : decode cX5_tree 0 = .ok (.iload_n 1, 1) := by decide +kernel
theorem dX5_tree_1 : decode cX5_tree 1 = .ok (.invokestatic 90, 3) := by decide +kernel
theorem dX5_tree_4 : decode cX5_tree 4 = .ok (.ifCond .ne 5, 3) := by decide +kernel
theorem dX5_tree_7 : decode cX5_tree 7 = .ok (.iconst (-1), 1) := by decide +kernel
theorem dX5_tree_8 : decode cX5_tree 8 = .ok (.ireturn, 1) := by decide +kernel
theorem dX5_tree_9 : decode cX5_tree 9 = .ok (.aload_n 0, 1) := by decide +kernel
theorem dX5_tree_10 : decode cX5_tree 10 = .ok (.getfield 29, 3) := by decide +kernel
theorem dX5_tree_13 : decode cX5_tree 13 = .ok (.iload_n 1, 1) := by decide +kernel
theorem dX5_tree_14 : decode cX5_tree 14 = .ok (.baload, 1) := by decide +kernel
theorem dX5_tree_15 : decode cX5_tree 15 = .ok (.ifCond .eq 6, 3) := by decide +kernel
theorem dX5_tree_18 : decode cX5_tree 18 = .ok (.bipush (-2), 2) := by decide +kernel
theorem dX5_tree_20 : decode cX5_tree 20 = .ok (.ireturn, 1) := by decide +kernel
theorem dX5_tree_21 : decode cX5_tree 21 = .ok (.aload_n 0, 1) := by decide +kernel
theorem dX5_tree_22 : decode cX5_tree 22 = .ok (.iload_n 1, 1) := by decide +kernel
theorem dX5_tree_23 : decode cX5_tree 23 = .ok (.iload_n 2, 1) := by decide +kernel
theorem dX5_tree_24 : decode cX5_tree 24 = .ok (.invokevirtual 97, 3) := by decide +kernel
theorem dX5_tree_27 : decode cX5_tree 27 = .ok (.ifCond .eq 17, 3) := by decide +kernel
theorem dX5_tree_30 : decode cX5_tree 30 = .ok (.iload_n 3, 1) := by decide +kernel
theorem dX5_tree_31 : decode cX5_tree 31 = .ok (.iconst (-1), 1) := by decide +kernel
theorem dX5_tree_32 : decode cX5_tree 32 = .ok (.if_icmp .eq 14, 3) := by decide +kernel
theorem dX5_tree_35 : decode cX5_tree 35 = .ok (.aload_n 0, 1) := by decide +kernel
theorem dX5_tree_36 : decode cX5_tree 36 = .ok (.iload_n 1, 1) := by decide +kernel
theorem dX5_tree_37 : decode cX5_tree 37 = .ok (.iload_n 3, 1) := by decide +kernel
theorem dX5_tree_38 : decode cX5_tree 38 = .ok (.invokevirtual 97, 3) := by decide +kernel
theorem dX5_tree_41 : decode cX5_tree 41 = .ok (.ifCond .ne 5, 3) := by decide +kernel
theorem dX5_tree_44 : decode cX5_tree 44 = .ok (.iconst (-1), 1) := by decide +kernel
theorem dX5_tree_45 : decode cX5_tree 45 = .ok (.ireturn, 1) := by decide +kernel
theorem dX5_tree_46 : decode cX5_tree 46 = .ok (.aload_n 0, 1) := by decide +kernel
theorem dX5_tree_47 : decode cX5_tree 47 = .ok (.iload_n 1, 1) := by decide +kernel
theorem dX5_tree_48 : decode cX5_tree 48 = .ok (.iconst 1, 1) := by decide +kernel
theorem dX5_tree_49 : decode cX5_tree 49 = .ok (.iload_n 2, 1) := by decide +kernel
theorem dX5_tree_50 : decode cX5_tree 50 = .ok (.iload_n 3, 1) := by decide +kernel
theorem dX5_tree_51 : decode cX5_tree 51 = .ok (.iconst (-1), 1) := by decide +kernel
theorem dX5_tree_52 : decode cX5_tree 52 = .ok (.invokevirtual 93, 3) := by decide +kernel
theorem dX5_tree_55 : decode cX5_tree 55 = .ok (.ireturn, 1) := by decide +kernel
theorem dX5_commit_0 : decode cX5_commit 0 = .ok (.iload_n 1, 1) := by decide +kernel
theorem dX5_commit_1 : decode cX5_commit 1 = .ok (.invokestatic 90, 3) := by decide +kernel
theorem dX5_commit_4 : decode cX5_commit 4 = .ok (.ifCond .eq 12, 3) := by decide +kernel
theorem dX5_commit_7 : decode cX5_commit 7 = .ok (.iload_n 2, 1) := by decide +kernel
theorem dX5_commit_8 : decode cX5_commit 8 = .ok (.ifCond .lt 8, 3) := by decide +kernel
theorem dX5_commit_11 : decode cX5_commit 11 = .ok (.iload_n 2, 1) := by decide +kernel
theorem dX5_commit_12 : decode cX5_commit 12 = .ok (.iconst 3, 1) := by decide +kernel
theorem dX5_commit_13 : decode cX5_commit 13 = .ok (.if_icmp .le 5, 3) := by decide +kernel
theorem dX5_commit_16 : decode cX5_commit 16 = .ok (.iconst (-1), 1) := by decide +kernel
theorem dX5_commit_17 : decode cX5_commit 17 = .ok (.ireturn, 1) := by decide +kernel
theorem dX5_commit_18 : decode cX5_commit 18 = .ok (.aload_n 0, 1) := by decide +kernel
theorem dX5_commit_19 : decode cX5_commit 19 = .ok (.getfield 29, 3) := by decide +kernel
theorem dX5_commit_22 : decode cX5_commit 22 = .ok (.iload_n 1, 1) := by decide +kernel
theorem dX5_commit_23 : decode cX5_commit 23 = .ok (.baload, 1) := by decide +kernel
theorem dX5_commit_24 : decode cX5_commit 24 = .ok (.ifCond .eq 6, 3) := by decide +kernel
theorem dX5_commit_27 : decode cX5_commit 27 = .ok (.bipush (-2), 2) := by decide +kernel
theorem dX5_commit_29 : decode cX5_commit 29 = .ok (.ireturn, 1) := by decide +kernel
theorem dX5_commit_30 : decode cX5_commit 30 = .ok (.aload_n 0, 1) := by decide +kernel
theorem dX5_commit_31 : decode cX5_commit 31 = .ok (.getfield 26, 3) := by decide +kernel
theorem dX5_commit_34 : decode cX5_commit 34 = .ok (.bipush 8, 2) := by decide +kernel
theorem dX5_commit_36 : decode cX5_commit 36 = .ok (.iload_n 1, 1) := by decide +kernel
theorem dX5_commit_37 : decode cX5_commit 37 = .ok (.imul, 1) := by decide +kernel
theorem dX5_commit_38 : decode cX5_commit 38 = .ok (.iload_n 2, 1) := by decide +kernel
theorem dX5_commit_39 : decode cX5_commit 39 = .ok (.iadd, 1) := by decide +kernel
theorem dX5_commit_40 : decode cX5_commit 40 = .ok (.iaload, 1) := by decide +kernel
theorem dX5_commit_41 : decode cX5_commit 41 = .ok (.iconst 1, 1) := by decide +kernel
theorem dX5_commit_42 : decode cX5_commit 42 = .ok (.isub, 1) := by decide +kernel
theorem dX5_commit_43 : decode cX5_commit 43 = .ok (.istore 5, 2) := by decide +kernel
theorem dX5_commit_45 : decode cX5_commit 45 = .ok (.aload_n 0, 1) := by decide +kernel
theorem dX5_commit_46 : decode cX5_commit 46 = .ok (.iload_n 1, 1) := by decide +kernel
theorem dX5_commit_47 : decode cX5_commit 47 = .ok (.iload_n 3, 1) := by decide +kernel
theorem dX5_commit_48 : decode cX5_commit 48 = .ok (.invokevirtual 73, 3) := by decide +kernel
theorem dX5_commit_51 : decode cX5_commit 51 = .ok (.ifCond .eq 13, 3) := by decide +kernel
theorem dX5_commit_54 : decode cX5_commit 54 = .ok (.aload_n 0, 1) := by decide +kernel
theorem dX5_commit_55 : decode cX5_commit 55 = .ok (.getfield 7, 3) := by decide +kernel
theorem dX5_commit_58 : decode cX5_commit 58 = .ok (.iload_n 3, 1) := by decide +kernel
theorem dX5_commit_59 : decode cX5_commit 59 = .ok (.iaload, 1) := by decide +kernel
theorem dX5_commit_60 : decode cX5_commit 60 = .ok (.iconst 1, 1) := by decide +kernel
theorem dX5_commit_61 : decode cX5_commit 61 = .ok (.if_icmp .eq 5, 3) := by decide +kernel
theorem dX5_commit_64 : decode cX5_commit 64 = .ok (.iconst (-1), 1) := by decide +kernel
theorem dX5_commit_65 : decode cX5_commit 65 = .ok (.ireturn, 1) := by decide +kernel
theorem dX5_commit_66 : decode cX5_commit 66 = .ok (.iload 4, 2) := by decide +kernel
theorem dX5_commit_68 : decode cX5_commit 68 = .ok (.iconst (-1), 1) := by decide +kernel
theorem dX5_commit_69 : decode cX5_commit 69 = .ok (.if_icmp .eq 33, 3) := by decide +kernel
theorem dX5_commit_72 : decode cX5_commit 72 = .ok (.aload_n 0, 1) := by decide +kernel
theorem dX5_commit_73 : decode cX5_commit 73 = .ok (.iload_n 1, 1) := by decide +kernel
theorem dX5_commit_74 : decode cX5_commit 74 = .ok (.iload 4, 2) := by decide +kernel
theorem dX5_commit_76 : decode cX5_commit 76 = .ok (.invokevirtual 73, 3) := by decide +kernel
theorem dX5_commit_79 : decode cX5_commit 79 = .ok (.ifCond .eq 21, 3) := by decide +kernel
theorem dX5_commit_82 : decode cX5_commit 82 = .ok (.aload_n 0, 1) := by decide +kernel
theorem dX5_commit_83 : decode cX5_commit 83 = .ok (.getfield 7, 3) := by decide +kernel
theorem dX5_commit_86 : decode cX5_commit 86 = .ok (.iload 4, 2) := by decide +kernel
theorem dX5_commit_88 : decode cX5_commit 88 = .ok (.iaload, 1) := by decide +kernel
theorem dX5_commit_89 : decode cX5_commit 89 = .ok (.iconst 2, 1) := by decide +kernel
theorem dX5_commit_90 : decode cX5_commit 90 = .ok (.if_icmp .ne 10, 3) := by decide +kernel
theorem dX5_commit_93 : decode cX5_commit 93 = .ok (.iload 4, 2) := by decide +kernel
theorem dX5_commit_95 : decode cX5_commit 95 = .ok (.iload 5, 2) := by decide +kernel
theorem dX5_commit_97 : decode cX5_commit 97 = .ok (.if_icmp .ne 5, 3) := by decide +kernel
theorem dX5_commit_100 : decode cX5_commit 100 = .ok (.iconst (-1), 1) := by decide +kernel
theorem dX5_commit_101 : decode cX5_commit 101 = .ok (.ireturn, 1) := by decide +kernel
theorem dX5_commit_102 : decode cX5_commit 102 = .ok (.aload_n 0, 1) := by decide +kernel
theorem dX5_commit_103 : decode cX5_commit 103 = .ok (.iload_n 1, 1) := by decide +kernel
theorem dX5_commit_104 : decode cX5_commit 104 = .ok (.iconst 2, 1) := by decide +kernel
theorem dX5_commit_105 : decode cX5_commit 105 = .ok (.iload_n 3, 1) := by decide +kernel
theorem dX5_commit_106 : decode cX5_commit 106 = .ok (.iload 5, 2) := by decide +kernel
theorem dX5_commit_108 : decode cX5_commit 108 = .ok (.ifCond .lt 8, 3) := by decide +kernel
theorem dX5_commit_111 : decode cX5_commit 111 = .ok (.iload 5, 2) := by decide +kernel
theorem dX5_commit_113 : decode cX5_commit 113 = .ok (.goto 5, 3) := by decide +kernel
theorem dX5_commit_116 : decode cX5_commit 116 = .ok (.iload 4, 2) := by decide +kernel
theorem dX5_commit_118 : decode cX5_commit 118 = .ok (.iload 5, 2) := by decide +kernel
theorem dX5_commit_120 : decode cX5_commit 120 = .ok (.ifCond .lt 8, 3) := by decide +kernel
theorem dX5_commit_123 : decode cX5_commit 123 = .ok (.iload 4, 2) := by decide +kernel
theorem dX5_commit_125 : decode cX5_commit 125 = .ok (.goto 4, 3) := by decide +kernel
theorem dX5_commit_128 : decode cX5_commit 128 = .ok (.iconst (-1), 1) := by decide +kernel
theorem dX5_commit_129 : decode cX5_commit 129 = .ok (.invokevirtual 93, 3) := by decide +kernel
theorem dX5_commit_132 : decode cX5_commit 132 = .ok (.istore 6, 2) := by decide +kernel
theorem dX5_commit_134 : decode cX5_commit 134 = .ok (.iload 6, 2) := by decide +kernel
theorem dX5_commit_136 : decode cX5_commit 136 = .ok (.ifCond .ge 6, 3) := by decide +kernel
theorem dX5_commit_139 : decode cX5_commit 139 = .ok (.iload 6, 2) := by decide +kernel
theorem dX5_commit_141 : decode cX5_commit 141 = .ok (.ireturn, 1) := by decide +kernel
theorem dX5_commit_142 : decode cX5_commit 142 = .ok (.aload_n 0, 1) := by decide +kernel
theorem dX5_commit_143 : decode cX5_commit 143 = .ok (.iconst 0, 1) := by decide +kernel
theorem dX5_commit_144 : decode cX5_commit 144 = .ok (.putfield 81, 3) := by decide +kernel
theorem dX5_commit_147 : decode cX5_commit 147 = .ok (.aload_n 0, 1) := by decide +kernel
theorem dX5_commit_148 : decode cX5_commit 148 = .ok (.iload_n 2, 1) := by decide +kernel
theorem dX5_commit_149 : decode cX5_commit 149 = .ok (.iload 6, 2) := by decide +kernel
theorem dX5_commit_151 : decode cX5_commit 151 = .ok (.iconst 1, 1) := by decide +kernel
theorem dX5_commit_152 : decode cX5_commit 152 = .ok (.iadd, 1) := by decide +kernel
theorem dX5_commit_153 : decode cX5_commit 153 = .ok (.invokevirtual 100, 3) := by decide +kernel
theorem dX5_commit_156 : decode cX5_commit 156 = .ok (.aload_n 0, 1) := by decide +kernel
theorem dX5_commit_157 : decode cX5_commit 157 = .ok (.iload_n 1, 1) := by decide +kernel
theorem dX5_commit_158 : decode cX5_commit 158 = .ok (.invokevirtual 104, 3) := by decide +kernel
theorem dX5_commit_161 : decode cX5_commit 161 = .ok (.ifCond .eq 8, 3) := by decide +kernel
theorem dX5_commit_164 : decode cX5_commit 164 = .ok (.iload 6, 2) := by decide +kernel
theorem dX5_commit_166 : decode cX5_commit 166 = .ok (.goto 5, 3) := by decide +kernel
theorem dX5_commit_169 : decode cX5_commit 169 = .ok (.bipush (-2), 2) := by decide +kernel
theorem dX5_commit_171 : decode cX5_commit 171 = .ok (.ireturn, 1) := by decide +kernel
theorem dX5_point_0 : decode cX5_point 0 = .ok (.iload_n 1, 1) := by decide +kernel
theorem dX5_point_1 : decode cX5_point 1 = .ok (.invokestatic 90, 3) := by decide +kernel
theorem dX5_point_4 : decode cX5_point 4 = .ok (.ifCond .eq 12, 3) := by decide +kernel
theorem dX5_point_7 : decode cX5_point 7 = .ok (.iload_n 2, 1) := by decide +kernel
theorem dX5_point_8 : decode cX5_point 8 = .ok (.ifCond .lt 8, 3) := by decide +kernel
theorem dX5_point_11 : decode cX5_point 11 = .ok (.iload_n 2, 1) := by decide +kernel
theorem dX5_point_12 : decode cX5_point 12 = .ok (.iconst 3, 1) := by decide +kernel
theorem dX5_point_13 : decode cX5_point 13 = .ok (.if_icmp .le 5, 3) := by decide +kernel
theorem dX5_point_16 : decode cX5_point 16 = .ok (.iconst (-1), 1) := by decide +kernel
theorem dX5_point_17 : decode cX5_point 17 = .ok (.ireturn, 1) := by decide +kernel
theorem dX5_point_18 : decode cX5_point 18 = .ok (.aload_n 0, 1) := by decide +kernel
theorem dX5_point_19 : decode cX5_point 19 = .ok (.getfield 29, 3) := by decide +kernel
theorem dX5_point_22 : decode cX5_point 22 = .ok (.iload_n 1, 1) := by decide +kernel
theorem dX5_point_23 : decode cX5_point 23 = .ok (.baload, 1) := by decide +kernel
theorem dX5_point_24 : decode cX5_point 24 = .ok (.ifCond .eq 6, 3) := by decide +kernel
theorem dX5_point_27 : decode cX5_point 27 = .ok (.bipush (-2), 2) := by decide +kernel
theorem dX5_point_29 : decode cX5_point 29 = .ok (.ireturn, 1) := by decide +kernel
theorem dX5_point_30 : decode cX5_point 30 = .ok (.iload_n 3, 1) := by decide +kernel
theorem dX5_point_31 : decode cX5_point 31 = .ok (.iconst (-1), 1) := by decide +kernel
theorem dX5_point_32 : decode cX5_point 32 = .ok (.if_icmp .eq 24, 3) := by decide +kernel
theorem dX5_point_35 : decode cX5_point 35 = .ok (.aload_n 0, 1) := by decide +kernel
theorem dX5_point_36 : decode cX5_point 36 = .ok (.iload_n 1, 1) := by decide +kernel
theorem dX5_point_37 : decode cX5_point 37 = .ok (.iload_n 3, 1) := by decide +kernel
theorem dX5_point_38 : decode cX5_point 38 = .ok (.invokevirtual 73, 3) := by decide +kernel
theorem dX5_point_41 : decode cX5_point 41 = .ok (.ifCond .eq 13, 3) := by decide +kernel
theorem dX5_point_44 : decode cX5_point 44 = .ok (.aload_n 0, 1) := by decide +kernel
theorem dX5_point_45 : decode cX5_point 45 = .ok (.getfield 7, 3) := by decide +kernel
theorem dX5_point_48 : decode cX5_point 48 = .ok (.iload_n 3, 1) := by decide +kernel
theorem dX5_point_49 : decode cX5_point 49 = .ok (.iaload, 1) := by decide +kernel
theorem dX5_point_50 : decode cX5_point 50 = .ok (.iconst 2, 1) := by decide +kernel
theorem dX5_point_51 : decode cX5_point 51 = .ok (.if_icmp .eq 5, 3) := by decide +kernel
theorem dX5_point_54 : decode cX5_point 54 = .ok (.iconst (-1), 1) := by decide +kernel
theorem dX5_point_55 : decode cX5_point 55 = .ok (.ireturn, 1) := by decide +kernel
theorem dX5_point_56 : decode cX5_point 56 = .ok (.aload_n 0, 1) := by decide +kernel
theorem dX5_point_57 : decode cX5_point 57 = .ok (.getfield 26, 3) := by decide +kernel
theorem dX5_point_60 : decode cX5_point 60 = .ok (.bipush 8, 2) := by decide +kernel
theorem dX5_point_62 : decode cX5_point 62 = .ok (.iload_n 1, 1) := by decide +kernel
theorem dX5_point_63 : decode cX5_point 63 = .ok (.imul, 1) := by decide +kernel
theorem dX5_point_64 : decode cX5_point 64 = .ok (.iload_n 2, 1) := by decide +kernel
theorem dX5_point_65 : decode cX5_point 65 = .ok (.iadd, 1) := by decide +kernel
theorem dX5_point_66 : decode cX5_point 66 = .ok (.iaload, 1) := by decide +kernel
theorem dX5_point_67 : decode cX5_point 67 = .ok (.iload_n 3, 1) := by decide +kernel
theorem dX5_point_68 : decode cX5_point 68 = .ok (.iconst 1, 1) := by decide +kernel
theorem dX5_point_69 : decode cX5_point 69 = .ok (.iadd, 1) := by decide +kernel
theorem dX5_point_70 : decode cX5_point 70 = .ok (.if_icmp .ne 5, 3) := by decide +kernel
theorem dX5_point_73 : decode cX5_point 73 = .ok (.iconst 0, 1) := by decide +kernel
theorem dX5_point_74 : decode cX5_point 74 = .ok (.ireturn, 1) := by decide +kernel
theorem dX5_point_75 : decode cX5_point 75 = .ok (.aload_n 0, 1) := by decide +kernel
theorem dX5_point_76 : decode cX5_point 76 = .ok (.iconst 0, 1) := by decide +kernel
theorem dX5_point_77 : decode cX5_point 77 = .ok (.putfield 81, 3) := by decide +kernel
theorem dX5_point_80 : decode cX5_point 80 = .ok (.aload_n 0, 1) := by decide +kernel
theorem dX5_point_81 : decode cX5_point 81 = .ok (.iload_n 2, 1) := by decide +kernel
theorem dX5_point_82 : decode cX5_point 82 = .ok (.iload_n 3, 1) := by decide +kernel
theorem dX5_point_83 : decode cX5_point 83 = .ok (.iconst 1, 1) := by decide +kernel
theorem dX5_point_84 : decode cX5_point 84 = .ok (.iadd, 1) := by decide +kernel
theorem dX5_point_85 : decode cX5_point 85 = .ok (.invokevirtual 100, 3) := by decide +kernel
theorem dX5_point_88 : decode cX5_point 88 = .ok (.aload_n 0, 1) := by decide +kernel
theorem dX5_point_89 : decode cX5_point 89 = .ok (.iload_n 1, 1) := by decide +kernel
theorem dX5_point_90 : decode cX5_point 90 = .ok (.invokevirtual 104, 3) := by decide +kernel
theorem dX5_point_93 : decode cX5_point 93 = .ok (.ifCond .eq 7, 3) := by decide +kernel
theorem dX5_point_96 : decode cX5_point 96 = .ok (.iconst 1, 1) := by decide +kernel
theorem dX5_point_97 : decode cX5_point 97 = .ok (.goto 5, 3) := by decide +kernel
theorem dX5_point_100 : decode cX5_point 100 = .ok (.bipush (-2), 2) := by decide +kernel
theorem dX5_point_102 : decode cX5_point 102 = .ok (.ireturn, 1) := by decide +kernel
theorem dX5_place_0 : decode cX5_place 0 = .ok (.aload_n 0, 1) := by decide +kernel
theorem dX5_place_1 : decode cX5_place 1 = .ok (.getfield 107, 3) := by decide +kernel
theorem dX5_place_4 : decode cX5_place 4 = .ok (.istore_n 2, 1) := by decide +kernel
theorem dX5_place_5 : decode cX5_place 5 = .ok (.aload_n 0, 1) := by decide +kernel
theorem dX5_place_6 : decode cX5_place 6 = .ok (.getfield 57, 3) := by decide +kernel
theorem dX5_place_9 : decode cX5_place 9 = .ok (.iload_n 2, 1) := by decide +kernel
theorem dX5_place_10 : decode cX5_place 10 = .ok (.iload_n 1, 1) := by decide +kernel
theorem dX5_place_11 : decode cX5_place 11 = .ok (.iastore, 1) := by decide +kernel
theorem dX5_place_12 : decode cX5_place 12 = .ok (.aload_n 0, 1) := by decide +kernel
theorem dX5_place_13 : decode cX5_place 13 = .ok (.getfield 60, 3) := by decide +kernel
theorem dX5_place_16 : decode cX5_place 16 = .ok (.iload_n 2, 1) := by decide +kernel
theorem dX5_place_17 : decode cX5_place 17 = .ok (.bipush (-4), 2) := by decide +kernel
theorem dX5_place_19 : decode cX5_place 19 = .ok (.iastore, 1) := by decide +kernel
theorem dX5_place_20 : decode cX5_place 20 = .ok (.aload_n 0, 1) := by decide +kernel
theorem dX5_place_21 : decode cX5_place 21 = .ok (.getfield 63, 3) := by decide +kernel
theorem dX5_place_24 : decode cX5_place 24 = .ok (.iload_n 2, 1) := by decide +kernel
theorem dX5_place_25 : decode cX5_place 25 = .ok (.iconst 0, 1) := by decide +kernel
theorem dX5_place_26 : decode cX5_place 26 = .ok (.iastore, 1) := by decide +kernel
theorem dX5_place_27 : decode cX5_place 27 = .ok (.aload_n 0, 1) := by decide +kernel
theorem dX5_place_28 : decode cX5_place 28 = .ok (.getfield 66, 3) := by decide +kernel
theorem dX5_place_31 : decode cX5_place 31 = .ok (.iload_n 2, 1) := by decide +kernel
theorem dX5_place_32 : decode cX5_place 32 = .ok (.aload_n 0, 1) := by decide +kernel
theorem dX5_place_33 : decode cX5_place 33 = .ok (.getfield 7, 3) := by decide +kernel
theorem dX5_place_36 : decode cX5_place 36 = .ok (.iload_n 1, 1) := by decide +kernel
theorem dX5_place_37 : decode cX5_place 37 = .ok (.iaload, 1) := by decide +kernel
theorem dX5_place_38 : decode cX5_place 38 = .ok (.ifCond .ne 8, 3) := by decide +kernel
theorem dX5_place_41 : decode cX5_place 41 = .ok (.bipush 8, 2) := by decide +kernel
theorem dX5_place_43 : decode cX5_place 43 = .ok (.goto 34, 3) := by decide +kernel
theorem dX5_place_46 : decode cX5_place 46 = .ok (.iconst 2, 1) := by decide +kernel
theorem dX5_place_47 : decode cX5_place 47 = .ok (.aload_n 0, 1) := by decide +kernel
theorem dX5_place_48 : decode cX5_place 48 = .ok (.getfield 16, 3) := by decide +kernel
theorem dX5_place_51 : decode cX5_place 51 = .ok (.iload_n 1, 1) := by decide +kernel
theorem dX5_place_52 : decode cX5_place 52 = .ok (.iaload, 1) := by decide +kernel
theorem dX5_place_53 : decode cX5_place 53 = .ok (.ifCond .lt 7, 3) := by decide +kernel
theorem dX5_place_56 : decode cX5_place 56 = .ok (.iconst 1, 1) := by decide +kernel
theorem dX5_place_57 : decode cX5_place 57 = .ok (.goto 4, 3) := by decide +kernel
theorem dX5_place_60 : decode cX5_place 60 = .ok (.iconst 0, 1) := by decide +kernel
theorem dX5_place_61 : decode cX5_place 61 = .ok (.iadd, 1) := by decide +kernel
theorem dX5_place_62 : decode cX5_place 62 = .ok (.aload_n 0, 1) := by decide +kernel
theorem dX5_place_63 : decode cX5_place 63 = .ok (.getfield 19, 3) := by decide +kernel
theorem dX5_place_66 : decode cX5_place 66 = .ok (.iload_n 1, 1) := by decide +kernel
theorem dX5_place_67 : decode cX5_place 67 = .ok (.iaload, 1) := by decide +kernel
theorem dX5_place_68 : decode cX5_place 68 = .ok (.ifCond .lt 7, 3) := by decide +kernel
theorem dX5_place_71 : decode cX5_place 71 = .ok (.iconst 1, 1) := by decide +kernel
theorem dX5_place_72 : decode cX5_place 72 = .ok (.goto 4, 3) := by decide +kernel
theorem dX5_place_75 : decode cX5_place 75 = .ok (.iconst 0, 1) := by decide +kernel
theorem dX5_place_76 : decode cX5_place 76 = .ok (.iadd, 1) := by decide +kernel
theorem dX5_place_77 : decode cX5_place 77 = .ok (.iastore, 1) := by decide +kernel
theorem dX5_place_78 : decode cX5_place 78 = .ok (.aload_n 0, 1) := by decide +kernel
theorem dX5_place_79 : decode cX5_place 79 = .ok (.dup, 1) := by decide +kernel
theorem dX5_place_80 : decode cX5_place 80 = .ok (.getfield 107, 3) := by decide +kernel
theorem dX5_place_83 : decode cX5_place 83 = .ok (.iconst 1, 1) := by decide +kernel
theorem dX5_place_84 : decode cX5_place 84 = .ok (.iadd, 1) := by decide +kernel
theorem dX5_place_85 : decode cX5_place 85 = .ok (.putfield 107, 3) := by decide +kernel
theorem dX5_place_88 : decode cX5_place 88 = .ok (.iload_n 2, 1) := by decide +kernel
theorem dX5_place_89 : decode cX5_place 89 = .ok (.iconst 1, 1) := by decide +kernel
theorem dX5_place_90 : decode cX5_place 90 = .ok (.isub, 1) := by decide +kernel
theorem dX5_place_91 : decode cX5_place 91 = .ok (.istore_n 3, 1) := by decide +kernel
theorem dX5_place_92 : decode cX5_place 92 = .ok (.iload_n 3, 1) := by decide +kernel
theorem dX5_place_93 : decode cX5_place 93 = .ok (.ifCond .lt 154, 3) := by decide +kernel
theorem dX5_place_96 : decode cX5_place 96 = .ok (.iload_n 3, 1) := by decide +kernel
theorem dX5_place_97 : decode cX5_place 97 = .ok (.iload_n 2, 1) := by decide +kernel
theorem dX5_place_98 : decode cX5_place 98 = .ok (.iconst 3, 1) := by decide +kernel
theorem dX5_place_99 : decode cX5_place 99 = .ok (.isub, 1) := by decide +kernel
theorem dX5_place_100 : decode cX5_place 100 = .ok (.if_icmp .lt 147, 3) := by decide +kernel
theorem dX5_place_103 : decode cX5_place 103 = .ok (.aload_n 0, 1) := by decide +kernel
theorem dX5_place_104 : decode cX5_place 104 = .ok (.getfield 7, 3) := by decide +kernel
theorem dX5_place_107 : decode cX5_place 107 = .ok (.iload_n 1, 1) := by decide +kernel
theorem dX5_place_108 : decode cX5_place 108 = .ok (.iaload, 1) := by decide +kernel
theorem dX5_place_109 : decode cX5_place 109 = .ok (.ifCond .ne 132, 3) := by decide +kernel
theorem dX5_place_112 : decode cX5_place 112 = .ok (.aload_n 0, 1) := by decide +kernel
theorem dX5_place_113 : decode cX5_place 113 = .ok (.getfield 7, 3) := by decide +kernel
theorem dX5_place_116 : decode cX5_place 116 = .ok (.aload_n 0, 1) := by decide +kernel
theorem dX5_place_117 : decode cX5_place 117 = .ok (.getfield 57, 3) := by decide +kernel
theorem dX5_place_120 : decode cX5_place 120 = .ok (.iload_n 3, 1) := by decide +kernel
theorem dX5_place_121 : decode cX5_place 121 = .ok (.iaload, 1) := by decide +kernel
theorem dX5_place_122 : decode cX5_place 122 = .ok (.iaload, 1) := by decide +kernel
theorem dX5_place_123 : decode cX5_place 123 = .ok (.ifCond .ne 118, 3) := by decide +kernel
theorem dX5_place_126 : decode cX5_place 126 = .ok (.aload_n 0, 1) := by decide +kernel
theorem dX5_place_127 : decode cX5_place 127 = .ok (.getfield 63, 3) := by decide +kernel
theorem dX5_place_130 : decode cX5_place 130 = .ok (.iload_n 3, 1) := by decide +kernel
theorem dX5_place_131 : decode cX5_place 131 = .ok (.iaload, 1) := by decide +kernel
theorem dX5_place_132 : decode cX5_place 132 = .ok (.iconst 2, 1) := by decide +kernel
theorem dX5_place_133 : decode cX5_place 133 = .ok (.if_icmp .ge 108, 3) := by decide +kernel
theorem dX5_place_136 : decode cX5_place 136 = .ok (.iconst 2, 1) := by decide +kernel
theorem dX5_place_137 : decode cX5_place 137 = .ok (.istore 4, 2) := by decide +kernel
theorem dX5_place_139 : decode cX5_place 139 = .ok (.iconst 0, 1) := by decide +kernel
theorem dX5_place_140 : decode cX5_place 140 = .ok (.istore 5, 2) := by decide +kernel
theorem dX5_place_142 : decode cX5_place 142 = .ok (.iload 5, 2) := by decide +kernel
theorem dX5_place_144 : decode cX5_place 144 = .ok (.bipush 8, 2) := by decide +kernel
theorem dX5_place_146 : decode cX5_place 146 = .ok (.if_icmp .ge 55, 3) := by decide +kernel
theorem dX5_place_149 : decode cX5_place 149 = .ok (.iload 4, 2) := by decide +kernel
theorem dX5_place_151 : decode cX5_place 151 = .ok (.aload_n 0, 1) := by decide +kernel
theorem dX5_place_152 : decode cX5_place 152 = .ok (.getfield 13, 3) := by decide +kernel
theorem dX5_place_155 : decode cX5_place 155 = .ok (.iload_n 1, 1) := by decide +kernel
theorem dX5_place_156 : decode cX5_place 156 = .ok (.iaload, 1) := by decide +kernel
theorem dX5_place_157 : decode cX5_place 157 = .ok (.iconst 4, 1) := by decide +kernel
theorem dX5_place_158 : decode cX5_place 158 = .ok (.iload 5, 2) := by decide +kernel
theorem dX5_place_160 : decode cX5_place 160 = .ok (.imul, 1) := by decide +kernel
theorem dX5_place_161 : decode cX5_place 161 = .ok (.ishr, 1) := by decide +kernel
theorem dX5_place_162 : decode cX5_place 162 = .ok (.bipush 15, 2) := by decide +kernel
theorem dX5_place_164 : decode cX5_place 164 = .ok (.iand, 1) := by decide +kernel
theorem dX5_place_165 : decode cX5_place 165 = .ok (.aload_n 0, 1) := by decide +kernel
theorem dX5_place_166 : decode cX5_place 166 = .ok (.getfield 13, 3) := by decide +kernel
theorem dX5_place_169 : decode cX5_place 169 = .ok (.aload_n 0, 1) := by decide +kernel
theorem dX5_place_170 : decode cX5_place 170 = .ok (.getfield 57, 3) := by decide +kernel
theorem dX5_place_173 : decode cX5_place 173 = .ok (.iload_n 3, 1) := by decide +kernel
theorem dX5_place_174 : decode cX5_place 174 = .ok (.iaload, 1) := by decide +kernel
theorem dX5_place_175 : decode cX5_place 175 = .ok (.iaload, 1) := by decide +kernel
theorem dX5_place_176 : decode cX5_place 176 = .ok (.iconst 4, 1) := by decide +kernel
theorem dX5_place_177 : decode cX5_place 177 = .ok (.iload 5, 2) := by decide +kernel
theorem dX5_place_179 : decode cX5_place 179 = .ok (.imul, 1) := by decide +kernel
theorem dX5_place_180 : decode cX5_place 180 = .ok (.ishr, 1) := by decide +kernel
theorem dX5_place_181 : decode cX5_place 181 = .ok (.bipush 15, 2) := by decide +kernel
theorem dX5_place_183 : decode cX5_place 183 = .ok (.iand, 1) := by decide +kernel
theorem dX5_place_184 : decode cX5_place 184 = .ok (.if_icmp .eq 7, 3) := by decide +kernel
theorem dX5_place_187 : decode cX5_place 187 = .ok (.iconst 1, 1) := by decide +kernel
theorem dX5_place_188 : decode cX5_place 188 = .ok (.goto 4, 3) := by decide +kernel
theorem dX5_place_191 : decode cX5_place 191 = .ok (.iconst 0, 1) := by decide +kernel
theorem dX5_place_192 : decode cX5_place 192 = .ok (.iadd, 1) := by decide +kernel
theorem dX5_place_193 : decode cX5_place 193 = .ok (.istore 4, 2) := by decide +kernel
theorem dX5_place_195 : decode cX5_place 195 = .ok (.iinc 5 1, 3) := by decide +kernel
theorem dX5_place_198 : decode cX5_place 198 = .ok (.goto (-56), 3) := by decide +kernel
theorem dX5_place_201 : decode cX5_place 201 = .ok (.iload 4, 2) := by decide +kernel
theorem dX5_place_203 : decode cX5_place 203 = .ok (.aload_n 0, 1) := by decide +kernel
theorem dX5_place_204 : decode cX5_place 204 = .ok (.getfield 66, 3) := by decide +kernel
theorem dX5_place_207 : decode cX5_place 207 = .ok (.iload_n 2, 1) := by decide +kernel
theorem dX5_place_208 : decode cX5_place 208 = .ok (.iaload, 1) := by decide +kernel
theorem dX5_place_209 : decode cX5_place 209 = .ok (.if_icmp .ge 32, 3) := by decide +kernel
theorem dX5_place_212 : decode cX5_place 212 = .ok (.aload_n 0, 1) := by decide +kernel
theorem dX5_place_213 : decode cX5_place 213 = .ok (.getfield 66, 3) := by decide +kernel
theorem dX5_place_216 : decode cX5_place 216 = .ok (.iload_n 2, 1) := by decide +kernel
theorem dX5_place_217 : decode cX5_place 217 = .ok (.iload 4, 2) := by decide +kernel
theorem dX5_place_219 : decode cX5_place 219 = .ok (.iastore, 1) := by decide +kernel
theorem dX5_place_220 : decode cX5_place 220 = .ok (.aload_n 0, 1) := by decide +kernel
theorem dX5_place_221 : decode cX5_place 221 = .ok (.getfield 60, 3) := by decide +kernel
theorem dX5_place_224 : decode cX5_place 224 = .ok (.iload_n 2, 1) := by decide +kernel
theorem dX5_place_225 : decode cX5_place 225 = .ok (.iload_n 3, 1) := by decide +kernel
theorem dX5_place_226 : decode cX5_place 226 = .ok (.iastore, 1) := by decide +kernel
theorem dX5_place_227 : decode cX5_place 227 = .ok (.aload_n 0, 1) := by decide +kernel
theorem dX5_place_228 : decode cX5_place 228 = .ok (.getfield 63, 3) := by decide +kernel
theorem dX5_place_231 : decode cX5_place 231 = .ok (.iload_n 2, 1) := by decide +kernel
theorem dX5_place_232 : decode cX5_place 232 = .ok (.aload_n 0, 1) := by decide +kernel
theorem dX5_place_233 : decode cX5_place 233 = .ok (.getfield 63, 3) := by decide +kernel
theorem dX5_place_236 : decode cX5_place 236 = .ok (.iload_n 3, 1) := by decide +kernel
theorem dX5_place_237 : decode cX5_place 237 = .ok (.iaload, 1) := by decide +kernel
theorem dX5_place_238 : decode cX5_place 238 = .ok (.iconst 1, 1) := by decide +kernel
theorem dX5_place_239 : decode cX5_place 239 = .ok (.iadd, 1) := by decide +kernel
theorem dX5_place_240 : decode cX5_place 240 = .ok (.iastore, 1) := by decide +kernel
theorem dX5_place_241 : decode cX5_place 241 = .ok (.iinc 3 (-1), 3) := by decide +kernel
theorem dX5_place_244 : decode cX5_place 244 = .ok (.goto (-152), 3) := by decide +kernel
theorem dX5_place_247 : decode cX5_place 247 = .ok (.return_, 1) := by decide +kernel
theorem dX5_pack_0 : decode cX5_pack 0 = .ok (.aload_n 0, 1) := by decide +kernel
theorem dX5_pack_1 : decode cX5_pack 1 = .ok (.iconst 0, 1) := by decide +kernel
theorem dX5_pack_2 : decode cX5_pack 2 = .ok (.putfield 107, 3) := by decide +kernel
theorem dX5_pack_5 : decode cX5_pack 5 = .ok (.iconst 2, 1) := by decide +kernel
theorem dX5_pack_6 : decode cX5_pack 6 = .ok (.istore_n 3, 1) := by decide +kernel
theorem dX5_pack_7 : decode cX5_pack 7 = .ok (.iload_n 3, 1) := by decide +kernel
theorem dX5_pack_8 : decode cX5_pack 8 = .ok (.ifCond .lt 56, 3) := by decide +kernel
theorem dX5_pack_11 : decode cX5_pack 11 = .ok (.aload_n 0, 1) := by decide +kernel
theorem dX5_pack_12 : decode cX5_pack 12 = .ok (.getfield 69, 3) := by decide +kernel
theorem dX5_pack_15 : decode cX5_pack 15 = .ok (.iconst 1, 1) := by decide +kernel
theorem dX5_pack_16 : decode cX5_pack 16 = .ok (.isub, 1) := by decide +kernel
theorem dX5_pack_17 : decode cX5_pack 17 = .ok (.istore 4, 2) := by decide +kernel
theorem dX5_pack_19 : decode cX5_pack 19 = .ok (.iload 4, 2) := by decide +kernel
theorem dX5_pack_21 : decode cX5_pack 21 = .ok (.ifCond .lt 37, 3) := by decide +kernel
theorem dX5_pack_24 : decode cX5_pack 24 = .ok (.lload_n 1, 1) := by decide +kernel
theorem dX5_pack_25 : decode cX5_pack 25 = .ok (.iload 4, 2) := by decide +kernel
theorem dX5_pack_27 : decode cX5_pack 27 = .ok (.lshr, 1) := by decide +kernel
theorem dX5_pack_28 : decode cX5_pack 28 = .ok (.lconst 1, 1) := by decide +kernel
theorem dX5_pack_29 : decode cX5_pack 29 = .ok (.land, 1) := by decide +kernel
theorem dX5_pack_30 : decode cX5_pack 30 = .ok (.lconst 1, 1) := by decide +kernel
theorem dX5_pack_31 : decode cX5_pack 31 = .ok (.lcmp, 1) := by decide +kernel
theorem dX5_pack_32 : decode cX5_pack 32 = .ok (.ifCond .ne 20, 3) := by decide +kernel
theorem dX5_pack_35 : decode cX5_pack 35 = .ok (.aload_n 0, 1) := by decide +kernel
theorem dX5_pack_36 : decode cX5_pack 36 = .ok (.getfield 7, 3) := by decide +kernel
theorem dX5_pack_39 : decode cX5_pack 39 = .ok (.iload 4, 2) := by decide +kernel
theorem dX5_pack_41 : decode cX5_pack 41 = .ok (.iaload, 1) := by decide +kernel
theorem dX5_pack_42 : decode cX5_pack 42 = .ok (.iload_n 3, 1) := by decide +kernel
theorem dX5_pack_43 : decode cX5_pack 43 = .ok (.if_icmp .ne 9, 3) := by decide +kernel
theorem dX5_pack_46 : decode cX5_pack 46 = .ok (.aload_n 0, 1) := by decide +kernel
theorem dX5_pack_47 : decode cX5_pack 47 = .ok (.iload 4, 2) := by decide +kernel
theorem dX5_pack_49 : decode cX5_pack 49 = .ok (.invokevirtual 110, 3) := by decide +kernel
theorem dX5_pack_52 : decode cX5_pack 52 = .ok (.iinc 4 (-1), 3) := by decide +kernel
theorem dX5_pack_55 : decode cX5_pack 55 = .ok (.goto (-36), 3) := by decide +kernel
theorem dX5_pack_58 : decode cX5_pack 58 = .ok (.iinc 3 (-1), 3) := by decide +kernel
theorem dX5_pack_61 : decode cX5_pack 61 = .ok (.goto (-54), 3) := by decide +kernel
theorem dX5_pack_64 : decode cX5_pack 64 = .ok (.return_, 1) := by decide +kernel
theorem dX5_allReach_0 : decode cX5_allReach 0 = .ok (.iconst 0, 1) := by decide +kernel
theorem dX5_allReach_1 : decode cX5_allReach 1 = .ok (.istore 5, 2) := by decide +kernel
theorem dX5_allReach_3 : decode cX5_allReach 3 = .ok (.iload 5, 2) := by decide +kernel
theorem dX5_allReach_5 : decode cX5_allReach 5 = .ok (.aload_n 0, 1) := by decide +kernel
theorem dX5_allReach_6 : decode cX5_allReach 6 = .ok (.getfield 69, 3) := by decide +kernel
theorem dX5_allReach_9 : decode cX5_allReach 9 = .ok (.if_icmp .ge 37, 3) := by decide +kernel
theorem dX5_allReach_12 : decode cX5_allReach 12 = .ok (.lload_n 1, 1) := by decide +kernel
theorem dX5_allReach_13 : decode cX5_allReach 13 = .ok (.iload 5, 2) := by decide +kernel
theorem dX5_allReach_15 : decode cX5_allReach 15 = .ok (.lshr, 1) := by decide +kernel
theorem dX5_allReach_16 : decode cX5_allReach 16 = .ok (.lconst 1, 1) := by decide +kernel
theorem dX5_allReach_17 : decode cX5_allReach 17 = .ok (.land, 1) := by decide +kernel
theorem dX5_allReach_18 : decode cX5_allReach 18 = .ok (.lconst 1, 1) := by decide +kernel
theorem dX5_allReach_19 : decode cX5_allReach 19 = .ok (.lcmp, 1) := by decide +kernel
theorem dX5_allReach_20 : decode cX5_allReach 20 = .ok (.ifCond .ne 20, 3) := by decide +kernel
