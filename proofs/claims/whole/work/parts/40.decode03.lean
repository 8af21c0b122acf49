theorem dX1_placeKind_4 : decode cX1_placeKind 4 = .ok (.ifCond .lt 107, 3) := by decide +kernel
theorem dX1_placeKind_7 : decode cX1_placeKind 7 = .ok (.aload_n 0, 1) := by decide +kernel
theorem dX1_placeKind_8 : decode cX1_placeKind 8 = .ok (.getfield 25, 3) := by decide +kernel
theorem dX1_placeKind_11 : decode cX1_placeKind 11 = .ok (.bipush 60, 2) := by decide +kernel
theorem dX1_placeKind_13 : decode cX1_placeKind 13 = .ok (.if_icmp .ge 98, 3) := by decide +kernel
theorem dX1_placeKind_16 : decode cX1_placeKind 16 = .ok (.aload_n 0, 1) := by decide +kernel
theorem dX1_placeKind_17 : decode cX1_placeKind 17 = .ok (.getfield 21, 3) := by decide +kernel
theorem dX1_placeKind_20 : decode cX1_placeKind 20 = .ok (.iload_n 3, 1) := by decide +kernel
theorem dX1_placeKind_21 : decode cX1_placeKind 21 = .ok (.invokestatic 40, 3) := by decide +kernel
theorem dX1_placeKind_24 : decode cX1_placeKind 24 = .ok (.ifCond .eq 81, 3) := by decide +kernel
theorem dX1_placeKind_27 : decode cX1_placeKind 27 = .ok (.aload_n 1, 1) := by decide +kernel
theorem dX1_placeKind_28 : decode cX1_placeKind 28 = .ok (.iload_n 3, 1) := by decide +kernel
theorem dX1_placeKind_29 : decode cX1_placeKind 29 = .ok (.iload_n 2, 1) := by decide +kernel
theorem dX1_placeKind_30 : decode cX1_placeKind 30 = .ok (.invokevirtual 44, 3) := by decide +kernel
theorem dX1_placeKind_33 : decode cX1_placeKind 33 = .ok (.ifCond .eq 72, 3) := by decide +kernel
theorem dX1_placeKind_36 : decode cX1_placeKind 36 = .ok (.aload_n 0, 1) := by decide +kernel
theorem dX1_placeKind_37 : decode cX1_placeKind 37 = .ok (.getfield 25, 3) := by decide +kernel
theorem dX1_placeKind_40 : decode cX1_placeKind 40 = .ok (.istore 4, 2) := by decide +kernel
theorem dX1_placeKind_42 : decode cX1_placeKind 42 = .ok (.aload_n 0, 1) := by decide +kernel
theorem dX1_placeKind_43 : decode cX1_placeKind 43 = .ok (.getfield 9, 3) := by decide +kernel
theorem dX1_placeKind_46 : decode cX1_placeKind 46 = .ok (.iload 4, 2) := by decide +kernel
theorem dX1_placeKind_48 : decode cX1_placeKind 48 = .ok (.iload_n 3, 1) := by decide +kernel
theorem dX1_placeKind_49 : decode cX1_placeKind 49 = .ok (.iastore, 1) := by decide +kernel
theorem dX1_placeKind_50 : decode cX1_placeKind 50 = .ok (.aload_n 0, 1) := by decide +kernel
theorem dX1_placeKind_51 : decode cX1_placeKind 51 = .ok (.getfield 15, 3) := by decide +kernel
theorem dX1_placeKind_54 : decode cX1_placeKind 54 = .ok (.iload 4, 2) := by decide +kernel
theorem dX1_placeKind_56 : decode cX1_placeKind 56 = .ok (.bipush (-4), 2) := by decide +kernel
theorem dX1_placeKind_58 : decode cX1_placeKind 58 = .ok (.iastore, 1) := by decide +kernel
theorem dX1_placeKind_59 : decode cX1_placeKind 59 = .ok (.aload_n 0, 1) := by decide +kernel
theorem dX1_placeKind_60 : decode cX1_placeKind 60 = .ok (.getfield 18, 3) := by decide +kernel
theorem dX1_placeKind_63 : decode cX1_placeKind 63 = .ok (.iload 4, 2) := by decide +kernel
theorem dX1_placeKind_65 : decode cX1_placeKind 65 = .ok (.iconst 0, 1) := by decide +kernel
theorem dX1_placeKind_66 : decode cX1_placeKind 66 = .ok (.iastore, 1) := by decide +kernel
theorem dX1_placeKind_67 : decode cX1_placeKind 67 = .ok (.aload_n 0, 1) := by decide +kernel
theorem dX1_placeKind_68 : decode cX1_placeKind 68 = .ok (.dup, 1) := by decide +kernel
theorem dX1_placeKind_69 : decode cX1_placeKind 69 = .ok (.getfield 29, 3) := by decide +kernel
theorem dX1_placeKind_72 : decode cX1_placeKind 72 = .ok (.iload_n 2, 1) := by decide +kernel
theorem dX1_placeKind_73 : decode cX1_placeKind 73 = .ok (.ifCond .ne 13, 3) := by decide +kernel
theorem dX1_placeKind_76 : decode cX1_placeKind 76 = .ok (.aload_n 0, 1) := by decide +kernel
theorem dX1_placeKind_77 : decode cX1_placeKind 77 = .ok (.aload_n 1, 1) := by decide +kernel
theorem dX1_placeKind_78 : decode cX1_placeKind 78 = .ok (.iload 4, 2) := by decide +kernel
theorem dX1_placeKind_80 : decode cX1_placeKind 80 = .ok (.invokevirtual 50, 3) := by decide +kernel
theorem dX1_placeKind_83 : decode cX1_placeKind 83 = .ok (.goto 10, 3) := by decide +kernel
theorem dX1_placeKind_86 : decode cX1_placeKind 86 = .ok (.iconst 1, 1) := by decide +kernel
theorem dX1_placeKind_87 : decode cX1_placeKind 87 = .ok (.aload_n 1, 1) := by decide +kernel
theorem dX1_placeKind_88 : decode cX1_placeKind 88 = .ok (.iload_n 3, 1) := by decide +kernel
theorem dX1_placeKind_89 : decode cX1_placeKind 89 = .ok (.invokevirtual 54, 3) := by decide +kernel
theorem dX1_placeKind_92 : decode cX1_placeKind 92 = .ok (.iadd, 1) := by decide +kernel
theorem dX1_placeKind_93 : decode cX1_placeKind 93 = .ok (.iadd, 1) := by decide +kernel
theorem dX1_placeKind_94 : decode cX1_placeKind 94 = .ok (.putfield 29, 3) := by decide +kernel
theorem dX1_placeKind_97 : decode cX1_placeKind 97 = .ok (.aload_n 0, 1) := by decide +kernel
theorem dX1_placeKind_98 : decode cX1_placeKind 98 = .ok (.iload 4, 2) := by decide +kernel
theorem dX1_placeKind_100 : decode cX1_placeKind 100 = .ok (.iconst 1, 1) := by decide +kernel
theorem dX1_placeKind_101 : decode cX1_placeKind 101 = .ok (.iadd, 1) := by decide +kernel
theorem dX1_placeKind_102 : decode cX1_placeKind 102 = .ok (.putfield 25, 3) := by decide +kernel
theorem dX1_placeKind_105 : decode cX1_placeKind 105 = .ok (.iinc 3 (-1), 3) := by decide +kernel
theorem dX1_placeKind_108 : decode cX1_placeKind 108 = .ok (.goto (-105), 3) := by decide +kernel
theorem dX1_placeKind_111 : decode cX1_placeKind 111 = .ok (.return_, 1) := by decide +kernel
theorem dX1_fill_0 : decode cX1_fill 0 = .ok (.aload_n 0, 1) := by decide +kernel
theorem dX1_fill_1 : decode cX1_fill 1 = .ok (.lload_n 2, 1) := by decide +kernel
theorem dX1_fill_2 : decode cX1_fill 2 = .ok (.putfield 21, 3) := by decide +kernel
theorem dX1_fill_5 : decode cX1_fill 5 = .ok (.aload_n 0, 1) := by decide +kernel
theorem dX1_fill_6 : decode cX1_fill 6 = .ok (.iconst 0, 1) := by decide +kernel
theorem dX1_fill_7 : decode cX1_fill 7 = .ok (.putfield 25, 3) := by decide +kernel
theorem dX1_fill_10 : decode cX1_fill 10 = .ok (.aload_n 0, 1) := by decide +kernel
theorem dX1_fill_11 : decode cX1_fill 11 = .ok (.iconst 0, 1) := by decide +kernel
theorem dX1_fill_12 : decode cX1_fill 12 = .ok (.putfield 29, 3) := by decide +kernel
theorem dX1_fill_15 : decode cX1_fill 15 = .ok (.aload_n 0, 1) := by decide +kernel
theorem dX1_fill_16 : decode cX1_fill 16 = .ok (.aload_n 1, 1) := by decide +kernel
theorem dX1_fill_17 : decode cX1_fill 17 = .ok (.iconst 2, 1) := by decide +kernel
theorem dX1_fill_18 : decode cX1_fill 18 = .ok (.invokevirtual 32, 3) := by decide +kernel
theorem dX1_fill_21 : decode cX1_fill 21 = .ok (.aload_n 0, 1) := by decide +kernel
theorem dX1_fill_22 : decode cX1_fill 22 = .ok (.aload_n 1, 1) := by decide +kernel
theorem dX1_fill_23 : decode cX1_fill 23 = .ok (.iconst 1, 1) := by decide +kernel
theorem dX1_fill_24 : decode cX1_fill 24 = .ok (.invokevirtual 32, 3) := by decide +kernel
theorem dX1_fill_27 : decode cX1_fill 27 = .ok (.aload_n 0, 1) := by decide +kernel
theorem dX1_fill_28 : decode cX1_fill 28 = .ok (.aload_n 1, 1) := by decide +kernel
theorem dX1_fill_29 : decode cX1_fill 29 = .ok (.iconst 0, 1) := by decide +kernel
theorem dX1_fill_30 : decode cX1_fill 30 = .ok (.invokevirtual 32, 3) := by decide +kernel
theorem dX1_fill_33 : decode cX1_fill 33 = .ok (.return_, 1) := by decide +kernel
theorem dX4_holdsKind_0 : decode cX4_holdsKind 0 = .ok (.aload_n 1, 1) := by decide +kernel
theorem dX4_holdsKind_1 : decode cX4_holdsKind 1 = .ok (.invokevirtual 92, 3) := by decide +kernel
theorem dX4_holdsKind_4 : decode cX4_holdsKind 4 = .ok (.iload_n 2, 1) := by decide +kernel
theorem dX4_holdsKind_5 : decode cX4_holdsKind 5 = .ok (.invokestatic 149, 3) := by decide +kernel
theorem dX4_holdsKind_8 : decode cX4_holdsKind 8 = .ok (.ifCond .eq 19, 3) := by decide +kernel
theorem dX4_holdsKind_11 : decode cX4_holdsKind 11 = .ok (.aload_n 0, 1) := by decide +kernel
theorem dX4_holdsKind_12 : decode cX4_holdsKind 12 = .ok (.getfield 10, 3) := by decide +kernel
theorem dX4_holdsKind_15 : decode cX4_holdsKind 15 = .ok (.iload_n 2, 1) := by decide +kernel
theorem dX4_holdsKind_16 : decode cX4_holdsKind 16 = .ok (.iload_n 3, 1) := by decide +kernel
theorem dX4_holdsKind_17 : decode cX4_holdsKind 17 = .ok (.invokevirtual 176, 3) := by decide +kernel
theorem dX4_holdsKind_20 : decode cX4_holdsKind 20 = .ok (.ifCond .eq 7, 3) := by decide +kernel
theorem dX4_holdsKind_23 : decode cX4_holdsKind 23 = .ok (.iconst 1, 1) := by decide +kernel
theorem dX4_holdsKind_24 : decode cX4_holdsKind 24 = .ok (.goto 4, 3) := by decide +kernel
theorem dX4_holdsKind_27 : decode cX4_holdsKind 27 = .ok (.iconst 0, 1) := by decide +kernel
theorem dX4_holdsKind_28 : decode cX4_holdsKind 28 = .ok (.ireturn, 1) := by decide +kernel
theorem dX4_isEntry_0 : decode cX4_isEntry 0 = .ok (.aload_n 0, 1) := by decide +kernel
theorem dX4_isEntry_1 : decode cX4_isEntry 1 = .ok (.aload_n 1, 1) := by decide +kernel
theorem dX4_isEntry_2 : decode cX4_isEntry 2 = .ok (.iload_n 2, 1) := by decide +kernel
theorem dX4_isEntry_3 : decode cX4_isEntry 3 = .ok (.iconst 0, 1) := by decide +kernel
theorem dX4_isEntry_4 : decode cX4_isEntry 4 = .ok (.invokevirtual 67, 3) := by decide +kernel
theorem dX4_isEntry_7 : decode cX4_isEntry 7 = .ok (.ifCond .ne 13, 3) := by decide +kernel
theorem dX4_isEntry_10 : decode cX4_isEntry 10 = .ok (.aload_n 0, 1) := by decide +kernel
theorem dX4_isEntry_11 : decode cX4_isEntry 11 = .ok (.aload_n 1, 1) := by decide +kernel
theorem dX4_isEntry_12 : decode cX4_isEntry 12 = .ok (.iload_n 2, 1) := by decide +kernel
theorem dX4_isEntry_13 : decode cX4_isEntry 13 = .ok (.iconst 1, 1) := by decide +kernel
theorem dX4_isEntry_14 : decode cX4_isEntry 14 = .ok (.invokevirtual 67, 3) := by decide +kernel
theorem dX4_isEntry_17 : decode cX4_isEntry 17 = .ok (.ifCond .eq 7, 3) := by decide +kernel
theorem dX4_isEntry_20 : decode cX4_isEntry 20 = .ok (.iconst 1, 1) := by decide +kernel
theorem dX4_isEntry_21 : decode cX4_isEntry 21 = .ok (.goto 4, 3) := by decide +kernel
theorem dX4_isEntry_24 : decode cX4_isEntry 24 = .ok (.iconst 0, 1) := by decide +kernel
theorem dX4_isEntry_25 : decode cX4_isEntry 25 = .ok (.ireturn, 1) := by decide +kernel
theorem dX4_isCommitOrAbsent_0 : decode cX4_isCommitOrAbsent 0 = .ok (.iload_n 2, 1) := by decide +kernel
theorem dX4_isCommitOrAbsent_1 : decode cX4_isCommitOrAbsent 1 = .ok (.iconst (-1), 1) := by decide +kernel
theorem dX4_isCommitOrAbsent_2 : decode cX4_isCommitOrAbsent 2 = .ok (.if_icmp .eq 13, 3) := by decide +kernel
theorem dX4_isCommitOrAbsent_5 : decode cX4_isCommitOrAbsent 5 = .ok (.aload_n 0, 1) := by decide +kernel
theorem dX4_isCommitOrAbsent_6 : decode cX4_isCommitOrAbsent 6 = .ok (.aload_n 1, 1) := by decide +kernel
theorem dX4_isCommitOrAbsent_7 : decode cX4_isCommitOrAbsent 7 = .ok (.iload_n 2, 1) := by decide +kernel
theorem dX4_isCommitOrAbsent_8 : decode cX4_isCommitOrAbsent 8 = .ok (.iconst 2, 1) := by decide +kernel
theorem dX4_isCommitOrAbsent_9 : decode cX4_isCommitOrAbsent 9 = .ok (.invokevirtual 67, 3) := by decide +kernel
theorem dX4_isCommitOrAbsent_12 : decode cX4_isCommitOrAbsent 12 = .ok (.ifCond .eq 7, 3) := by decide +kernel
theorem dX4_isCommitOrAbsent_15 : decode cX4_isCommitOrAbsent 15 = .ok (.iconst 1, 1) := by decide +kernel
theorem dX4_isCommitOrAbsent_16 : decode cX4_isCommitOrAbsent 16 = .ok (.goto 4, 3) := by decide +kernel
theorem dX4_isCommitOrAbsent_19 : decode cX4_isCommitOrAbsent 19 = .ok (.iconst 0, 1) := by decide +kernel
theorem dX4_isCommitOrAbsent_20 : decode cX4_isCommitOrAbsent 20 = .ok (.ireturn, 1) := by decide +kernel
theorem dX4_writeObject_0 : decode cX4_writeObject 0 = .ok (.aload_n 0, 1) := by decide +kernel
theorem dX4_writeObject_1 : decode cX4_writeObject 1 = .ok (.getfield 10, 3) := by decide +kernel
theorem dX4_writeObject_4 : decode cX4_writeObject 4 = .ok (.iload_n 2, 1) := by decide +kernel
theorem dX4_writeObject_5 : decode cX4_writeObject 5 = .ok (.iload_n 3, 1) := by decide +kernel
theorem dX4_writeObject_6 : decode cX4_writeObject 6 = .ok (.iload 4, 2) := by decide +kernel
theorem dX4_writeObject_8 : decode cX4_writeObject 8 = .ok (.iload 5, 2) := by decide +kernel
theorem dX4_writeObject_10 : decode cX4_writeObject 10 = .ok (.invokevirtual 180, 3) := by decide +kernel
theorem dX4_writeObject_13 : decode cX4_writeObject 13 = .ok (.istore 6, 2) := by decide +kernel
theorem dX4_writeObject_15 : decode cX4_writeObject 15 = .ok (.iload 6, 2) := by decide +kernel
theorem dX4_writeObject_17 : decode cX4_writeObject 17 = .ok (.iconst (-1), 1) := by decide +kernel
theorem dX4_writeObject_18 : decode cX4_writeObject 18 = .ok (.if_icmp .ne 16, 3) := by decide +kernel
theorem dX4_writeObject_21 : decode cX4_writeObject 21 = .ok (.aload_n 0, 1) := by decide +kernel
theorem dX4_writeObject_22 : decode cX4_writeObject 22 = .ok (.getfield 10, 3) := by decide +kernel
theorem dX4_writeObject_25 : decode cX4_writeObject 25 = .ok (.invokevirtual 184, 3) := by decide +kernel
theorem dX4_writeObject_28 : decode cX4_writeObject 28 = .ok (.ifCond .eq 6, 3) := by decide +kernel
theorem dX4_writeObject_31 : decode cX4_writeObject 31 = .ok (.bipush (-3), 2) := by decide +kernel
theorem dX4_writeObject_33 : decode cX4_writeObject 33 = .ok (.ireturn, 1) := by decide +kernel
theorem dX4_writeObject_34 : decode cX4_writeObject 34 = .ok (.aload_n 1, 1) := by decide +kernel
theorem dX4_writeObject_35 : decode cX4_writeObject 35 = .ok (.invokevirtual 92, 3) := by decide +kernel
theorem dX4_writeObject_38 : decode cX4_writeObject 38 = .ok (.iload 6, 2) := by decide +kernel
theorem dX4_writeObject_40 : decode cX4_writeObject 40 = .ok (.invokestatic 149, 3) := by decide +kernel
theorem dX4_writeObject_43 : decode cX4_writeObject 43 = .ok (.ifCond .eq 6, 3) := by decide +kernel
theorem dX4_writeObject_46 : decode cX4_writeObject 46 = .ok (.iload 6, 2) := by decide +kernel
theorem dX4_writeObject_48 : decode cX4_writeObject 48 = .ok (.ireturn, 1) := by decide +kernel
theorem dX4_writeObject_49 : decode cX4_writeObject 49 = .ok (.aload_n 1, 1) := by decide +kernel
theorem dX4_writeObject_50 : decode cX4_writeObject 50 = .ok (.invokevirtual 187, 3) := by decide +kernel
theorem dX4_writeObject_53 : decode cX4_writeObject 53 = .ok (.ifCond .ne 6, 3) := by decide +kernel
theorem dX4_writeObject_56 : decode cX4_writeObject 56 = .ok (.bipush (-2), 2) := by decide +kernel
theorem dX4_writeObject_58 : decode cX4_writeObject 58 = .ok (.ireturn, 1) := by decide +kernel
theorem dX4_writeObject_59 : decode cX4_writeObject 59 = .ok (.iload 6, 2) := by decide +kernel
theorem dX4_writeObject_61 : decode cX4_writeObject 61 = .ok (.iconst (-1), 1) := by decide +kernel
theorem dX4_writeObject_62 : decode cX4_writeObject 62 = .ok (.if_icmp .ne 18, 3) := by decide +kernel
theorem dX4_writeObject_65 : decode cX4_writeObject 65 = .ok (.aload_n 0, 1) := by decide +kernel
theorem dX4_writeObject_66 : decode cX4_writeObject 66 = .ok (.getfield 10, 3) := by decide +kernel
theorem dX4_writeObject_69 : decode cX4_writeObject 69 = .ok (.iload_n 2, 1) := by decide +kernel
theorem dX4_writeObject_70 : decode cX4_writeObject 70 = .ok (.iload_n 3, 1) := by decide +kernel
theorem dX4_writeObject_71 : decode cX4_writeObject 71 = .ok (.iload 4, 2) := by decide +kernel
theorem dX4_writeObject_73 : decode cX4_writeObject 73 = .ok (.iload 5, 2) := by decide +kernel
theorem dX4_writeObject_75 : decode cX4_writeObject 75 = .ok (.invokevirtual 190, 3) := by decide +kernel
theorem dX4_writeObject_78 : decode cX4_writeObject 78 = .ok (.istore 6, 2) := by decide +kernel
theorem dX4_writeObject_80 : decode cX4_writeObject 80 = .ok (.aload_n 1, 1) := by decide +kernel
theorem dX4_writeObject_81 : decode cX4_writeObject 81 = .ok (.iload 6, 2) := by decide +kernel
theorem dX4_writeObject_83 : decode cX4_writeObject 83 = .ok (.invokevirtual 193, 3) := by decide +kernel
theorem dX4_writeObject_86 : decode cX4_writeObject 86 = .ok (.iload 6, 2) := by decide +kernel
theorem dX4_writeObject_88 : decode cX4_writeObject 88 = .ok (.ireturn, 1) := by decide +kernel
theorem dX4_clearTargets_0 : decode cX4_clearTargets 0 = .ok (.iconst 0, 1) := by decide +kernel
theorem dX4_clearTargets_1 : decode cX4_clearTargets 1 = .ok (.istore_n 1, 1) := by decide +kernel
theorem dX4_clearTargets_2 : decode cX4_clearTargets 2 = .ok (.iload_n 1, 1) := by decide +kernel
theorem dX4_clearTargets_3 : decode cX4_clearTargets 3 = .ok (.bipush 8, 2) := by decide +kernel
theorem dX4_clearTargets_5 : decode cX4_clearTargets 5 = .ok (.if_icmp .ge 17, 3) := by decide +kernel
theorem dX4_clearTargets_8 : decode cX4_clearTargets 8 = .ok (.aload_n 0, 1) := by decide +kernel
theorem dX4_clearTargets_9 : decode cX4_clearTargets 9 = .ok (.getfield 41, 3) := by decide +kernel
theorem dX4_clearTargets_12 : decode cX4_clearTargets 12 = .ok (.iload_n 1, 1) := by decide +kernel
theorem dX4_clearTargets_13 : decode cX4_clearTargets 13 = .ok (.bipush (-2), 2) := by decide +kernel
theorem dX4_clearTargets_15 : decode cX4_clearTargets 15 = .ok (.iastore, 1) := by decide +kernel
theorem dX4_clearTargets_16 : decode cX4_clearTargets 16 = .ok (.iinc 1 1, 3) := by decide +kernel
theorem dX4_clearTargets_19 : decode cX4_clearTargets 19 = .ok (.goto (-17), 3) := by decide +kernel
theorem dX4_clearTargets_22 : decode cX4_clearTargets 22 = .ok (.return_, 1) := by decide +kernel
theorem dX4_aimAtOne_0 : decode cX4_aimAtOne 0 = .ok (.aload_n 0, 1) := by decide +kernel
theorem dX4_aimAtOne_1 : decode cX4_aimAtOne 1 = .ok (.invokevirtual 196, 3) := by decide +kernel
theorem dX4_aimAtOne_4 : decode cX4_aimAtOne 4 = .ok (.aload_n 0, 1) := by decide +kernel
theorem dX4_aimAtOne_5 : decode cX4_aimAtOne 5 = .ok (.getfield 41, 3) := by decide +kernel
theorem dX4_aimAtOne_8 : decode cX4_aimAtOne 8 = .ok (.iload_n 1, 1) := by decide +kernel
theorem dX4_aimAtOne_9 : decode cX4_aimAtOne 9 = .ok (.iload_n 2, 1) := by decide +kernel
theorem dX4_aimAtOne_10 : decode cX4_aimAtOne 10 = .ok (.iastore, 1) := by decide +kernel
theorem dX4_aimAtOne_11 : decode cX4_aimAtOne 11 = .ok (.return_, 1) := by decide +kernel
theorem dX4_aimAtValues_0 : decode cX4_aimAtValues 0 = .ok (.aload_n 0, 1) := by decide +kernel
theorem dX4_aimAtValues_1 : decode cX4_aimAtValues 1 = .ok (.invokevirtual 196, 3) := by decide +kernel
theorem dX4_aimAtValues_4 : decode cX4_aimAtValues 4 = .ok (.iconst 0, 1) := by decide +kernel
theorem dX4_aimAtValues_5 : decode cX4_aimAtValues 5 = .ok (.istore 4, 2) := by decide +kernel
theorem dX4_aimAtValues_7 : decode cX4_aimAtValues 7 = .ok (.iload 4, 2) := by decide +kernel
theorem dX4_aimAtValues_9 : decode cX4_aimAtValues 9 = .ok (.iconst 4, 1) := by decide +kernel
theorem dX4_aimAtValues_10 : decode cX4_aimAtValues 10 = .ok (.if_icmp .ge 43, 3) := by decide +kernel
theorem dX4_aimAtValues_13 : decode cX4_aimAtValues 13 = .ok (.iload_n 2, 1) := by decide +kernel
theorem dX4_aimAtValues_14 : decode cX4_aimAtValues 14 = .ok (.iload 4, 2) := by decide +kernel
theorem dX4_aimAtValues_16 : decode cX4_aimAtValues 16 = .ok (.invokestatic 199, 3) := by decide +kernel
theorem dX4_aimAtValues_19 : decode cX4_aimAtValues 19 = .ok (.ifCond .eq 28, 3) := by decide +kernel
theorem dX4_aimAtValues_22 : decode cX4_aimAtValues 22 = .ok (.aload_n 1, 1) := by decide +kernel
theorem dX4_aimAtValues_23 : decode cX4_aimAtValues 23 = .ok (.iload 4, 2) := by decide +kernel
theorem dX4_aimAtValues_25 : decode cX4_aimAtValues 25 = .ok (.invokevirtual 63, 3) := by decide +kernel
theorem dX4_aimAtValues_28 : decode cX4_aimAtValues 28 = .ok (.iconst (-1), 1) := by decide +kernel
theorem dX4_aimAtValues_29 : decode cX4_aimAtValues 29 = .ok (.if_icmp .eq 18, 3) := by decide +kernel
theorem dX4_aimAtValues_32 : decode cX4_aimAtValues 32 = .ok (.aload_n 0, 1) := by decide +kernel
theorem dX4_aimAtValues_33 : decode cX4_aimAtValues 33 = .ok (.getfield 41, 3) := by decide +kernel
theorem dX4_aimAtValues_36 : decode cX4_aimAtValues 36 = .ok (.iload 4, 2) := by decide +kernel
theorem dX4_aimAtValues_38 : decode cX4_aimAtValues 38 = .ok (.iload_n 3, 1) := by decide +kernel
theorem dX4_aimAtValues_39 : decode cX4_aimAtValues 39 = .ok (.iadd, 1) := by decide +kernel
theorem dX4_aimAtValues_40 : decode cX4_aimAtValues 40 = .ok (.aload_n 1, 1) := by decide +kernel
theorem dX4_aimAtValues_41 : decode cX4_aimAtValues 41 = .ok (.iload 4, 2) := by decide +kernel
theorem dX4_aimAtValues_43 : decode cX4_aimAtValues 43 = .ok (.invokevirtual 63, 3) := by decide +kernel
theorem dX4_aimAtValues_46 : decode cX4_aimAtValues 46 = .ok (.iastore, 1) := by decide +kernel
theorem dX4_aimAtValues_47 : decode cX4_aimAtValues 47 = .ok (.iinc 4 1, 3) := by decide +kernel
theorem dX4_aimAtValues_50 : decode cX4_aimAtValues 50 = .ok (.goto (-43), 3) := by decide +kernel
theorem dX4_aimAtValues_53 : decode cX4_aimAtValues 53 = .ok (.return_, 1) := by decide +kernel
theorem dX4_verdictOn_0 : decode cX4_verdictOn 0 = .ok (.aload_n 1, 1) := by decide +kernel
theorem dX4_verdictOn_1 : decode cX4_verdictOn 1 = .ok (.iconst 4, 1) := by decide +kernel
theorem dX4_verdictOn_2 : decode cX4_verdictOn 2 = .ok (.iload_n 3, 1) := by decide +kernel
theorem dX4_verdictOn_3 : decode cX4_verdictOn 3 = .ok (.iadd, 1) := by decide +kernel
theorem dX4_verdictOn_4 : decode cX4_verdictOn 4 = .ok (.invokevirtual 63, 3) := by decide +kernel
theorem dX4_verdictOn_7 : decode cX4_verdictOn 7 = .ok (.istore 4, 2) := by decide +kernel
theorem dX4_verdictOn_9 : decode cX4_verdictOn 9 = .ok (.aload_n 2, 1) := by decide +kernel
theorem dX4_verdictOn_10 : decode cX4_verdictOn 10 = .ok (.iload_n 3, 1) := by decide +kernel
theorem dX4_verdictOn_11 : decode cX4_verdictOn 11 = .ok (.invokevirtual 63, 3) := by decide +kernel
theorem dX4_verdictOn_14 : decode cX4_verdictOn 14 = .ok (.iload 4, 2) := by decide +kernel
theorem dX4_verdictOn_16 : decode cX4_verdictOn 16 = .ok (.if_icmp .eq 5, 3) := by decide +kernel
theorem dX4_verdictOn_19 : decode cX4_verdictOn 19 = .ok (.iconst 2, 1) := by decide +kernel
theorem dX4_verdictOn_20 : decode cX4_verdictOn 20 = .ok (.ireturn, 1) := by decide +kernel
theorem dX4_verdictOn_21 : decode cX4_verdictOn 21 = .ok (.iload 4, 2) := by decide +kernel
theorem dX4_verdictOn_23 : decode cX4_verdictOn 23 = .ok (.iconst (-1), 1) := by decide +kernel
theorem dX4_verdictOn_24 : decode cX4_verdictOn 24 = .ok (.if_icmp .eq 25, 3) := by decide +kernel
theorem dX4_verdictOn_27 : decode cX4_verdictOn 27 = .ok (.aload_n 0, 1) := by decide +kernel
theorem dX4_verdictOn_28 : decode cX4_verdictOn 28 = .ok (.getfield 10, 3) := by decide +kernel
theorem dX4_verdictOn_31 : decode cX4_verdictOn 31 = .ok (.aload_n 1, 1) := by decide +kernel
theorem dX4_verdictOn_32 : decode cX4_verdictOn 32 = .ok (.iload_n 3, 1) := by decide +kernel
theorem dX4_verdictOn_33 : decode cX4_verdictOn 33 = .ok (.invokevirtual 63, 3) := by decide +kernel
theorem dX4_verdictOn_36 : decode cX4_verdictOn 36 = .ok (.invokevirtual 206, 3) := by decide +kernel
theorem dX4_verdictOn_39 : decode cX4_verdictOn 39 = .ok (.iload 4, 2) := by decide +kernel
theorem dX4_verdictOn_41 : decode cX4_verdictOn 41 = .ok (.invokestatic 149, 3) := by decide +kernel
theorem dX4_verdictOn_44 : decode cX4_verdictOn 44 = .ok (.ifCond .ne 5, 3) := by decide +kernel
theorem dX4_verdictOn_47 : decode cX4_verdictOn 47 = .ok (.iconst 3, 1) := by decide +kernel
theorem dX4_verdictOn_48 : decode cX4_verdictOn 48 = .ok (.ireturn, 1) := by decide +kernel
theorem dX4_verdictOn_49 : decode cX4_verdictOn 49 = .ok (.iconst 1, 1) := by decide +kernel
theorem dX4_verdictOn_50 : decode cX4_verdictOn 50 = .ok (.ireturn, 1) := by decide +kernel
theorem dX4_judge_0 : decode cX4_judge 0 = .ok (.iconst 1, 1) := by decide +kernel
theorem dX4_judge_1 : decode cX4_judge 1 = .ok (.istore 4, 2) := by decide +kernel
theorem dX4_judge_3 : decode cX4_judge 3 = .ok (.iconst 0, 1) := by decide +kernel
theorem dX4_judge_4 : decode cX4_judge 4 = .ok (.istore 5, 2) := by decide +kernel
theorem dX4_judge_6 : decode cX4_judge 6 = .ok (.iload 5, 2) := by decide +kernel
theorem dX4_judge_8 : decode cX4_judge 8 = .ok (.iconst 4, 1) := by decide +kernel
theorem dX4_judge_9 : decode cX4_judge 9 = .ok (.if_icmp .ge 70, 3) := by decide +kernel
theorem dX4_judge_12 : decode cX4_judge 12 = .ok (.aload_n 0, 1) := by decide +kernel
theorem dX4_judge_13 : decode cX4_judge 13 = .ok (.getfield 37, 3) := by decide +kernel
theorem dX4_judge_16 : decode cX4_judge 16 = .ok (.iload 5, 2) := by decide +kernel
theorem dX4_judge_18 : decode cX4_judge 18 = .ok (.iload_n 3, 1) := by decide +kernel
theorem dX4_judge_19 : decode cX4_judge 19 = .ok (.iload 5, 2) := by decide +kernel
theorem dX4_judge_21 : decode cX4_judge 21 = .ok (.invokestatic 199, 3) := by decide +kernel
theorem dX4_judge_24 : decode cX4_judge 24 = .ok (.ifCond .eq 14, 3) := by decide +kernel
theorem dX4_judge_27 : decode cX4_judge 27 = .ok (.aload_n 0, 1) := by decide +kernel
theorem dX4_judge_28 : decode cX4_judge 28 = .ok (.aload_n 1, 1) := by decide +kernel
theorem dX4_judge_29 : decode cX4_judge 29 = .ok (.aload_n 2, 1) := by decide +kernel
theorem dX4_judge_30 : decode cX4_judge 30 = .ok (.iload 5, 2) := by decide +kernel
theorem dX4_judge_32 : decode cX4_judge 32 = .ok (.invokevirtual 202, 3) := by decide +kernel
theorem dX4_judge_35 : decode cX4_judge 35 = .ok (.goto 4, 3) := by decide +kernel
theorem dX4_judge_38 : decode cX4_judge 38 = .ok (.iconst 0, 1) := by decide +kernel
theorem dX4_judge_39 : decode cX4_judge 39 = .ok (.iastore, 1) := by decide +kernel
theorem dX4_judge_40 : decode cX4_judge 40 = .ok (.iload 4, 2) := by decide +kernel
theorem dX4_judge_42 : decode cX4_judge 42 = .ok (.ifCond .eq 28, 3) := by decide +kernel
theorem dX4_judge_45 : decode cX4_judge 45 = .ok (.aload_n 0, 1) := by decide +kernel
theorem dX4_judge_46 : decode cX4_judge 46 = .ok (.getfield 37, 3) := by decide +kernel
theorem dX4_judge_49 : decode cX4_judge 49 = .ok (.iload 5, 2) := by decide +kernel
theorem dX4_judge_51 : decode cX4_judge 51 = .ok (.iaload, 1) := by decide +kernel
theorem dX4_judge_52 : decode cX4_judge 52 = .ok (.ifCond .eq 14, 3) := by decide +kernel
theorem dX4_judge_55 : decode cX4_judge 55 = .ok (.aload_n 0, 1) := by decide +kernel
theorem dX4_judge_56 : decode cX4_judge 56 = .ok (.getfield 37, 3) := by decide +kernel
theorem dX4_judge_59 : decode cX4_judge 59 = .ok (.iload 5, 2) := by decide +kernel
theorem dX4_judge_61 : decode cX4_judge 61 = .ok (.iaload, 1) := by decide +kernel
theorem dX4_judge_62 : decode cX4_judge 62 = .ok (.iconst 1, 1) := by decide +kernel
theorem dX4_judge_63 : decode cX4_judge 63 = .ok (.if_icmp .ne 7, 3) := by decide +kernel
theorem dX4_judge_66 : decode cX4_judge 66 = .ok (.iconst 1, 1) := by decide +kernel
theorem dX4_judge_67 : decode cX4_judge 67 = .ok (.goto 4, 3) := by decide +kernel
theorem dX4_judge_70 : decode cX4_judge 70 = .ok (.iconst 0, 1) := by decide +kernel
theorem dX4_judge_71 : decode cX4_judge 71 = .ok (.istore 4, 2) := by decide +kernel
theorem dX4_judge_73 : decode cX4_judge 73 = .ok (.iinc 5 1, 3) := by decide +kernel
theorem dX4_judge_76 : decode cX4_judge 76 = .ok (.goto (-70), 3) := by decide +kernel
theorem dX4_judge_79 : decode cX4_judge 79 = .ok (.iload 4, 2) := by decide +kernel
theorem dX4_judge_81 : decode cX4_judge 81 = .ok (.ireturn, 1) := by decide +kernel
theorem dX4_carryOutPush_0 : decode cX4_carryOutPush 0 = .ok (.aload_n 2, 1) := by decide +kernel
theorem dX4_carryOutPush_1 : decode cX4_carryOutPush 1 = .ok (.aload_n 0, 1) := by decide +kernel
theorem dX4_carryOutPush_2 : decode cX4_carryOutPush 2 = .ok (.getfield 33, 3) := by decide +kernel
theorem dX4_carryOutPush_5 : decode cX4_carryOutPush 5 = .ok (.invokevirtual 113, 3) := by decide +kernel
theorem dX4_carryOutPush_8 : decode cX4_carryOutPush 8 = .ok (.invokevirtual 116, 3) := by decide +kernel
theorem dX4_carryOutPush_11 : decode cX4_carryOutPush 11 = .ok (.ifCond .ne 5, 3) := by decide +kernel
theorem dX4_carryOutPush_14 : decode cX4_carryOutPush 14 = .ok (.iconst 0, 1) := by decide +kernel
theorem dX4_carryOutPush_15 : decode cX4_carryOutPush 15 = .ok (.ireturn, 1) := by decide +kernel
theorem dX4_carryOutPush_16 : decode cX4_carryOutPush 16 = .ok (.aload_n 0, 1) := by decide +kernel
theorem dX4_carryOutPush_17 : decode cX4_carryOutPush 17 = .ok (.aload_n 1, 1) := by decide +kernel
theorem dX4_carryOutPush_18 : decode cX4_carryOutPush 18 = .ok (.iload_n 3, 1) := by decide +kernel
theorem dX4_carryOutPush_19 : decode cX4_carryOutPush 19 = .ok (.iconst 0, 1) := by decide +kernel
theorem dX4_carryOutPush_20 : decode cX4_carryOutPush 20 = .ok (.invokevirtual 120, 3) := by decide +kernel
theorem dX4_carryOutPush_23 : decode cX4_carryOutPush 23 = .ok (.aload_n 2, 1) := by decide +kernel
theorem dX4_carryOutPush_24 : decode cX4_carryOutPush 24 = .ok (.aload_n 0, 1) := by decide +kernel
theorem dX4_carryOutPush_25 : decode cX4_carryOutPush 25 = .ok (.getfield 41, 3) := by decide +kernel
theorem dX4_carryOutPush_28 : decode cX4_carryOutPush 28 = .ok (.invokevirtual 78, 3) := by decide +kernel
theorem dX4_carryOutPush_31 : decode cX4_carryOutPush 31 = .ok (.ifCond .ne 5, 3) := by decide +kernel
theorem dX4_carryOutPush_34 : decode cX4_carryOutPush 34 = .ok (.iconst 0, 1) := by decide +kernel
theorem dX4_carryOutPush_35 : decode cX4_carryOutPush 35 = .ok (.ireturn, 1) := by decide +kernel
theorem dX4_carryOutPush_36 : decode cX4_carryOutPush 36 = .ok (.aload_n 0, 1) := by decide +kernel
theorem dX4_carryOutPush_37 : decode cX4_carryOutPush 37 = .ok (.aload_n 1, 1) := by decide +kernel
theorem dX4_carryOutPush_38 : decode cX4_carryOutPush 38 = .ok (.iload_n 3, 1) := by decide +kernel
theorem dX4_carryOutPush_39 : decode cX4_carryOutPush 39 = .ok (.iconst 4, 1) := by decide +kernel
theorem dX4_carryOutPush_40 : decode cX4_carryOutPush 40 = .ok (.invokevirtual 120, 3) := by decide +kernel
theorem dX4_carryOutPush_43 : decode cX4_carryOutPush 43 = .ok (.aload_n 1, 1) := by decide +kernel
theorem dX4_carryOutPush_44 : decode cX4_carryOutPush 44 = .ok (.aload_n 0, 1) := by decide +kernel
theorem dX4_carryOutPush_45 : decode cX4_carryOutPush 45 = .ok (.getfield 41, 3) := by decide +kernel
theorem dX4_carryOutPush_48 : decode cX4_carryOutPush 48 = .ok (.invokevirtual 78, 3) := by decide +kernel
theorem dX4_carryOutPush_51 : decode cX4_carryOutPush 51 = .ok (.ireturn, 1) := by decide +kernel
theorem dX4_blob_0 : decode cX4_blob 0 = .ok (.iload_n 1, 1) := by decide +kernel
theorem dX4_blob_1 : decode cX4_blob 1 = .ok (.invokestatic 44, 3) := by decide +kernel
theorem dX4_blob_4 : decode cX4_blob 4 = .ok (.ifCond .ne 5, 3) := by decide +kernel
theorem dX4_blob_7 : decode cX4_blob 7 = .ok (.iconst (-1), 1) := by decide +kernel
theorem dX4_blob_8 : decode cX4_blob 8 = .ok (.ireturn, 1) := by decide +kernel
theorem dX4_blob_9 : decode cX4_blob 9 = .ok (.aload_n 0, 1) := by decide +kernel
theorem dX4_blob_10 : decode cX4_blob 10 = .ok (.getfield 18, 3) := by decide +kernel
theorem dX4_blob_13 : decode cX4_blob 13 = .ok (.iload_n 1, 1) := by decide +kernel
theorem dX4_blob_14 : decode cX4_blob 14 = .ok (.aaload, 1) := by decide +kernel
theorem dX4_blob_15 : decode cX4_blob 15 = .ok (.invokevirtual 48, 3) := by decide +kernel
theorem dX4_blob_18 : decode cX4_blob 18 = .ok (.ifCond .ne 6, 3) := by decide +kernel
theorem dX4_blob_21 : decode cX4_blob 21 = .ok (.bipush (-2), 2) := by decide +kernel
theorem dX4_blob_23 : decode cX4_blob 23 = .ok (.ireturn, 1) := by decide +kernel
theorem dX4_blob_24 : decode cX4_blob 24 = .ok (.aload_n 0, 1) := by decide +kernel
theorem dX4_blob_25 : decode cX4_blob 25 = .ok (.aload_n 0, 1) := by decide +kernel
theorem dX4_blob_26 : decode cX4_blob 26 = .ok (.getfield 18, 3) := by decide +kernel
theorem dX4_blob_29 : decode cX4_blob 29 = .ok (.iload_n 1, 1) := by decide +kernel
theorem dX4_blob_30 : decode cX4_blob 30 = .ok (.aaload, 1) := by decide +kernel
theorem dX4_blob_31 : decode cX4_blob 31 = .ok (.iconst 0, 1) := by decide +kernel
theorem dX4_blob_32 : decode cX4_blob 32 = .ok (.iload_n 2, 1) := by decide +kernel
theorem dX4_blob_33 : decode cX4_blob 33 = .ok (.iconst (-1), 1) := by decide +kernel
theorem dX4_blob_34 : decode cX4_blob 34 = .ok (.iconst (-1), 1) := by decide +kernel
theorem dX4_blob_35 : decode cX4_blob 35 = .ok (.invokevirtual 52, 3) := by decide +kernel
theorem dX4_blob_38 : decode cX4_blob 38 = .ok (.ireturn, 1) := by decide +kernel
theorem dX4_tree_0 : decode cX4_tree 0 = .ok (.iload_n 1, 1) := by decide +kernel
theorem dX4_tree_1 : decode cX4_tree 1 = .ok (.invokestatic 44, 3) := by decide +kernel
theorem dX4_tree_4 : decode cX4_tree 4 = .ok (.ifCond .ne 5, 3) := by decide +kernel
theorem dX4_tree_7 : decode cX4_tree 7 = .ok (.iconst (-1), 1) := by decide +kernel
theorem dX4_tree_8 : decode cX4_tree 8 = .ok (.ireturn, 1) := by decide +kernel
theorem dX4_tree_9 : decode cX4_tree 9 = .ok (.aload_n 0, 1) := by decide +kernel
theorem dX4_tree_10 : decode cX4_tree 10 = .ok (.getfield 18, 3) := by decide +kernel
theorem dX4_tree_13 : decode cX4_tree 13 = .ok (.iload_n 1, 1) := by decide +kernel
theorem dX4_tree_14 : decode cX4_tree 14 = .ok (.aaload, 1) := by decide +kernel
theorem dX4_tree_15 : decode cX4_tree 15 = .ok (.astore 4, 2) := by decide +kernel
theorem dX4_tree_17 : decode cX4_tree 17 = .ok (.aload 4, 2) := by decide +kernel
theorem dX4_tree_19 : decode cX4_tree 19 = .ok (.invokevirtual 48, 3) := by decide +kernel
theorem dX4_tree_22 : decode cX4_tree 22 = .ok (.ifCond .ne 6, 3) := by decide +kernel
theorem dX4_tree_25 : decode cX4_tree 25 = .ok (.bipush (-2), 2) := by decide +kernel
theorem dX4_tree_27 : decode cX4_tree 27 = .ok (.ireturn, 1) := by decide +kernel
theorem dX4_tree_28 : decode cX4_tree 28 = .ok (.aload_n 0, 1) := by decide +kernel
theorem dX4_tree_29 : decode cX4_tree 29 = .ok (.aload 4, 2) := by decide +kernel
theorem dX4_tree_31 : decode cX4_tree 31 = .ok (.iload_n 2, 1) := by decide +kernel
theorem dX4_tree_32 : decode cX4_tree 32 = .ok (.invokevirtual 56, 3) := by decide +kernel
theorem dX4_tree_35 : decode cX4_tree 35 = .ok (.ifCond .eq 18, 3) := by decide +kernel
theorem dX4_tree_38 : decode cX4_tree 38 = .ok (.iload_n 3, 1) := by decide +kernel
theorem dX4_tree_39 : decode cX4_tree 39 = .ok (.iconst (-1), 1) := by decide +kernel
theorem dX4_tree_40 : decode cX4_tree 40 = .ok (.if_icmp .eq 15, 3) := by decide +kernel
theorem dX4_tree_43 : decode cX4_tree 43 = .ok (.aload_n 0, 1) := by decide +kernel
theorem dX4_tree_44 : decode cX4_tree 44 = .ok (.aload 4, 2) := by decide +kernel
theorem dX4_tree_46 : decode cX4_tree 46 = .ok (.iload_n 3, 1) := by decide +kernel
theorem dX4_tree_47 : decode cX4_tree 47 = .ok (.invokevirtual 56, 3) := by decide +kernel
theorem dX4_tree_50 : decode cX4_tree 50 = .ok (.ifCond .ne 5, 3) := by decide +kernel
theorem dX4_tree_53 : decode cX4_tree 53 = .ok (.iconst (-1), 1) := by decide +kernel
theorem dX4_tree_54 : decode cX4_tree 54 = .ok (.ireturn, 1) := by decide +kernel
theorem dX4_tree_55 : decode cX4_tree 55 = .ok (.aload_n 0, 1) := by decide +kernel
theorem dX4_tree_56 : decode cX4_tree 56 = .ok (.aload 4, 2) := by decide +kernel
theorem dX4_tree_58 : decode cX4_tree 58 = .ok (.iconst 1, 1) := by decide +kernel
theorem dX4_tree_59 : decode cX4_tree 59 = .ok (.iload_n 2, 1) := by decide +kernel
theorem dX4_tree_60 : decode cX4_tree 60 = .ok (.iload_n 3, 1) := by decide +kernel
theorem dX4_tree_61 : decode cX4_tree 61 = .ok (.iconst (-1), 1) := by decide +kernel
theorem dX4_tree_62 : decode cX4_tree 62 = .ok (.invokevirtual 52, 3) := by decide +kernel
theorem dX4_tree_65 : decode cX4_tree 65 = .ok (.ireturn, 1) := by decide +kernel
theorem dX4_commit_0 : decode cX4_commit 0 = .ok (.iload_n 1, 1) := by decide +kernel
theorem dX4_commit_1 : decode cX4_commit 1 = .ok (.invokestatic 44, 3) := by decide +kernel
theorem dX4_commit_4 : decode cX4_commit 4 = .ok (.ifCond .eq 10, 3) := by decide +kernel
theorem dX4_commit_7 : decode cX4_commit 7 = .ok (.iload_n 2, 1) := by decide +kernel
theorem dX4_commit_8 : decode cX4_commit 8 = .ok (.invokestatic 60, 3) := by decide +kernel
theorem dX4_commit_11 : decode cX4_commit 11 = .ok (.ifCond .ne 5, 3) := by decide +kernel
theorem dX4_commit_14 : decode cX4_commit 14 = .ok (.iconst (-1), 1) := by decide +kernel
theorem dX4_commit_15 : decode cX4_commit 15 = .ok (.ireturn, 1) := by decide +kernel
theorem dX4_commit_16 : decode cX4_commit 16 = .ok (.aload_n 0, 1) := by decide +kernel
theorem dX4_commit_17 : decode cX4_commit 17 = .ok (.getfield 18, 3) := by decide +kernel
theorem dX4_commit_20 : decode cX4_commit 20 = .ok (.iload_n 1, 1) := by decide +kernel
theorem dX4_commit_21 : decode cX4_commit 21 = .ok (.aaload, 1) := by decide +kernel
theorem dX4_commit_22 : decode cX4_commit 22 = .ok (.astore 5, 2) := by decide +kernel
theorem dX4_commit_24 : decode cX4_commit 24 = .ok (.aload 5, 2) := by decide +kernel
theorem dX4_commit_26 : decode cX4_commit 26 = .ok (.invokevirtual 48, 3) := by decide +kernel
theorem dX4_commit_29 : decode cX4_commit 29 = .ok (.ifCond .ne 6, 3) := by decide +kernel
theorem dX4_commit_32 : decode cX4_commit 32 = .ok (.bipush (-2), 2) := by decide +kernel
theorem dX4_commit_34 : decode cX4_commit 34 = .ok (.ireturn, 1) := by decide +kernel
theorem dX4_commit_35 : decode cX4_commit 35 = .ok (.aload 5, 2) := by decide +kernel
theorem dX4_commit_37 : decode cX4_commit 37 = .ok (.iload_n 2, 1) := by decide +kernel
theorem dX4_commit_38 : decode cX4_commit 38 = .ok (.invokevirtual 63, 3) := by decide +kernel
theorem dX4_commit_41 : decode cX4_commit 41 = .ok (.istore 6, 2) := by decide +kernel
theorem dX4_commit_43 : decode cX4_commit 43 = .ok (.aload_n 0, 1) := by decide +kernel
theorem dX4_commit_44 : decode cX4_commit 44 = .ok (.aload 5, 2) := by decide +kernel
theorem dX4_commit_46 : decode cX4_commit 46 = .ok (.iload_n 3, 1) := by decide +kernel
theorem dX4_commit_47 : decode cX4_commit 47 = .ok (.iconst 1, 1) := by decide +kernel
theorem dX4_commit_48 : decode cX4_commit 48 = .ok (.invokevirtual 67, 3) := by decide +kernel
theorem dX4_commit_51 : decode cX4_commit 51 = .ok (.ifCond .eq 14, 3) := by decide +kernel
theorem dX4_commit_54 : decode cX4_commit 54 = .ok (.aload_n 0, 1) := by decide +kernel
theorem dX4_commit_55 : decode cX4_commit 55 = .ok (.aload 5, 2) := by decide +kernel
theorem dX4_commit_57 : decode cX4_commit 57 = .ok (.iload 4, 2) := by decide +kernel
theorem dX4_commit_59 : decode cX4_commit 59 = .ok (.invokevirtual 71, 3) := by decide +kernel
theorem dX4_commit_62 : decode cX4_commit 62 = .ok (.ifCond .ne 5, 3) := by decide +kernel
theorem dX4_commit_65 : decode cX4_commit 65 = .ok (.iconst (-1), 1) := by decide +kernel
theorem dX4_commit_66 : decode cX4_commit 66 = .ok (.ireturn, 1) := by decide +kernel
theorem dX4_commit_67 : decode cX4_commit 67 = .ok (.iload 4, 2) := by decide +kernel
theorem dX4_commit_69 : decode cX4_commit 69 = .ok (.iconst (-1), 1) := by decide +kernel
theorem dX4_commit_70 : decode cX4_commit 70 = .ok (.if_icmp .eq 12, 3) := by decide +kernel
theorem dX4_commit_73 : decode cX4_commit 73 = .ok (.iload 4, 2) := by decide +kernel
theorem dX4_commit_75 : decode cX4_commit 75 = .ok (.iload 6, 2) := by decide +kernel
theorem dX4_commit_77 : decode cX4_commit 77 = .ok (.if_icmp .ne 5, 3) := by decide +kernel
theorem dX4_commit_80 : decode cX4_commit 80 = .ok (.iconst (-1), 1) := by decide +kernel
theorem dX4_commit_81 : decode cX4_commit 81 = .ok (.ireturn, 1) := by decide +kernel
theorem dX4_commit_82 : decode cX4_commit 82 = .ok (.iload 6, 2) := by decide +kernel
theorem dX4_commit_84 : decode cX4_commit 84 = .ok (.iconst (-1), 1) := by decide +kernel
theorem dX4_commit_85 : decode cX4_commit 85 = .ok (.if_icmp .ne 17, 3) := by decide +kernel
theorem dX4_commit_88 : decode cX4_commit 88 = .ok (.aload_n 0, 1) := by decide +kernel
theorem dX4_commit_89 : decode cX4_commit 89 = .ok (.aload 5, 2) := by decide +kernel
theorem dX4_commit_91 : decode cX4_commit 91 = .ok (.iconst 2, 1) := by decide +kernel
theorem dX4_commit_92 : decode cX4_commit 92 = .ok (.iload_n 3, 1) := by decide +kernel
theorem dX4_commit_93 : decode cX4_commit 93 = .ok (.iload 4, 2) := by decide +kernel
theorem dX4_commit_95 : decode cX4_commit 95 = .ok (.iconst (-1), 1) := by decide +kernel
theorem dX4_commit_96 : decode cX4_commit 96 = .ok (.invokevirtual 52, 3) := by decide +kernel
theorem dX4_commit_99 : decode cX4_commit 99 = .ok (.goto 15, 3) := by decide +kernel
theorem dX4_commit_102 : decode cX4_commit 102 = .ok (.aload_n 0, 1) := by decide +kernel
theorem dX4_commit_103 : decode cX4_commit 103 = .ok (.aload 5, 2) := by decide +kernel
theorem dX4_commit_105 : decode cX4_commit 105 = .ok (.iconst 2, 1) := by decide +kernel
theorem dX4_commit_106 : decode cX4_commit 106 = .ok (.iload_n 3, 1) := by decide +kernel
theorem dX4_commit_107 : decode cX4_commit 107 = .ok (.iload 6, 2) := by decide +kernel
theorem dX4_commit_109 : decode cX4_commit 109 = .ok (.iload 4, 2) := by decide +kernel
theorem dX4_commit_111 : decode cX4_commit 111 = .ok (.invokevirtual 52, 3) := by decide +kernel
theorem dX4_commit_114 : decode cX4_commit 114 = .ok (.istore 7, 2) := by decide +kernel
theorem dX4_commit_116 : decode cX4_commit 116 = .ok (.iload 7, 2) := by decide +kernel
theorem dX4_commit_118 : decode cX4_commit 118 = .ok (.ifCond .ge 6, 3) := by decide +kernel
theorem dX4_commit_121 : decode cX4_commit 121 = .ok (.iload 7, 2) := by decide +kernel
theorem dX4_commit_123 : decode cX4_commit 123 = .ok (.ireturn, 1) := by decide +kernel
theorem dX4_commit_124 : decode cX4_commit 124 = .ok (.aload_n 0, 1) := by decide +kernel
theorem dX4_commit_125 : decode cX4_commit 125 = .ok (.iload_n 2, 1) := by decide +kernel
