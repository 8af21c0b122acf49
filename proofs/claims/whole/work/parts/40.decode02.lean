theorem dX2_reachOf_13 : decode cX2_reachOf 13 = .ok (.laload, 1) := by decide +kernel
theorem dX2_reachOf_14 : decode cX2_reachOf 14 = .ok (.goto 4, 3) := by decide +kernel
theorem dX2_reachOf_17 : decode cX2_reachOf 17 = .ok (.lconst 0, 1) := by decide +kernel
theorem dX2_reachOf_18 : decode cX2_reachOf 18 = .ok (.lreturn, 1) := by decide +kernel
theorem dX2_contentOf_0 : decode cX2_contentOf 0 = .ok (.aload_n 0, 1) := by decide +kernel
theorem dX2_contentOf_1 : decode cX2_contentOf 1 = .ok (.iload_n 1, 1) := by decide +kernel
theorem dX2_contentOf_2 : decode cX2_contentOf 2 = .ok (.invokevirtual 32, 3) := by decide +kernel
theorem dX2_contentOf_5 : decode cX2_contentOf 5 = .ok (.ifCond .eq 12, 3) := by decide +kernel
theorem dX2_contentOf_8 : decode cX2_contentOf 8 = .ok (.aload_n 0, 1) := by decide +kernel
theorem dX2_contentOf_9 : decode cX2_contentOf 9 = .ok (.getfield 15, 3) := by decide +kernel
theorem dX2_contentOf_12 : decode cX2_contentOf 12 = .ok (.iload_n 1, 1) := by decide +kernel
theorem dX2_contentOf_13 : decode cX2_contentOf 13 = .ok (.iaload, 1) := by decide +kernel
theorem dX2_contentOf_14 : decode cX2_contentOf 14 = .ok (.goto 4, 3) := by decide +kernel
theorem dX2_contentOf_17 : decode cX2_contentOf 17 = .ok (.iconst 0, 1) := by decide +kernel
theorem dX2_contentOf_18 : decode cX2_contentOf 18 = .ok (.ireturn, 1) := by decide +kernel
theorem dX2_partsOf_0 : decode cX2_partsOf 0 = .ok (.aload_n 0, 1) := by decide +kernel
theorem dX2_partsOf_1 : decode cX2_partsOf 1 = .ok (.iload_n 1, 1) := by decide +kernel
theorem dX2_partsOf_2 : decode cX2_partsOf 2 = .ok (.invokevirtual 32, 3) := by decide +kernel
theorem dX2_partsOf_5 : decode cX2_partsOf 5 = .ok (.ifCond .eq 12, 3) := by decide +kernel
theorem dX2_partsOf_8 : decode cX2_partsOf 8 = .ok (.aload_n 0, 1) := by decide +kernel
theorem dX2_partsOf_9 : decode cX2_partsOf 9 = .ok (.getfield 9, 3) := by decide +kernel
theorem dX2_partsOf_12 : decode cX2_partsOf 12 = .ok (.iload_n 1, 1) := by decide +kernel
theorem dX2_partsOf_13 : decode cX2_partsOf 13 = .ok (.iaload, 1) := by decide +kernel
theorem dX2_partsOf_14 : decode cX2_partsOf 14 = .ok (.ifCond .ne 5, 3) := by decide +kernel
theorem dX2_partsOf_17 : decode cX2_partsOf 17 = .ok (.iconst 0, 1) := by decide +kernel
theorem dX2_partsOf_18 : decode cX2_partsOf 18 = .ok (.ireturn, 1) := by decide +kernel
theorem dX2_partsOf_19 : decode cX2_partsOf 19 = .ok (.iconst 1, 1) := by decide +kernel
theorem dX2_partsOf_20 : decode cX2_partsOf 20 = .ok (.aload_n 0, 1) := by decide +kernel
theorem dX2_partsOf_21 : decode cX2_partsOf 21 = .ok (.getfield 18, 3) := by decide +kernel
theorem dX2_partsOf_24 : decode cX2_partsOf 24 = .ok (.iload_n 1, 1) := by decide +kernel
theorem dX2_partsOf_25 : decode cX2_partsOf 25 = .ok (.iaload, 1) := by decide +kernel
theorem dX2_partsOf_26 : decode cX2_partsOf 26 = .ok (.iconst (-1), 1) := by decide +kernel
theorem dX2_partsOf_27 : decode cX2_partsOf 27 = .ok (.if_icmp .ne 7, 3) := by decide +kernel
theorem dX2_partsOf_30 : decode cX2_partsOf 30 = .ok (.iconst 0, 1) := by decide +kernel
theorem dX2_partsOf_31 : decode cX2_partsOf 31 = .ok (.goto 4, 3) := by decide +kernel
theorem dX2_partsOf_34 : decode cX2_partsOf 34 = .ok (.iconst 1, 1) := by decide +kernel
theorem dX2_partsOf_35 : decode cX2_partsOf 35 = .ok (.iadd, 1) := by decide +kernel
theorem dX2_partsOf_36 : decode cX2_partsOf 36 = .ok (.aload_n 0, 1) := by decide +kernel
theorem dX2_partsOf_37 : decode cX2_partsOf 37 = .ok (.getfield 21, 3) := by decide +kernel
theorem dX2_partsOf_40 : decode cX2_partsOf 40 = .ok (.iload_n 1, 1) := by decide +kernel
theorem dX2_partsOf_41 : decode cX2_partsOf 41 = .ok (.iaload, 1) := by decide +kernel
theorem dX2_partsOf_42 : decode cX2_partsOf 42 = .ok (.iconst (-1), 1) := by decide +kernel
theorem dX2_partsOf_43 : decode cX2_partsOf 43 = .ok (.if_icmp .ne 7, 3) := by decide +kernel
theorem dX2_partsOf_46 : decode cX2_partsOf 46 = .ok (.iconst 0, 1) := by decide +kernel
theorem dX2_partsOf_47 : decode cX2_partsOf 47 = .ok (.goto 4, 3) := by decide +kernel
theorem dX2_partsOf_50 : decode cX2_partsOf 50 = .ok (.iconst 1, 1) := by decide +kernel
theorem dX2_partsOf_51 : decode cX2_partsOf 51 = .ok (.iadd, 1) := by decide +kernel
theorem dX2_partsOf_52 : decode cX2_partsOf 52 = .ok (.ireturn, 1) := by decide +kernel
theorem dX2_find_0 : decode cX2_find 0 = .ok (.iconst 0, 1) := by decide +kernel
theorem dX2_find_1 : decode cX2_find 1 = .ok (.istore 5, 2) := by decide +kernel
theorem dX2_find_3 : decode cX2_find 3 = .ok (.iload 5, 2) := by decide +kernel
theorem dX2_find_5 : decode cX2_find 5 = .ok (.aload_n 0, 1) := by decide +kernel
theorem dX2_find_6 : decode cX2_find 6 = .ok (.getfield 28, 3) := by decide +kernel
theorem dX2_find_9 : decode cX2_find 9 = .ok (.if_icmp .ge 57, 3) := by decide +kernel
theorem dX2_find_12 : decode cX2_find 12 = .ok (.aload_n 0, 1) := by decide +kernel
theorem dX2_find_13 : decode cX2_find 13 = .ok (.getfield 9, 3) := by decide +kernel
theorem dX2_find_16 : decode cX2_find 16 = .ok (.iload 5, 2) := by decide +kernel
theorem dX2_find_18 : decode cX2_find 18 = .ok (.iaload, 1) := by decide +kernel
theorem dX2_find_19 : decode cX2_find 19 = .ok (.iload_n 1, 1) := by decide +kernel
theorem dX2_find_20 : decode cX2_find 20 = .ok (.if_icmp .ne 40, 3) := by decide +kernel
theorem dX2_find_23 : decode cX2_find 23 = .ok (.aload_n 0, 1) := by decide +kernel
theorem dX2_find_24 : decode cX2_find 24 = .ok (.getfield 15, 3) := by decide +kernel
theorem dX2_find_27 : decode cX2_find 27 = .ok (.iload 5, 2) := by decide +kernel
theorem dX2_find_29 : decode cX2_find 29 = .ok (.iaload, 1) := by decide +kernel
theorem dX2_find_30 : decode cX2_find 30 = .ok (.iload_n 2, 1) := by decide +kernel
theorem dX2_find_31 : decode cX2_find 31 = .ok (.if_icmp .ne 29, 3) := by decide +kernel
theorem dX2_find_34 : decode cX2_find 34 = .ok (.aload_n 0, 1) := by decide +kernel
theorem dX2_find_35 : decode cX2_find 35 = .ok (.getfield 18, 3) := by decide +kernel
theorem dX2_find_38 : decode cX2_find 38 = .ok (.iload 5, 2) := by decide +kernel
theorem dX2_find_40 : decode cX2_find 40 = .ok (.iaload, 1) := by decide +kernel
theorem dX2_find_41 : decode cX2_find 41 = .ok (.iload_n 3, 1) := by decide +kernel
theorem dX2_find_42 : decode cX2_find 42 = .ok (.if_icmp .ne 18, 3) := by decide +kernel
theorem dX2_find_45 : decode cX2_find 45 = .ok (.aload_n 0, 1) := by decide +kernel
theorem dX2_find_46 : decode cX2_find 46 = .ok (.getfield 21, 3) := by decide +kernel
theorem dX2_find_49 : decode cX2_find 49 = .ok (.iload 5, 2) := by decide +kernel
theorem dX2_find_51 : decode cX2_find 51 = .ok (.iaload, 1) := by decide +kernel
theorem dX2_find_52 : decode cX2_find 52 = .ok (.iload 4, 2) := by decide +kernel
theorem dX2_find_54 : decode cX2_find 54 = .ok (.if_icmp .ne 6, 3) := by decide +kernel
theorem dX2_find_57 : decode cX2_find 57 = .ok (.iload 5, 2) := by decide +kernel
theorem dX2_find_59 : decode cX2_find 59 = .ok (.ireturn, 1) := by decide +kernel
theorem dX2_find_60 : decode cX2_find 60 = .ok (.iinc 5 1, 3) := by decide +kernel
theorem dX2_find_63 : decode cX2_find 63 = .ok (.goto (-60), 3) := by decide +kernel
theorem dX2_find_66 : decode cX2_find 66 = .ok (.iconst (-1), 1) := by decide +kernel
theorem dX2_find_67 : decode cX2_find 67 = .ok (.ireturn, 1) := by decide +kernel
theorem dX2_add_0 : decode cX2_add 0 = .ok (.aload_n 0, 1) := by decide +kernel
theorem dX2_add_1 : decode cX2_add 1 = .ok (.invokevirtual 36, 3) := by decide +kernel
theorem dX2_add_4 : decode cX2_add 4 = .ok (.ifCond .eq 5, 3) := by decide +kernel
theorem dX2_add_7 : decode cX2_add 7 = .ok (.iconst (-1), 1) := by decide +kernel
theorem dX2_add_8 : decode cX2_add 8 = .ok (.ireturn, 1) := by decide +kernel
theorem dX2_add_9 : decode cX2_add 9 = .ok (.aload_n 0, 1) := by decide +kernel
theorem dX2_add_10 : decode cX2_add 10 = .ok (.getfield 28, 3) := by decide +kernel
theorem dX2_add_13 : decode cX2_add 13 = .ok (.istore 5, 2) := by decide +kernel
theorem dX2_add_15 : decode cX2_add 15 = .ok (.lconst 1, 1) := by decide +kernel
theorem dX2_add_16 : decode cX2_add 16 = .ok (.iload 5, 2) := by decide +kernel
theorem dX2_add_18 : decode cX2_add 18 = .ok (.lshl, 1) := by decide +kernel
theorem dX2_add_19 : decode cX2_add 19 = .ok (.lstore 6, 2) := by decide +kernel
theorem dX2_add_21 : decode cX2_add 21 = .ok (.iload_n 1, 1) := by decide +kernel
theorem dX2_add_22 : decode cX2_add 22 = .ok (.ifCond .eq 26, 3) := by decide +kernel
theorem dX2_add_25 : decode cX2_add 25 = .ok (.lload 6, 2) := by decide +kernel
theorem dX2_add_27 : decode cX2_add 27 = .ok (.aload_n 0, 1) := by decide +kernel
theorem dX2_add_28 : decode cX2_add 28 = .ok (.iload_n 2, 1) := by decide +kernel
theorem dX2_add_29 : decode cX2_add 29 = .ok (.invokevirtual 40, 3) := by decide +kernel
theorem dX2_add_32 : decode cX2_add 32 = .ok (.lor, 1) := by decide +kernel
theorem dX2_add_33 : decode cX2_add 33 = .ok (.aload_n 0, 1) := by decide +kernel
theorem dX2_add_34 : decode cX2_add 34 = .ok (.iload_n 3, 1) := by decide +kernel
theorem dX2_add_35 : decode cX2_add 35 = .ok (.invokevirtual 40, 3) := by decide +kernel
theorem dX2_add_38 : decode cX2_add 38 = .ok (.lor, 1) := by decide +kernel
theorem dX2_add_39 : decode cX2_add 39 = .ok (.aload_n 0, 1) := by decide +kernel
theorem dX2_add_40 : decode cX2_add 40 = .ok (.iload 4, 2) := by decide +kernel
theorem dX2_add_42 : decode cX2_add 42 = .ok (.invokevirtual 40, 3) := by decide +kernel
theorem dX2_add_45 : decode cX2_add 45 = .ok (.lor, 1) := by decide +kernel
theorem dX2_add_46 : decode cX2_add 46 = .ok (.lstore 6, 2) := by decide +kernel
theorem dX2_add_48 : decode cX2_add 48 = .ok (.aload_n 0, 1) := by decide +kernel
theorem dX2_add_49 : decode cX2_add 49 = .ok (.getfield 9, 3) := by decide +kernel
theorem dX2_add_52 : decode cX2_add 52 = .ok (.iload 5, 2) := by decide +kernel
theorem dX2_add_54 : decode cX2_add 54 = .ok (.iload_n 1, 1) := by decide +kernel
theorem dX2_add_55 : decode cX2_add 55 = .ok (.iastore, 1) := by decide +kernel
theorem dX2_add_56 : decode cX2_add 56 = .ok (.aload_n 0, 1) := by decide +kernel
theorem dX2_add_57 : decode cX2_add 57 = .ok (.getfield 15, 3) := by decide +kernel
theorem dX2_add_60 : decode cX2_add 60 = .ok (.iload 5, 2) := by decide +kernel
theorem dX2_add_62 : decode cX2_add 62 = .ok (.iload_n 2, 1) := by decide +kernel
theorem dX2_add_63 : decode cX2_add 63 = .ok (.iastore, 1) := by decide +kernel
theorem dX2_add_64 : decode cX2_add 64 = .ok (.aload_n 0, 1) := by decide +kernel
theorem dX2_add_65 : decode cX2_add 65 = .ok (.getfield 18, 3) := by decide +kernel
theorem dX2_add_68 : decode cX2_add 68 = .ok (.iload 5, 2) := by decide +kernel
theorem dX2_add_70 : decode cX2_add 70 = .ok (.iload_n 3, 1) := by decide +kernel
theorem dX2_add_71 : decode cX2_add 71 = .ok (.iastore, 1) := by decide +kernel
theorem dX2_add_72 : decode cX2_add 72 = .ok (.aload_n 0, 1) := by decide +kernel
theorem dX2_add_73 : decode cX2_add 73 = .ok (.getfield 21, 3) := by decide +kernel
theorem dX2_add_76 : decode cX2_add 76 = .ok (.iload 5, 2) := by decide +kernel
theorem dX2_add_78 : decode cX2_add 78 = .ok (.iload 4, 2) := by decide +kernel
theorem dX2_add_80 : decode cX2_add 80 = .ok (.iastore, 1) := by decide +kernel
theorem dX2_add_81 : decode cX2_add 81 = .ok (.aload_n 0, 1) := by decide +kernel
theorem dX2_add_82 : decode cX2_add 82 = .ok (.getfield 24, 3) := by decide +kernel
theorem dX2_add_85 : decode cX2_add 85 = .ok (.iload 5, 2) := by decide +kernel
theorem dX2_add_87 : decode cX2_add 87 = .ok (.lload 6, 2) := by decide +kernel
theorem dX2_add_89 : decode cX2_add 89 = .ok (.lastore, 1) := by decide +kernel
theorem dX2_add_90 : decode cX2_add 90 = .ok (.aload_n 0, 1) := by decide +kernel
theorem dX2_add_91 : decode cX2_add 91 = .ok (.iload 5, 2) := by decide +kernel
theorem dX2_add_93 : decode cX2_add 93 = .ok (.iconst 1, 1) := by decide +kernel
theorem dX2_add_94 : decode cX2_add 94 = .ok (.iadd, 1) := by decide +kernel
theorem dX2_add_95 : decode cX2_add 95 = .ok (.putfield 28, 3) := by decide +kernel
theorem dX2_add_98 : decode cX2_add 98 = .ok (.iload 5, 2) := by decide +kernel
theorem dX2_add_100 : decode cX2_add 100 = .ok (.ireturn, 1) := by decide +kernel
theorem dX2_reachOfAll_0 : decode cX2_reachOfAll 0 = .ok (.lconst 0, 1) := by decide +kernel
theorem dX2_reachOfAll_1 : decode cX2_reachOfAll 1 = .ok (.lstore_n 3, 1) := by decide +kernel
theorem dX2_reachOfAll_2 : decode cX2_reachOfAll 2 = .ok (.iconst 0, 1) := by decide +kernel
theorem dX2_reachOfAll_3 : decode cX2_reachOfAll 3 = .ok (.istore 5, 2) := by decide +kernel
theorem dX2_reachOfAll_5 : decode cX2_reachOfAll 5 = .ok (.iload 5, 2) := by decide +kernel
theorem dX2_reachOfAll_7 : decode cX2_reachOfAll 7 = .ok (.aload_n 0, 1) := by decide +kernel
theorem dX2_reachOfAll_8 : decode cX2_reachOfAll 8 = .ok (.getfield 28, 3) := by decide +kernel
theorem dX2_reachOfAll_11 : decode cX2_reachOfAll 11 = .ok (.if_icmp .ge 28, 3) := by decide +kernel
theorem dX2_reachOfAll_14 : decode cX2_reachOfAll 14 = .ok (.lload_n 1, 1) := by decide +kernel
theorem dX2_reachOfAll_15 : decode cX2_reachOfAll 15 = .ok (.iload 5, 2) := by decide +kernel
theorem dX2_reachOfAll_17 : decode cX2_reachOfAll 17 = .ok (.invokestatic 44, 3) := by decide +kernel
theorem dX2_reachOfAll_20 : decode cX2_reachOfAll 20 = .ok (.ifCond .eq 13, 3) := by decide +kernel
theorem dX2_reachOfAll_23 : decode cX2_reachOfAll 23 = .ok (.lload_n 3, 1) := by decide +kernel
theorem dX2_reachOfAll_24 : decode cX2_reachOfAll 24 = .ok (.aload_n 0, 1) := by decide +kernel
theorem dX2_reachOfAll_25 : decode cX2_reachOfAll 25 = .ok (.getfield 24, 3) := by decide +kernel
theorem dX2_reachOfAll_28 : decode cX2_reachOfAll 28 = .ok (.iload 5, 2) := by decide +kernel
theorem dX2_reachOfAll_30 : decode cX2_reachOfAll 30 = .ok (.laload, 1) := by decide +kernel
theorem dX2_reachOfAll_31 : decode cX2_reachOfAll 31 = .ok (.lor, 1) := by decide +kernel
theorem dX2_reachOfAll_32 : decode cX2_reachOfAll 32 = .ok (.lstore_n 3, 1) := by decide +kernel
theorem dX2_reachOfAll_33 : decode cX2_reachOfAll 33 = .ok (.iinc 5 1, 3) := by decide +kernel
theorem dX2_reachOfAll_36 : decode cX2_reachOfAll 36 = .ok (.goto (-31), 3) := by decide +kernel
theorem dX2_reachOfAll_39 : decode cX2_reachOfAll 39 = .ok (.lload_n 3, 1) := by decide +kernel
theorem dX2_reachOfAll_40 : decode cX2_reachOfAll 40 = .ok (.lreturn, 1) := by decide +kernel
theorem dX2_eachReachesOne_0 : decode cX2_eachReachesOne 0 = .ok (.iconst 0, 1) := by decide +kernel
theorem dX2_eachReachesOne_1 : decode cX2_eachReachesOne 1 = .ok (.istore 5, 2) := by decide +kernel
theorem dX2_eachReachesOne_3 : decode cX2_eachReachesOne 3 = .ok (.iload 5, 2) := by decide +kernel
theorem dX2_eachReachesOne_5 : decode cX2_eachReachesOne 5 = .ok (.aload_n 0, 1) := by decide +kernel
theorem dX2_eachReachesOne_6 : decode cX2_eachReachesOne 6 = .ok (.getfield 28, 3) := by decide +kernel
theorem dX2_eachReachesOne_9 : decode cX2_eachReachesOne 9 = .ok (.if_icmp .ge 34, 3) := by decide +kernel
theorem dX2_eachReachesOne_12 : decode cX2_eachReachesOne 12 = .ok (.lload_n 1, 1) := by decide +kernel
theorem dX2_eachReachesOne_13 : decode cX2_eachReachesOne 13 = .ok (.iload 5, 2) := by decide +kernel
theorem dX2_eachReachesOne_15 : decode cX2_eachReachesOne 15 = .ok (.invokestatic 44, 3) := by decide +kernel
theorem dX2_eachReachesOne_18 : decode cX2_eachReachesOne 18 = .ok (.ifCond .eq 19, 3) := by decide +kernel
theorem dX2_eachReachesOne_21 : decode cX2_eachReachesOne 21 = .ok (.aload_n 0, 1) := by decide +kernel
theorem dX2_eachReachesOne_22 : decode cX2_eachReachesOne 22 = .ok (.getfield 24, 3) := by decide +kernel
theorem dX2_eachReachesOne_25 : decode cX2_eachReachesOne 25 = .ok (.iload 5, 2) := by decide +kernel
theorem dX2_eachReachesOne_27 : decode cX2_eachReachesOne 27 = .ok (.laload, 1) := by decide +kernel
theorem dX2_eachReachesOne_28 : decode cX2_eachReachesOne 28 = .ok (.lload_n 3, 1) := by decide +kernel
theorem dX2_eachReachesOne_29 : decode cX2_eachReachesOne 29 = .ok (.land, 1) := by decide +kernel
theorem dX2_eachReachesOne_30 : decode cX2_eachReachesOne 30 = .ok (.lconst 0, 1) := by decide +kernel
theorem dX2_eachReachesOne_31 : decode cX2_eachReachesOne 31 = .ok (.lcmp, 1) := by decide +kernel
theorem dX2_eachReachesOne_32 : decode cX2_eachReachesOne 32 = .ok (.ifCond .ne 5, 3) := by decide +kernel
theorem dX2_eachReachesOne_35 : decode cX2_eachReachesOne 35 = .ok (.iconst 0, 1) := by decide +kernel
theorem dX2_eachReachesOne_36 : decode cX2_eachReachesOne 36 = .ok (.ireturn, 1) := by decide +kernel
theorem dX2_eachReachesOne_37 : decode cX2_eachReachesOne 37 = .ok (.iinc 5 1, 3) := by decide +kernel
theorem dX2_eachReachesOne_40 : decode cX2_eachReachesOne 40 = .ok (.goto (-37), 3) := by decide +kernel
theorem dX2_eachReachesOne_43 : decode cX2_eachReachesOne 43 = .ok (.iconst 1, 1) := by decide +kernel
theorem dX2_eachReachesOne_44 : decode cX2_eachReachesOne 44 = .ok (.ireturn, 1) := by decide +kernel
theorem dX2_allOfKind_0 : decode cX2_allOfKind 0 = .ok (.lconst 0, 1) := by decide +kernel
theorem dX2_allOfKind_1 : decode cX2_allOfKind 1 = .ok (.lstore_n 2, 1) := by decide +kernel
theorem dX2_allOfKind_2 : decode cX2_allOfKind 2 = .ok (.iconst 0, 1) := by decide +kernel
theorem dX2_allOfKind_3 : decode cX2_allOfKind 3 = .ok (.istore 4, 2) := by decide +kernel
theorem dX2_allOfKind_5 : decode cX2_allOfKind 5 = .ok (.iload 4, 2) := by decide +kernel
theorem dX2_allOfKind_7 : decode cX2_allOfKind 7 = .ok (.aload_n 0, 1) := by decide +kernel
theorem dX2_allOfKind_8 : decode cX2_allOfKind 8 = .ok (.getfield 28, 3) := by decide +kernel
theorem dX2_allOfKind_11 : decode cX2_allOfKind 11 = .ok (.if_icmp .ge 27, 3) := by decide +kernel
theorem dX2_allOfKind_14 : decode cX2_allOfKind 14 = .ok (.aload_n 0, 1) := by decide +kernel
theorem dX2_allOfKind_15 : decode cX2_allOfKind 15 = .ok (.getfield 9, 3) := by decide +kernel
theorem dX2_allOfKind_18 : decode cX2_allOfKind 18 = .ok (.iload 4, 2) := by decide +kernel
theorem dX2_allOfKind_20 : decode cX2_allOfKind 20 = .ok (.iaload, 1) := by decide +kernel
theorem dX2_allOfKind_21 : decode cX2_allOfKind 21 = .ok (.iload_n 1, 1) := by decide +kernel
theorem dX2_allOfKind_22 : decode cX2_allOfKind 22 = .ok (.if_icmp .ne 10, 3) := by decide +kernel
theorem dX2_allOfKind_25 : decode cX2_allOfKind 25 = .ok (.lload_n 2, 1) := by decide +kernel
theorem dX2_allOfKind_26 : decode cX2_allOfKind 26 = .ok (.lconst 1, 1) := by decide +kernel
theorem dX2_allOfKind_27 : decode cX2_allOfKind 27 = .ok (.iload 4, 2) := by decide +kernel
theorem dX2_allOfKind_29 : decode cX2_allOfKind 29 = .ok (.lshl, 1) := by decide +kernel
theorem dX2_allOfKind_30 : decode cX2_allOfKind 30 = .ok (.lor, 1) := by decide +kernel
theorem dX2_allOfKind_31 : decode cX2_allOfKind 31 = .ok (.lstore_n 2, 1) := by decide +kernel
theorem dX2_allOfKind_32 : decode cX2_allOfKind 32 = .ok (.iinc 4 1, 3) := by decide +kernel
theorem dX2_allOfKind_35 : decode cX2_allOfKind 35 = .ok (.goto (-30), 3) := by decide +kernel
theorem dX2_allOfKind_38 : decode cX2_allOfKind 38 = .ok (.lload_n 2, 1) := by decide +kernel
theorem dX2_allOfKind_39 : decode cX2_allOfKind 39 = .ok (.lreturn, 1) := by decide +kernel
theorem dX3_highest_0 : decode cX3_highest 0 = .ok (.lconst 0, 1) := by decide +kernel
theorem dX3_highest_1 : decode cX3_highest 1 = .ok (.lstore_n 2, 1) := by decide +kernel
theorem dX3_highest_2 : decode cX3_highest 2 = .ok (.iconst 0, 1) := by decide +kernel
theorem dX3_highest_3 : decode cX3_highest 3 = .ok (.istore 4, 2) := by decide +kernel
theorem dX3_highest_5 : decode cX3_highest 5 = .ok (.bipush 59, 2) := by decide +kernel
theorem dX3_highest_7 : decode cX3_highest 7 = .ok (.istore 5, 2) := by decide +kernel
theorem dX3_highest_9 : decode cX3_highest 9 = .ok (.iload 5, 2) := by decide +kernel
theorem dX3_highest_11 : decode cX3_highest 11 = .ok (.ifCond .lt 34, 3) := by decide +kernel
theorem dX3_highest_14 : decode cX3_highest 14 = .ok (.iload 4, 2) := by decide +kernel
theorem dX3_highest_16 : decode cX3_highest 16 = .ok (.iconst 3, 1) := by decide +kernel
theorem dX3_highest_17 : decode cX3_highest 17 = .ok (.if_icmp .ge 28, 3) := by decide +kernel
theorem dX3_highest_20 : decode cX3_highest 20 = .ok (.lload_n 0, 1) := by decide +kernel
theorem dX3_highest_21 : decode cX3_highest 21 = .ok (.iload 5, 2) := by decide +kernel
theorem dX3_highest_23 : decode cX3_highest 23 = .ok (.invokestatic 42, 3) := by decide +kernel
theorem dX3_highest_26 : decode cX3_highest 26 = .ok (.ifCond .eq 13, 3) := by decide +kernel
theorem dX3_highest_29 : decode cX3_highest 29 = .ok (.lload_n 2, 1) := by decide +kernel
theorem dX3_highest_30 : decode cX3_highest 30 = .ok (.lconst 1, 1) := by decide +kernel
theorem dX3_highest_31 : decode cX3_highest 31 = .ok (.iload 5, 2) := by decide +kernel
theorem dX3_highest_33 : decode cX3_highest 33 = .ok (.lshl, 1) := by decide +kernel
theorem dX3_highest_34 : decode cX3_highest 34 = .ok (.lor, 1) := by decide +kernel
theorem dX3_highest_35 : decode cX3_highest 35 = .ok (.lstore_n 2, 1) := by decide +kernel
theorem dX3_highest_36 : decode cX3_highest 36 = .ok (.iinc 4 1, 3) := by decide +kernel
theorem dX3_highest_39 : decode cX3_highest 39 = .ok (.iinc 5 (-1), 3) := by decide +kernel
theorem dX3_highest_42 : decode cX3_highest 42 = .ok (.goto (-33), 3) := by decide +kernel
theorem dX3_highest_45 : decode cX3_highest 45 = .ok (.lload_n 2, 1) := by decide +kernel
theorem dX3_highest_46 : decode cX3_highest 46 = .ok (.lreturn, 1) := by decide +kernel
theorem dX3_havesSent_0 : decode cX3_havesSent 0 = .ok (.aload_n 0, 1) := by decide +kernel
theorem dX3_havesSent_1 : decode cX3_havesSent 1 = .ok (.getfield 9, 3) := by decide +kernel
theorem dX3_havesSent_4 : decode cX3_havesSent 4 = .ok (.ireturn, 1) := by decide +kernel
theorem dX3_havesAcknowledged_0 : decode cX3_havesAcknowledged 0 = .ok (.aload_n 0, 1) := by decide +kernel
theorem dX3_havesAcknowledged_1 : decode cX3_havesAcknowledged 1 = .ok (.getfield 15, 3) := by decide +kernel
theorem dX3_havesAcknowledged_4 : decode cX3_havesAcknowledged 4 = .ok (.ireturn, 1) := by decide +kernel
theorem dX3_roundsHeld_0 : decode cX3_roundsHeld 0 = .ok (.aload_n 0, 1) := by decide +kernel
theorem dX3_roundsHeld_1 : decode cX3_roundsHeld 1 = .ok (.getfield 18, 3) := by decide +kernel
theorem dX3_roundsHeld_4 : decode cX3_roundsHeld 4 = .ok (.ireturn, 1) := by decide +kernel
theorem dX3_run_0 : decode cX3_run 0 = .ok (.lconst 0, 1) := by decide +kernel
theorem dX3_run_1 : decode cX3_run 1 = .ok (.lstore 8, 2) := by decide +kernel
theorem dX3_run_3 : decode cX3_run 3 = .ok (.lload 4, 2) := by decide +kernel
theorem dX3_run_5 : decode cX3_run 5 = .ok (.lstore 10, 2) := by decide +kernel
theorem dX3_run_7 : decode cX3_run 7 = .ok (.aload_n 0, 1) := by decide +kernel
theorem dX3_run_8 : decode cX3_run 8 = .ok (.iconst 0, 1) := by decide +kernel
theorem dX3_run_9 : decode cX3_run 9 = .ok (.putfield 9, 3) := by decide +kernel
theorem dX3_run_12 : decode cX3_run 12 = .ok (.aload_n 0, 1) := by decide +kernel
theorem dX3_run_13 : decode cX3_run 13 = .ok (.iconst 0, 1) := by decide +kernel
theorem dX3_run_14 : decode cX3_run 14 = .ok (.putfield 18, 3) := by decide +kernel
theorem dX3_run_17 : decode cX3_run 17 = .ok (.aload_n 0, 1) := by decide +kernel
theorem dX3_run_18 : decode cX3_run 18 = .ok (.getfield 18, 3) := by decide +kernel
theorem dX3_run_21 : decode cX3_run 21 = .ok (.bipush 60, 2) := by decide +kernel
theorem dX3_run_23 : decode cX3_run 23 = .ok (.if_icmp .ge 82, 3) := by decide +kernel
theorem dX3_run_26 : decode cX3_run 26 = .ok (.lload 10, 2) := by decide +kernel
theorem dX3_run_28 : decode cX3_run 28 = .ok (.lconst 0, 1) := by decide +kernel
theorem dX3_run_29 : decode cX3_run 29 = .ok (.lcmp, 1) := by decide +kernel
theorem dX3_run_30 : decode cX3_run 30 = .ok (.ifCond .eq 75, 3) := by decide +kernel
theorem dX3_run_33 : decode cX3_run 33 = .ok (.aload_n 1, 1) := by decide +kernel
theorem dX3_run_34 : decode cX3_run 34 = .ok (.lload_n 2, 1) := by decide +kernel
theorem dX3_run_35 : decode cX3_run 35 = .ok (.lload 8, 2) := by decide +kernel
theorem dX3_run_37 : decode cX3_run 37 = .ok (.invokevirtual 21, 3) := by decide +kernel
theorem dX3_run_40 : decode cX3_run 40 = .ok (.ifCond .ne 65, 3) := by decide +kernel
theorem dX3_run_43 : decode cX3_run 43 = .ok (.lload 10, 2) := by decide +kernel
theorem dX3_run_45 : decode cX3_run 45 = .ok (.invokestatic 27, 3) := by decide +kernel
theorem dX3_run_48 : decode cX3_run 48 = .ok (.lstore 12, 2) := by decide +kernel
theorem dX3_run_50 : decode cX3_run 50 = .ok (.aload_n 0, 1) := by decide +kernel
theorem dX3_run_51 : decode cX3_run 51 = .ok (.dup, 1) := by decide +kernel
theorem dX3_run_52 : decode cX3_run 52 = .ok (.getfield 9, 3) := by decide +kernel
theorem dX3_run_55 : decode cX3_run 55 = .ok (.lload 12, 2) := by decide +kernel
theorem dX3_run_57 : decode cX3_run 57 = .ok (.invokestatic 31, 3) := by decide +kernel
theorem dX3_run_60 : decode cX3_run 60 = .ok (.iadd, 1) := by decide +kernel
theorem dX3_run_61 : decode cX3_run 61 = .ok (.putfield 9, 3) := by decide +kernel
theorem dX3_run_64 : decode cX3_run 64 = .ok (.lload 8, 2) := by decide +kernel
theorem dX3_run_66 : decode cX3_run 66 = .ok (.lload 12, 2) := by decide +kernel
theorem dX3_run_68 : decode cX3_run 68 = .ok (.lload 6, 2) := by decide +kernel
theorem dX3_run_70 : decode cX3_run 70 = .ok (.land, 1) := by decide +kernel
theorem dX3_run_71 : decode cX3_run 71 = .ok (.lor, 1) := by decide +kernel
theorem dX3_run_72 : decode cX3_run 72 = .ok (.lstore 8, 2) := by decide +kernel
theorem dX3_run_74 : decode cX3_run 74 = .ok (.lload 10, 2) := by decide +kernel
theorem dX3_run_76 : decode cX3_run 76 = .ok (.lload 12, 2) := by decide +kernel
theorem dX3_run_78 : decode cX3_run 78 = .ok (.aload_n 1, 1) := by decide +kernel
theorem dX3_run_79 : decode cX3_run 79 = .ok (.lload 8, 2) := by decide +kernel
theorem dX3_run_81 : decode cX3_run 81 = .ok (.invokevirtual 37, 3) := by decide +kernel
theorem dX3_run_84 : decode cX3_run 84 = .ok (.lor, 1) := by decide +kernel
theorem dX3_run_85 : decode cX3_run 85 = .ok (.ldc2_w 40, 3) := by decide +kernel
theorem dX3_run_88 : decode cX3_run 88 = .ok (.lxor, 1) := by decide +kernel
theorem dX3_run_89 : decode cX3_run 89 = .ok (.land, 1) := by decide +kernel
theorem dX3_run_90 : decode cX3_run 90 = .ok (.lstore 10, 2) := by decide +kernel
theorem dX3_run_92 : decode cX3_run 92 = .ok (.aload_n 0, 1) := by decide +kernel
theorem dX3_run_93 : decode cX3_run 93 = .ok (.dup, 1) := by decide +kernel
theorem dX3_run_94 : decode cX3_run 94 = .ok (.getfield 18, 3) := by decide +kernel
theorem dX3_run_97 : decode cX3_run 97 = .ok (.iconst 1, 1) := by decide +kernel
theorem dX3_run_98 : decode cX3_run 98 = .ok (.iadd, 1) := by decide +kernel
theorem dX3_run_99 : decode cX3_run 99 = .ok (.putfield 18, 3) := by decide +kernel
theorem dX3_run_102 : decode cX3_run 102 = .ok (.goto (-85), 3) := by decide +kernel
theorem dX3_run_105 : decode cX3_run 105 = .ok (.aload_n 0, 1) := by decide +kernel
theorem dX3_run_106 : decode cX3_run 106 = .ok (.lload 8, 2) := by decide +kernel
theorem dX3_run_108 : decode cX3_run 108 = .ok (.invokestatic 31, 3) := by decide +kernel
theorem dX3_run_111 : decode cX3_run 111 = .ok (.putfield 15, 3) := by decide +kernel
theorem dX3_run_114 : decode cX3_run 114 = .ok (.lload 8, 2) := by decide +kernel
theorem dX3_run_116 : decode cX3_run 116 = .ok (.lreturn, 1) := by decide +kernel
theorem dX1_memberSet_0 : decode cX1_memberSet 0 = .ok (.aload_n 0, 1) := by decide +kernel
theorem dX1_memberSet_1 : decode cX1_memberSet 1 = .ok (.getfield 21, 3) := by decide +kernel
theorem dX1_memberSet_4 : decode cX1_memberSet 4 = .ok (.lreturn, 1) := by decide +kernel
theorem dX1_length_0 : decode cX1_length 0 = .ok (.aload_n 0, 1) := by decide +kernel
theorem dX1_length_1 : decode cX1_length 1 = .ok (.getfield 25, 3) := by decide +kernel
theorem dX1_length_4 : decode cX1_length 4 = .ok (.ireturn, 1) := by decide +kernel
theorem dX1_totalWeight_0 : decode cX1_totalWeight 0 = .ok (.aload_n 0, 1) := by decide +kernel
theorem dX1_totalWeight_1 : decode cX1_totalWeight 1 = .ok (.getfield 29, 3) := by decide +kernel
theorem dX1_totalWeight_4 : decode cX1_totalWeight 4 = .ok (.ireturn, 1) := by decide +kernel
theorem dX1_isPlace_0 : decode cX1_isPlace 0 = .ok (.iload_n 1, 1) := by decide +kernel
theorem dX1_isPlace_1 : decode cX1_isPlace 1 = .ok (.ifCond .lt 15, 3) := by decide +kernel
theorem dX1_isPlace_4 : decode cX1_isPlace 4 = .ok (.iload_n 1, 1) := by decide +kernel
theorem dX1_isPlace_5 : decode cX1_isPlace 5 = .ok (.aload_n 0, 1) := by decide +kernel
theorem dX1_isPlace_6 : decode cX1_isPlace 6 = .ok (.getfield 25, 3) := by decide +kernel
theorem dX1_isPlace_9 : decode cX1_isPlace 9 = .ok (.if_icmp .ge 7, 3) := by decide +kernel
theorem dX1_isPlace_12 : decode cX1_isPlace 12 = .ok (.iconst 1, 1) := by decide +kernel
theorem dX1_isPlace_13 : decode cX1_isPlace 13 = .ok (.goto 4, 3) := by decide +kernel
theorem dX1_isPlace_16 : decode cX1_isPlace 16 = .ok (.iconst 0, 1) := by decide +kernel
theorem dX1_isPlace_17 : decode cX1_isPlace 17 = .ok (.ireturn, 1) := by decide +kernel
theorem dX1_objectAt_0 : decode cX1_objectAt 0 = .ok (.aload_n 0, 1) := by decide +kernel
theorem dX1_objectAt_1 : decode cX1_objectAt 1 = .ok (.iload_n 1, 1) := by decide +kernel
theorem dX1_objectAt_2 : decode cX1_objectAt 2 = .ok (.invokevirtual 36, 3) := by decide +kernel
theorem dX1_objectAt_5 : decode cX1_objectAt 5 = .ok (.ifCond .eq 12, 3) := by decide +kernel
theorem dX1_objectAt_8 : decode cX1_objectAt 8 = .ok (.aload_n 0, 1) := by decide +kernel
theorem dX1_objectAt_9 : decode cX1_objectAt 9 = .ok (.getfield 9, 3) := by decide +kernel
theorem dX1_objectAt_12 : decode cX1_objectAt 12 = .ok (.iload_n 1, 1) := by decide +kernel
theorem dX1_objectAt_13 : decode cX1_objectAt 13 = .ok (.iaload, 1) := by decide +kernel
theorem dX1_objectAt_14 : decode cX1_objectAt 14 = .ok (.goto 5, 3) := by decide +kernel
theorem dX1_objectAt_17 : decode cX1_objectAt 17 = .ok (.bipush (-4), 2) := by decide +kernel
theorem dX1_objectAt_19 : decode cX1_objectAt 19 = .ok (.ireturn, 1) := by decide +kernel
theorem dX1_baseAt_0 : decode cX1_baseAt 0 = .ok (.aload_n 0, 1) := by decide +kernel
theorem dX1_baseAt_1 : decode cX1_baseAt 1 = .ok (.iload_n 1, 1) := by decide +kernel
theorem dX1_baseAt_2 : decode cX1_baseAt 2 = .ok (.invokevirtual 36, 3) := by decide +kernel
theorem dX1_baseAt_5 : decode cX1_baseAt 5 = .ok (.ifCond .eq 12, 3) := by decide +kernel
theorem dX1_baseAt_8 : decode cX1_baseAt 8 = .ok (.aload_n 0, 1) := by decide +kernel
theorem dX1_baseAt_9 : decode cX1_baseAt 9 = .ok (.getfield 15, 3) := by decide +kernel
theorem dX1_baseAt_12 : decode cX1_baseAt 12 = .ok (.iload_n 1, 1) := by decide +kernel
theorem dX1_baseAt_13 : decode cX1_baseAt 13 = .ok (.iaload, 1) := by decide +kernel
theorem dX1_baseAt_14 : decode cX1_baseAt 14 = .ok (.goto 5, 3) := by decide +kernel
theorem dX1_baseAt_17 : decode cX1_baseAt 17 = .ok (.bipush (-4), 2) := by decide +kernel
theorem dX1_baseAt_19 : decode cX1_baseAt 19 = .ok (.ireturn, 1) := by decide +kernel
theorem dX1_differingDigits_0 : decode cX1_differingDigits 0 = .ok (.iload_n 0, 1) := by decide +kernel
theorem dX1_differingDigits_1 : decode cX1_differingDigits 1 = .ok (.iload_n 1, 1) := by decide +kernel
theorem dX1_differingDigits_2 : decode cX1_differingDigits 2 = .ok (.ixor, 1) := by decide +kernel
theorem dX1_differingDigits_3 : decode cX1_differingDigits 3 = .ok (.istore_n 2, 1) := by decide +kernel
theorem dX1_differingDigits_4 : decode cX1_differingDigits 4 = .ok (.iconst 0, 1) := by decide +kernel
theorem dX1_differingDigits_5 : decode cX1_differingDigits 5 = .ok (.istore_n 3, 1) := by decide +kernel
theorem dX1_differingDigits_6 : decode cX1_differingDigits 6 = .ok (.iconst 0, 1) := by decide +kernel
theorem dX1_differingDigits_7 : decode cX1_differingDigits 7 = .ok (.istore 4, 2) := by decide +kernel
theorem dX1_differingDigits_9 : decode cX1_differingDigits 9 = .ok (.iload 4, 2) := by decide +kernel
theorem dX1_differingDigits_11 : decode cX1_differingDigits 11 = .ok (.bipush 8, 2) := by decide +kernel
theorem dX1_differingDigits_13 : decode cX1_differingDigits 13 = .ok (.if_icmp .ge 24, 3) := by decide +kernel
theorem dX1_differingDigits_16 : decode cX1_differingDigits 16 = .ok (.iload_n 2, 1) := by decide +kernel
theorem dX1_differingDigits_17 : decode cX1_differingDigits 17 = .ok (.iconst 4, 1) := by decide +kernel
theorem dX1_differingDigits_18 : decode cX1_differingDigits 18 = .ok (.iload 4, 2) := by decide +kernel
theorem dX1_differingDigits_20 : decode cX1_differingDigits 20 = .ok (.imul, 1) := by decide +kernel
theorem dX1_differingDigits_21 : decode cX1_differingDigits 21 = .ok (.iushr, 1) := by decide +kernel
theorem dX1_differingDigits_22 : decode cX1_differingDigits 22 = .ok (.bipush 15, 2) := by decide +kernel
theorem dX1_differingDigits_24 : decode cX1_differingDigits 24 = .ok (.iand, 1) := by decide +kernel
theorem dX1_differingDigits_25 : decode cX1_differingDigits 25 = .ok (.ifCond .eq 6, 3) := by decide +kernel
theorem dX1_differingDigits_28 : decode cX1_differingDigits 28 = .ok (.iinc 3 1, 3) := by decide +kernel
theorem dX1_differingDigits_31 : decode cX1_differingDigits 31 = .ok (.iinc 4 1, 3) := by decide +kernel
theorem dX1_differingDigits_34 : decode cX1_differingDigits 34 = .ok (.goto (-25), 3) := by decide +kernel
theorem dX1_differingDigits_37 : decode cX1_differingDigits 37 = .ok (.iload_n 3, 1) := by decide +kernel
theorem dX1_differingDigits_38 : decode cX1_differingDigits 38 = .ok (.ireturn, 1) := by decide +kernel
theorem dX1_chooseBase_0 : decode cX1_chooseBase 0 = .ok (.bipush 8, 2) := by decide +kernel
theorem dX1_chooseBase_2 : decode cX1_chooseBase 2 = .ok (.istore_n 3, 1) := by decide +kernel
theorem dX1_chooseBase_3 : decode cX1_chooseBase 3 = .ok (.aload_n 1, 1) := by decide +kernel
theorem dX1_chooseBase_4 : decode cX1_chooseBase 4 = .ok (.aload_n 0, 1) := by decide +kernel
theorem dX1_chooseBase_5 : decode cX1_chooseBase 5 = .ok (.getfield 9, 3) := by decide +kernel
theorem dX1_chooseBase_8 : decode cX1_chooseBase 8 = .ok (.iload_n 2, 1) := by decide +kernel
theorem dX1_chooseBase_9 : decode cX1_chooseBase 9 = .ok (.iaload, 1) := by decide +kernel
theorem dX1_chooseBase_10 : decode cX1_chooseBase 10 = .ok (.invokevirtual 58, 3) := by decide +kernel
theorem dX1_chooseBase_13 : decode cX1_chooseBase 13 = .ok (.istore 4, 2) := by decide +kernel
theorem dX1_chooseBase_15 : decode cX1_chooseBase 15 = .ok (.iload_n 2, 1) := by decide +kernel
theorem dX1_chooseBase_16 : decode cX1_chooseBase 16 = .ok (.iconst 1, 1) := by decide +kernel
theorem dX1_chooseBase_17 : decode cX1_chooseBase 17 = .ok (.isub, 1) := by decide +kernel
theorem dX1_chooseBase_18 : decode cX1_chooseBase 18 = .ok (.istore 5, 2) := by decide +kernel
theorem dX1_chooseBase_20 : decode cX1_chooseBase 20 = .ok (.iload 5, 2) := by decide +kernel
theorem dX1_chooseBase_22 : decode cX1_chooseBase 22 = .ok (.ifCond .lt 95, 3) := by decide +kernel
theorem dX1_chooseBase_25 : decode cX1_chooseBase 25 = .ok (.iload 5, 2) := by decide +kernel
theorem dX1_chooseBase_27 : decode cX1_chooseBase 27 = .ok (.iload_n 2, 1) := by decide +kernel
theorem dX1_chooseBase_28 : decode cX1_chooseBase 28 = .ok (.iconst 3, 1) := by decide +kernel
theorem dX1_chooseBase_29 : decode cX1_chooseBase 29 = .ok (.isub, 1) := by decide +kernel
theorem dX1_chooseBase_30 : decode cX1_chooseBase 30 = .ok (.if_icmp .lt 87, 3) := by decide +kernel
theorem dX1_chooseBase_33 : decode cX1_chooseBase 33 = .ok (.aload_n 1, 1) := by decide +kernel
theorem dX1_chooseBase_34 : decode cX1_chooseBase 34 = .ok (.aload_n 0, 1) := by decide +kernel
theorem dX1_chooseBase_35 : decode cX1_chooseBase 35 = .ok (.getfield 9, 3) := by decide +kernel
theorem dX1_chooseBase_38 : decode cX1_chooseBase 38 = .ok (.iload 5, 2) := by decide +kernel
theorem dX1_chooseBase_40 : decode cX1_chooseBase 40 = .ok (.iaload, 1) := by decide +kernel
theorem dX1_chooseBase_41 : decode cX1_chooseBase 41 = .ok (.iconst 0, 1) := by decide +kernel
theorem dX1_chooseBase_42 : decode cX1_chooseBase 42 = .ok (.invokevirtual 44, 3) := by decide +kernel
theorem dX1_chooseBase_45 : decode cX1_chooseBase 45 = .ok (.ifCond .eq 66, 3) := by decide +kernel
theorem dX1_chooseBase_48 : decode cX1_chooseBase 48 = .ok (.aload_n 0, 1) := by decide +kernel
theorem dX1_chooseBase_49 : decode cX1_chooseBase 49 = .ok (.getfield 18, 3) := by decide +kernel
theorem dX1_chooseBase_52 : decode cX1_chooseBase 52 = .ok (.iload 5, 2) := by decide +kernel
theorem dX1_chooseBase_54 : decode cX1_chooseBase 54 = .ok (.iaload, 1) := by decide +kernel
theorem dX1_chooseBase_55 : decode cX1_chooseBase 55 = .ok (.iconst 2, 1) := by decide +kernel
theorem dX1_chooseBase_56 : decode cX1_chooseBase 56 = .ok (.if_icmp .ge 55, 3) := by decide +kernel
theorem dX1_chooseBase_59 : decode cX1_chooseBase 59 = .ok (.iconst 2, 1) := by decide +kernel
theorem dX1_chooseBase_60 : decode cX1_chooseBase 60 = .ok (.iload 4, 2) := by decide +kernel
theorem dX1_chooseBase_62 : decode cX1_chooseBase 62 = .ok (.aload_n 1, 1) := by decide +kernel
theorem dX1_chooseBase_63 : decode cX1_chooseBase 63 = .ok (.aload_n 0, 1) := by decide +kernel
theorem dX1_chooseBase_64 : decode cX1_chooseBase 64 = .ok (.getfield 9, 3) := by decide +kernel
theorem dX1_chooseBase_67 : decode cX1_chooseBase 67 = .ok (.iload 5, 2) := by decide +kernel
theorem dX1_chooseBase_69 : decode cX1_chooseBase 69 = .ok (.iaload, 1) := by decide +kernel
theorem dX1_chooseBase_70 : decode cX1_chooseBase 70 = .ok (.invokevirtual 58, 3) := by decide +kernel
theorem dX1_chooseBase_73 : decode cX1_chooseBase 73 = .ok (.invokestatic 61, 3) := by decide +kernel
theorem dX1_chooseBase_76 : decode cX1_chooseBase 76 = .ok (.iadd, 1) := by decide +kernel
theorem dX1_chooseBase_77 : decode cX1_chooseBase 77 = .ok (.istore 6, 2) := by decide +kernel
theorem dX1_chooseBase_79 : decode cX1_chooseBase 79 = .ok (.iload 6, 2) := by decide +kernel
theorem dX1_chooseBase_81 : decode cX1_chooseBase 81 = .ok (.iload_n 3, 1) := by decide +kernel
theorem dX1_chooseBase_82 : decode cX1_chooseBase 82 = .ok (.if_icmp .ge 29, 3) := by decide +kernel
theorem dX1_chooseBase_85 : decode cX1_chooseBase 85 = .ok (.iload 6, 2) := by decide +kernel
theorem dX1_chooseBase_87 : decode cX1_chooseBase 87 = .ok (.istore_n 3, 1) := by decide +kernel
theorem dX1_chooseBase_88 : decode cX1_chooseBase 88 = .ok (.aload_n 0, 1) := by decide +kernel
theorem dX1_chooseBase_89 : decode cX1_chooseBase 89 = .ok (.getfield 15, 3) := by decide +kernel
theorem dX1_chooseBase_92 : decode cX1_chooseBase 92 = .ok (.iload_n 2, 1) := by decide +kernel
theorem dX1_chooseBase_93 : decode cX1_chooseBase 93 = .ok (.iload 5, 2) := by decide +kernel
theorem dX1_chooseBase_95 : decode cX1_chooseBase 95 = .ok (.iastore, 1) := by decide +kernel
theorem dX1_chooseBase_96 : decode cX1_chooseBase 96 = .ok (.aload_n 0, 1) := by decide +kernel
theorem dX1_chooseBase_97 : decode cX1_chooseBase 97 = .ok (.getfield 18, 3) := by decide +kernel
theorem dX1_chooseBase_100 : decode cX1_chooseBase 100 = .ok (.iload_n 2, 1) := by decide +kernel
theorem dX1_chooseBase_101 : decode cX1_chooseBase 101 = .ok (.aload_n 0, 1) := by decide +kernel
theorem dX1_chooseBase_102 : decode cX1_chooseBase 102 = .ok (.getfield 18, 3) := by decide +kernel
theorem dX1_chooseBase_105 : decode cX1_chooseBase 105 = .ok (.iload 5, 2) := by decide +kernel
theorem dX1_chooseBase_107 : decode cX1_chooseBase 107 = .ok (.iaload, 1) := by decide +kernel
theorem dX1_chooseBase_108 : decode cX1_chooseBase 108 = .ok (.iconst 1, 1) := by decide +kernel
theorem dX1_chooseBase_109 : decode cX1_chooseBase 109 = .ok (.iadd, 1) := by decide +kernel
theorem dX1_chooseBase_110 : decode cX1_chooseBase 110 = .ok (.iastore, 1) := by decide +kernel
theorem dX1_chooseBase_111 : decode cX1_chooseBase 111 = .ok (.iinc 5 (-1), 3) := by decide +kernel
theorem dX1_chooseBase_114 : decode cX1_chooseBase 114 = .ok (.goto (-94), 3) := by decide +kernel
theorem dX1_chooseBase_117 : decode cX1_chooseBase 117 = .ok (.iload_n 3, 1) := by decide +kernel
theorem dX1_chooseBase_118 : decode cX1_chooseBase 118 = .ok (.ireturn, 1) := by decide +kernel
theorem dX1_placeKind_0 : decode cX1_placeKind 0 = .ok (.bipush 59, 2) := by decide +kernel
theorem dX1_placeKind_2 : decode cX1_placeKind 2 = .ok (.istore_n 3, 1) := by decide +kernel
theorem dX1_placeKind_3 : decode cX1_placeKind 3 = .ok (.iload_n 3, 1) := by decide +kernel
