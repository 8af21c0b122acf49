theorem dX5_many_16 : decode cX5_many 16 = .ok (.l2i, 1) := by decide +kernel
theorem dX5_many_17 : decode cX5_many 17 = .ok (.iadd, 1) := by decide +kernel
theorem dX5_many_18 : decode cX5_many 18 = .ok (.istore_n 2, 1) := by decide +kernel
theorem dX5_many_19 : decode cX5_many 19 = .ok (.iinc 3 1, 3) := by decide +kernel
theorem dX5_many_22 : decode cX5_many 22 = .ok (.goto (-18), 3) := by decide +kernel
theorem dX5_many_25 : decode cX5_many 25 = .ok (.iload_n 2, 1) := by decide +kernel
theorem dX5_many_26 : decode cX5_many 26 = .ok (.ireturn, 1) := by decide +kernel
theorem dX5_has_0 : decode cX5_has 0 = .ok (.iload_n 2, 1) := by decide +kernel
theorem dX5_has_1 : decode cX5_has 1 = .ok (.ifCond .lt 30, 3) := by decide +kernel
theorem dX5_has_4 : decode cX5_has 4 = .ok (.iload_n 2, 1) := by decide +kernel
theorem dX5_has_5 : decode cX5_has 5 = .ok (.aload_n 0, 1) := by decide +kernel
theorem dX5_has_6 : decode cX5_has 6 = .ok (.getfield 69, 3) := by decide +kernel
theorem dX5_has_9 : decode cX5_has 9 = .ok (.if_icmp .ge 22, 3) := by decide +kernel
theorem dX5_has_12 : decode cX5_has 12 = .ok (.aload_n 0, 1) := by decide +kernel
theorem dX5_has_13 : decode cX5_has 13 = .ok (.getfield 22, 3) := by decide +kernel
theorem dX5_has_16 : decode cX5_has 16 = .ok (.iload_n 1, 1) := by decide +kernel
theorem dX5_has_17 : decode cX5_has 17 = .ok (.laload, 1) := by decide +kernel
theorem dX5_has_18 : decode cX5_has 18 = .ok (.iload_n 2, 1) := by decide +kernel
theorem dX5_has_19 : decode cX5_has 19 = .ok (.lshr, 1) := by decide +kernel
theorem dX5_has_20 : decode cX5_has 20 = .ok (.lconst 1, 1) := by decide +kernel
theorem dX5_has_21 : decode cX5_has 21 = .ok (.land, 1) := by decide +kernel
theorem dX5_has_22 : decode cX5_has 22 = .ok (.lconst 1, 1) := by decide +kernel
theorem dX5_has_23 : decode cX5_has 23 = .ok (.lcmp, 1) := by decide +kernel
theorem dX5_has_24 : decode cX5_has 24 = .ok (.ifCond .ne 7, 3) := by decide +kernel
theorem dX5_has_27 : decode cX5_has 27 = .ok (.iconst 1, 1) := by decide +kernel
theorem dX5_has_28 : decode cX5_has 28 = .ok (.goto 4, 3) := by decide +kernel
theorem dX5_has_31 : decode cX5_has 31 = .ok (.iconst 0, 1) := by decide +kernel
theorem dX5_has_32 : decode cX5_has 32 = .ok (.ireturn, 1) := by decide +kernel
theorem dX5_reach_0 : decode cX5_reach 0 = .ok (.lload_n 1, 1) := by decide +kernel
theorem dX5_reach_1 : decode cX5_reach 1 = .ok (.lstore_n 3, 1) := by decide +kernel
theorem dX5_reach_2 : decode cX5_reach 2 = .ok (.aload_n 0, 1) := by decide +kernel
theorem dX5_reach_3 : decode cX5_reach 3 = .ok (.getfield 69, 3) := by decide +kernel
theorem dX5_reach_6 : decode cX5_reach 6 = .ok (.iconst 1, 1) := by decide +kernel
theorem dX5_reach_7 : decode cX5_reach 7 = .ok (.isub, 1) := by decide +kernel
theorem dX5_reach_8 : decode cX5_reach 8 = .ok (.istore 5, 2) := by decide +kernel
theorem dX5_reach_10 : decode cX5_reach 10 = .ok (.iload 5, 2) := by decide +kernel
theorem dX5_reach_12 : decode cX5_reach 12 = .ok (.ifCond .lt 94, 3) := by decide +kernel
theorem dX5_reach_15 : decode cX5_reach 15 = .ok (.lload_n 3, 1) := by decide +kernel
theorem dX5_reach_16 : decode cX5_reach 16 = .ok (.iload 5, 2) := by decide +kernel
theorem dX5_reach_18 : decode cX5_reach 18 = .ok (.lshr, 1) := by decide +kernel
theorem dX5_reach_19 : decode cX5_reach 19 = .ok (.lconst 1, 1) := by decide +kernel
theorem dX5_reach_20 : decode cX5_reach 20 = .ok (.land, 1) := by decide +kernel
theorem dX5_reach_21 : decode cX5_reach 21 = .ok (.lconst 1, 1) := by decide +kernel
theorem dX5_reach_22 : decode cX5_reach 22 = .ok (.lcmp, 1) := by decide +kernel
theorem dX5_reach_23 : decode cX5_reach 23 = .ok (.ifCond .ne 77, 3) := by decide +kernel
theorem dX5_reach_26 : decode cX5_reach 26 = .ok (.aload_n 0, 1) := by decide +kernel
theorem dX5_reach_27 : decode cX5_reach 27 = .ok (.getfield 7, 3) := by decide +kernel
theorem dX5_reach_30 : decode cX5_reach 30 = .ok (.iload 5, 2) := by decide +kernel
theorem dX5_reach_32 : decode cX5_reach 32 = .ok (.iaload, 1) := by decide +kernel
theorem dX5_reach_33 : decode cX5_reach 33 = .ok (.ifCond .le 67, 3) := by decide +kernel
theorem dX5_reach_36 : decode cX5_reach 36 = .ok (.lload_n 3, 1) := by decide +kernel
theorem dX5_reach_37 : decode cX5_reach 37 = .ok (.lconst 1, 1) := by decide +kernel
theorem dX5_reach_38 : decode cX5_reach 38 = .ok (.aload_n 0, 1) := by decide +kernel
theorem dX5_reach_39 : decode cX5_reach 39 = .ok (.getfield 13, 3) := by decide +kernel
theorem dX5_reach_42 : decode cX5_reach 42 = .ok (.iload 5, 2) := by decide +kernel
theorem dX5_reach_44 : decode cX5_reach 44 = .ok (.iaload, 1) := by decide +kernel
theorem dX5_reach_45 : decode cX5_reach 45 = .ok (.lshl, 1) := by decide +kernel
theorem dX5_reach_46 : decode cX5_reach 46 = .ok (.lor, 1) := by decide +kernel
theorem dX5_reach_47 : decode cX5_reach 47 = .ok (.lstore_n 3, 1) := by decide +kernel
theorem dX5_reach_48 : decode cX5_reach 48 = .ok (.aload_n 0, 1) := by decide +kernel
theorem dX5_reach_49 : decode cX5_reach 49 = .ok (.getfield 16, 3) := by decide +kernel
theorem dX5_reach_52 : decode cX5_reach 52 = .ok (.iload 5, 2) := by decide +kernel
theorem dX5_reach_54 : decode cX5_reach 54 = .ok (.iaload, 1) := by decide +kernel
theorem dX5_reach_55 : decode cX5_reach 55 = .ok (.ifCond .lt 17, 3) := by decide +kernel
theorem dX5_reach_58 : decode cX5_reach 58 = .ok (.lload_n 3, 1) := by decide +kernel
theorem dX5_reach_59 : decode cX5_reach 59 = .ok (.lconst 1, 1) := by decide +kernel
theorem dX5_reach_60 : decode cX5_reach 60 = .ok (.aload_n 0, 1) := by decide +kernel
theorem dX5_reach_61 : decode cX5_reach 61 = .ok (.getfield 16, 3) := by decide +kernel
theorem dX5_reach_64 : decode cX5_reach 64 = .ok (.iload 5, 2) := by decide +kernel
theorem dX5_reach_66 : decode cX5_reach 66 = .ok (.iaload, 1) := by decide +kernel
theorem dX5_reach_67 : decode cX5_reach 67 = .ok (.lshl, 1) := by decide +kernel
theorem dX5_reach_68 : decode cX5_reach 68 = .ok (.lor, 1) := by decide +kernel
theorem dX5_reach_69 : decode cX5_reach 69 = .ok (.goto 4, 3) := by decide +kernel
theorem dX5_reach_72 : decode cX5_reach 72 = .ok (.lload_n 3, 1) := by decide +kernel
theorem dX5_reach_73 : decode cX5_reach 73 = .ok (.lstore_n 3, 1) := by decide +kernel
theorem dX5_reach_74 : decode cX5_reach 74 = .ok (.aload_n 0, 1) := by decide +kernel
theorem dX5_reach_75 : decode cX5_reach 75 = .ok (.getfield 19, 3) := by decide +kernel
theorem dX5_reach_78 : decode cX5_reach 78 = .ok (.iload 5, 2) := by decide +kernel
theorem dX5_reach_80 : decode cX5_reach 80 = .ok (.iaload, 1) := by decide +kernel
theorem dX5_reach_81 : decode cX5_reach 81 = .ok (.ifCond .lt 17, 3) := by decide +kernel
theorem dX5_reach_84 : decode cX5_reach 84 = .ok (.lload_n 3, 1) := by decide +kernel
theorem dX5_reach_85 : decode cX5_reach 85 = .ok (.lconst 1, 1) := by decide +kernel
theorem dX5_reach_86 : decode cX5_reach 86 = .ok (.aload_n 0, 1) := by decide +kernel
theorem dX5_reach_87 : decode cX5_reach 87 = .ok (.getfield 19, 3) := by decide +kernel
theorem dX5_reach_90 : decode cX5_reach 90 = .ok (.iload 5, 2) := by decide +kernel
theorem dX5_reach_92 : decode cX5_reach 92 = .ok (.iaload, 1) := by decide +kernel
theorem dX5_reach_93 : decode cX5_reach 93 = .ok (.lshl, 1) := by decide +kernel
theorem dX5_reach_94 : decode cX5_reach 94 = .ok (.lor, 1) := by decide +kernel
theorem dX5_reach_95 : decode cX5_reach 95 = .ok (.goto 4, 3) := by decide +kernel
theorem dX5_reach_98 : decode cX5_reach 98 = .ok (.lload_n 3, 1) := by decide +kernel
theorem dX5_reach_99 : decode cX5_reach 99 = .ok (.lstore_n 3, 1) := by decide +kernel
theorem dX5_reach_100 : decode cX5_reach 100 = .ok (.iinc 5 (-1), 3) := by decide +kernel
theorem dX5_reach_103 : decode cX5_reach 103 = .ok (.goto (-93), 3) := by decide +kernel
theorem dX5_reach_106 : decode cX5_reach 106 = .ok (.lload_n 3, 1) := by decide +kernel
theorem dX5_reach_107 : decode cX5_reach 107 = .ok (.lreturn, 1) := by decide +kernel
theorem dX5_tips_0 : decode cX5_tips 0 = .ok (.lconst 0, 1) := by decide +kernel
theorem dX5_tips_1 : decode cX5_tips 1 = .ok (.lstore 4, 2) := by decide +kernel
theorem dX5_tips_3 : decode cX5_tips 3 = .ok (.iload_n 2, 1) := by decide +kernel
theorem dX5_tips_4 : decode cX5_tips 4 = .ok (.istore 6, 2) := by decide +kernel
theorem dX5_tips_6 : decode cX5_tips 6 = .ok (.iload 6, 2) := by decide +kernel
theorem dX5_tips_8 : decode cX5_tips 8 = .ok (.iload_n 3, 1) := by decide +kernel
theorem dX5_tips_9 : decode cX5_tips 9 = .ok (.if_icmp .gt 45, 3) := by decide +kernel
theorem dX5_tips_12 : decode cX5_tips 12 = .ok (.aload_n 0, 1) := by decide +kernel
theorem dX5_tips_13 : decode cX5_tips 13 = .ok (.getfield 26, 3) := by decide +kernel
theorem dX5_tips_16 : decode cX5_tips 16 = .ok (.bipush 8, 2) := by decide +kernel
theorem dX5_tips_18 : decode cX5_tips 18 = .ok (.iload_n 1, 1) := by decide +kernel
theorem dX5_tips_19 : decode cX5_tips 19 = .ok (.imul, 1) := by decide +kernel
theorem dX5_tips_20 : decode cX5_tips 20 = .ok (.iload 6, 2) := by decide +kernel
theorem dX5_tips_22 : decode cX5_tips 22 = .ok (.iadd, 1) := by decide +kernel
theorem dX5_tips_23 : decode cX5_tips 23 = .ok (.iaload, 1) := by decide +kernel
theorem dX5_tips_24 : decode cX5_tips 24 = .ok (.ifCond .le 24, 3) := by decide +kernel
theorem dX5_tips_27 : decode cX5_tips 27 = .ok (.lload 4, 2) := by decide +kernel
theorem dX5_tips_29 : decode cX5_tips 29 = .ok (.lconst 1, 1) := by decide +kernel
theorem dX5_tips_30 : decode cX5_tips 30 = .ok (.aload_n 0, 1) := by decide +kernel
theorem dX5_tips_31 : decode cX5_tips 31 = .ok (.getfield 26, 3) := by decide +kernel
theorem dX5_tips_34 : decode cX5_tips 34 = .ok (.bipush 8, 2) := by decide +kernel
theorem dX5_tips_36 : decode cX5_tips 36 = .ok (.iload_n 1, 1) := by decide +kernel
theorem dX5_tips_37 : decode cX5_tips 37 = .ok (.imul, 1) := by decide +kernel
theorem dX5_tips_38 : decode cX5_tips 38 = .ok (.iload 6, 2) := by decide +kernel
theorem dX5_tips_40 : decode cX5_tips 40 = .ok (.iadd, 1) := by decide +kernel
theorem dX5_tips_41 : decode cX5_tips 41 = .ok (.iaload, 1) := by decide +kernel
theorem dX5_tips_42 : decode cX5_tips 42 = .ok (.iconst 1, 1) := by decide +kernel
theorem dX5_tips_43 : decode cX5_tips 43 = .ok (.isub, 1) := by decide +kernel
theorem dX5_tips_44 : decode cX5_tips 44 = .ok (.lshl, 1) := by decide +kernel
theorem dX5_tips_45 : decode cX5_tips 45 = .ok (.lor, 1) := by decide +kernel
theorem dX5_tips_46 : decode cX5_tips 46 = .ok (.lstore 4, 2) := by decide +kernel
theorem dX5_tips_48 : decode cX5_tips 48 = .ok (.iinc 6 1, 3) := by decide +kernel
theorem dX5_tips_51 : decode cX5_tips 51 = .ok (.goto (-45), 3) := by decide +kernel
theorem dX5_tips_54 : decode cX5_tips 54 = .ok (.lload 4, 2) := by decide +kernel
theorem dX5_tips_56 : decode cX5_tips 56 = .ok (.lreturn, 1) := by decide +kernel
theorem dX5_write_0 : decode cX5_write 0 = .ok (.aload_n 0, 1) := by decide +kernel
theorem dX5_write_1 : decode cX5_write 1 = .ok (.getfield 33, 3) := by decide +kernel
theorem dX5_write_4 : decode cX5_write 4 = .ok (.iload_n 1, 1) := by decide +kernel
theorem dX5_write_5 : decode cX5_write 5 = .ok (.iaload, 1) := by decide +kernel
theorem dX5_write_6 : decode cX5_write 6 = .ok (.iconst 1, 1) := by decide +kernel
theorem dX5_write_7 : decode cX5_write 7 = .ok (.if_icmp .ne 19, 3) := by decide +kernel
theorem dX5_write_10 : decode cX5_write 10 = .ok (.aload_n 0, 1) := by decide +kernel
theorem dX5_write_11 : decode cX5_write 11 = .ok (.getfield 33, 3) := by decide +kernel
theorem dX5_write_14 : decode cX5_write 14 = .ok (.iload_n 1, 1) := by decide +kernel
theorem dX5_write_15 : decode cX5_write 15 = .ok (.iconst 0, 1) := by decide +kernel
theorem dX5_write_16 : decode cX5_write 16 = .ok (.iastore, 1) := by decide +kernel
theorem dX5_write_17 : decode cX5_write 17 = .ok (.aload_n 0, 1) := by decide +kernel
theorem dX5_write_18 : decode cX5_write 18 = .ok (.getfield 29, 3) := by decide +kernel
theorem dX5_write_21 : decode cX5_write 21 = .ok (.iload_n 1, 1) := by decide +kernel
theorem dX5_write_22 : decode cX5_write 22 = .ok (.iconst 1, 1) := by decide +kernel
theorem dX5_write_23 : decode cX5_write 23 = .ok (.bastore, 1) := by decide +kernel
theorem dX5_write_24 : decode cX5_write 24 = .ok (.iconst 0, 1) := by decide +kernel
theorem dX5_write_25 : decode cX5_write 25 = .ok (.ireturn, 1) := by decide +kernel
theorem dX5_write_26 : decode cX5_write 26 = .ok (.aload_n 0, 1) := by decide +kernel
theorem dX5_write_27 : decode cX5_write 27 = .ok (.getfield 33, 3) := by decide +kernel
theorem dX5_write_30 : decode cX5_write 30 = .ok (.iload_n 1, 1) := by decide +kernel
theorem dX5_write_31 : decode cX5_write 31 = .ok (.aload_n 0, 1) := by decide +kernel
theorem dX5_write_32 : decode cX5_write 32 = .ok (.getfield 33, 3) := by decide +kernel
theorem dX5_write_35 : decode cX5_write 35 = .ok (.iload_n 1, 1) := by decide +kernel
theorem dX5_write_36 : decode cX5_write 36 = .ok (.iaload, 1) := by decide +kernel
theorem dX5_write_37 : decode cX5_write 37 = .ok (.ifCond .le 14, 3) := by decide +kernel
theorem dX5_write_40 : decode cX5_write 40 = .ok (.aload_n 0, 1) := by decide +kernel
theorem dX5_write_41 : decode cX5_write 41 = .ok (.getfield 33, 3) := by decide +kernel
theorem dX5_write_44 : decode cX5_write 44 = .ok (.iload_n 1, 1) := by decide +kernel
theorem dX5_write_45 : decode cX5_write 45 = .ok (.iaload, 1) := by decide +kernel
theorem dX5_write_46 : decode cX5_write 46 = .ok (.iconst 1, 1) := by decide +kernel
theorem dX5_write_47 : decode cX5_write 47 = .ok (.isub, 1) := by decide +kernel
theorem dX5_write_48 : decode cX5_write 48 = .ok (.goto 4, 3) := by decide +kernel
theorem dX5_write_51 : decode cX5_write 51 = .ok (.iconst 0, 1) := by decide +kernel
theorem dX5_write_52 : decode cX5_write 52 = .ok (.iastore, 1) := by decide +kernel
theorem dX5_write_53 : decode cX5_write 53 = .ok (.iconst 1, 1) := by decide +kernel
theorem dX5_write_54 : decode cX5_write 54 = .ok (.ireturn, 1) := by decide +kernel
theorem dX5_store_0 : decode cX5_store 0 = .ok (.iconst 0, 1) := by decide +kernel
theorem dX5_store_1 : decode cX5_store 1 = .ok (.istore 4, 2) := by decide +kernel
theorem dX5_store_3 : decode cX5_store 3 = .ok (.iload 4, 2) := by decide +kernel
theorem dX5_store_5 : decode cX5_store 5 = .ok (.aload_n 0, 1) := by decide +kernel
theorem dX5_store_6 : decode cX5_store 6 = .ok (.getfield 69, 3) := by decide +kernel
theorem dX5_store_9 : decode cX5_store 9 = .ok (.if_icmp .ge 57, 3) := by decide +kernel
theorem dX5_store_12 : decode cX5_store 12 = .ok (.lload_n 2, 1) := by decide +kernel
theorem dX5_store_13 : decode cX5_store 13 = .ok (.iload 4, 2) := by decide +kernel
theorem dX5_store_15 : decode cX5_store 15 = .ok (.lshr, 1) := by decide +kernel
theorem dX5_store_16 : decode cX5_store 16 = .ok (.lconst 1, 1) := by decide +kernel
theorem dX5_store_17 : decode cX5_store 17 = .ok (.land, 1) := by decide +kernel
theorem dX5_store_18 : decode cX5_store 18 = .ok (.lconst 1, 1) := by decide +kernel
theorem dX5_store_19 : decode cX5_store 19 = .ok (.lcmp, 1) := by decide +kernel
theorem dX5_store_20 : decode cX5_store 20 = .ok (.ifCond .ne 40, 3) := by decide +kernel
theorem dX5_store_23 : decode cX5_store 23 = .ok (.aload_n 0, 1) := by decide +kernel
theorem dX5_store_24 : decode cX5_store 24 = .ok (.iload_n 1, 1) := by decide +kernel
theorem dX5_store_25 : decode cX5_store 25 = .ok (.iload 4, 2) := by decide +kernel
theorem dX5_store_27 : decode cX5_store 27 = .ok (.invokevirtual 73, 3) := by decide +kernel
theorem dX5_store_30 : decode cX5_store 30 = .ok (.ifCond .ne 30, 3) := by decide +kernel
theorem dX5_store_33 : decode cX5_store 33 = .ok (.aload_n 0, 1) := by decide +kernel
theorem dX5_store_34 : decode cX5_store 34 = .ok (.iload_n 1, 1) := by decide +kernel
theorem dX5_store_35 : decode cX5_store 35 = .ok (.invokevirtual 77, 3) := by decide +kernel
theorem dX5_store_38 : decode cX5_store 38 = .ok (.ifCond .ne 5, 3) := by decide +kernel
theorem dX5_store_41 : decode cX5_store 41 = .ok (.iconst 0, 1) := by decide +kernel
theorem dX5_store_42 : decode cX5_store 42 = .ok (.ireturn, 1) := by decide +kernel
theorem dX5_store_43 : decode cX5_store 43 = .ok (.aload_n 0, 1) := by decide +kernel
theorem dX5_store_44 : decode cX5_store 44 = .ok (.getfield 22, 3) := by decide +kernel
theorem dX5_store_47 : decode cX5_store 47 = .ok (.iload_n 1, 1) := by decide +kernel
theorem dX5_store_48 : decode cX5_store 48 = .ok (.aload_n 0, 1) := by decide +kernel
theorem dX5_store_49 : decode cX5_store 49 = .ok (.getfield 22, 3) := by decide +kernel
theorem dX5_store_52 : decode cX5_store 52 = .ok (.iload_n 1, 1) := by decide +kernel
theorem dX5_store_53 : decode cX5_store 53 = .ok (.laload, 1) := by decide +kernel
theorem dX5_store_54 : decode cX5_store 54 = .ok (.lconst 1, 1) := by decide +kernel
theorem dX5_store_55 : decode cX5_store 55 = .ok (.iload 4, 2) := by decide +kernel
theorem dX5_store_57 : decode cX5_store 57 = .ok (.lshl, 1) := by decide +kernel
theorem dX5_store_58 : decode cX5_store 58 = .ok (.lor, 1) := by decide +kernel
theorem dX5_store_59 : decode cX5_store 59 = .ok (.lastore, 1) := by decide +kernel
theorem dX5_store_60 : decode cX5_store 60 = .ok (.iinc 4 1, 3) := by decide +kernel
theorem dX5_store_63 : decode cX5_store 63 = .ok (.goto (-60), 3) := by decide +kernel
theorem dX5_store_66 : decode cX5_store 66 = .ok (.iconst 1, 1) := by decide +kernel
theorem dX5_store_67 : decode cX5_store 67 = .ok (.ireturn, 1) := by decide +kernel
theorem dX5_wish_0 : decode cX5_wish 0 = .ok (.aload_n 0, 1) := by decide +kernel
theorem dX5_wish_1 : decode cX5_wish 1 = .ok (.getfield 48, 3) := by decide +kernel
theorem dX5_wish_4 : decode cX5_wish 4 = .ok (.aload_n 0, 1) := by decide +kernel
theorem dX5_wish_5 : decode cX5_wish 5 = .ok (.getfield 81, 3) := by decide +kernel
theorem dX5_wish_8 : decode cX5_wish 8 = .ok (.iload_n 1, 1) := by decide +kernel
theorem dX5_wish_9 : decode cX5_wish 9 = .ok (.iastore, 1) := by decide +kernel
theorem dX5_wish_10 : decode cX5_wish 10 = .ok (.aload_n 0, 1) := by decide +kernel
theorem dX5_wish_11 : decode cX5_wish 11 = .ok (.getfield 51, 3) := by decide +kernel
theorem dX5_wish_14 : decode cX5_wish 14 = .ok (.aload_n 0, 1) := by decide +kernel
theorem dX5_wish_15 : decode cX5_wish 15 = .ok (.getfield 81, 3) := by decide +kernel
theorem dX5_wish_18 : decode cX5_wish 18 = .ok (.iload_n 2, 1) := by decide +kernel
theorem dX5_wish_19 : decode cX5_wish 19 = .ok (.iastore, 1) := by decide +kernel
theorem dX5_wish_20 : decode cX5_wish 20 = .ok (.aload_n 0, 1) := by decide +kernel
theorem dX5_wish_21 : decode cX5_wish 21 = .ok (.dup, 1) := by decide +kernel
theorem dX5_wish_22 : decode cX5_wish 22 = .ok (.getfield 81, 3) := by decide +kernel
theorem dX5_wish_25 : decode cX5_wish 25 = .ok (.iconst 1, 1) := by decide +kernel
theorem dX5_wish_26 : decode cX5_wish 26 = .ok (.iadd, 1) := by decide +kernel
theorem dX5_wish_27 : decode cX5_wish 27 = .ok (.putfield 81, 3) := by decide +kernel
theorem dX5_wish_30 : decode cX5_wish 30 = .ok (.return_, 1) := by decide +kernel
theorem dX5_wipe_0 : decode cX5_wipe 0 = .ok (.aload_n 0, 1) := by decide +kernel
theorem dX5_wipe_1 : decode cX5_wipe 1 = .ok (.iload_n 1, 1) := by decide +kernel
theorem dX5_wipe_2 : decode cX5_wipe 2 = .ok (.invokevirtual 77, 3) := by decide +kernel
theorem dX5_wipe_5 : decode cX5_wipe 5 = .ok (.ifCond .ne 5, 3) := by decide +kernel
theorem dX5_wipe_8 : decode cX5_wipe 8 = .ok (.iconst 0, 1) := by decide +kernel
theorem dX5_wipe_9 : decode cX5_wipe 9 = .ok (.ireturn, 1) := by decide +kernel
theorem dX5_wipe_10 : decode cX5_wipe 10 = .ok (.aload_n 0, 1) := by decide +kernel
theorem dX5_wipe_11 : decode cX5_wipe 11 = .ok (.getfield 36, 3) := by decide +kernel
theorem dX5_wipe_14 : decode cX5_wipe 14 = .ok (.iload_n 1, 1) := by decide +kernel
theorem dX5_wipe_15 : decode cX5_wipe 15 = .ok (.iconst 0, 1) := by decide +kernel
theorem dX5_wipe_16 : decode cX5_wipe 16 = .ok (.iastore, 1) := by decide +kernel
theorem dX5_wipe_17 : decode cX5_wipe 17 = .ok (.aload_n 0, 1) := by decide +kernel
theorem dX5_wipe_18 : decode cX5_wipe 18 = .ok (.getfield 39, 3) := by decide +kernel
theorem dX5_wipe_21 : decode cX5_wipe 21 = .ok (.iload_n 1, 1) := by decide +kernel
theorem dX5_wipe_22 : decode cX5_wipe 22 = .ok (.iconst 0, 1) := by decide +kernel
theorem dX5_wipe_23 : decode cX5_wipe 23 = .ok (.bastore, 1) := by decide +kernel
theorem dX5_wipe_24 : decode cX5_wipe 24 = .ok (.iconst 1, 1) := by decide +kernel
theorem dX5_wipe_25 : decode cX5_wipe 25 = .ok (.ireturn, 1) := by decide +kernel
theorem dX5_replay_0 : decode cX5_replay 0 = .ok (.iconst 0, 1) := by decide +kernel
theorem dX5_replay_1 : decode cX5_replay 1 = .ok (.istore_n 2, 1) := by decide +kernel
theorem dX5_replay_2 : decode cX5_replay 2 = .ok (.iload_n 2, 1) := by decide +kernel
theorem dX5_replay_3 : decode cX5_replay 3 = .ok (.aload_n 0, 1) := by decide +kernel
theorem dX5_replay_4 : decode cX5_replay 4 = .ok (.getfield 36, 3) := by decide +kernel
theorem dX5_replay_7 : decode cX5_replay 7 = .ok (.iload_n 1, 1) := by decide +kernel
theorem dX5_replay_8 : decode cX5_replay 8 = .ok (.iaload, 1) := by decide +kernel
theorem dX5_replay_9 : decode cX5_replay 9 = .ok (.if_icmp .ge 49, 3) := by decide +kernel
theorem dX5_replay_12 : decode cX5_replay 12 = .ok (.aload_n 0, 1) := by decide +kernel
theorem dX5_replay_13 : decode cX5_replay 13 = .ok (.iload_n 1, 1) := by decide +kernel
theorem dX5_replay_14 : decode cX5_replay 14 = .ok (.invokevirtual 77, 3) := by decide +kernel
theorem dX5_replay_17 : decode cX5_replay 17 = .ok (.ifCond .ne 5, 3) := by decide +kernel
theorem dX5_replay_20 : decode cX5_replay 20 = .ok (.iconst 0, 1) := by decide +kernel
theorem dX5_replay_21 : decode cX5_replay 21 = .ok (.ireturn, 1) := by decide +kernel
theorem dX5_replay_22 : decode cX5_replay 22 = .ok (.aload_n 0, 1) := by decide +kernel
theorem dX5_replay_23 : decode cX5_replay 23 = .ok (.getfield 26, 3) := by decide +kernel
theorem dX5_replay_26 : decode cX5_replay 26 = .ok (.bipush 8, 2) := by decide +kernel
theorem dX5_replay_28 : decode cX5_replay 28 = .ok (.iload_n 1, 1) := by decide +kernel
theorem dX5_replay_29 : decode cX5_replay 29 = .ok (.imul, 1) := by decide +kernel
theorem dX5_replay_30 : decode cX5_replay 30 = .ok (.aload_n 0, 1) := by decide +kernel
theorem dX5_replay_31 : decode cX5_replay 31 = .ok (.getfield 42, 3) := by decide +kernel
theorem dX5_replay_34 : decode cX5_replay 34 = .ok (.iconst 4, 1) := by decide +kernel
theorem dX5_replay_35 : decode cX5_replay 35 = .ok (.iload_n 1, 1) := by decide +kernel
theorem dX5_replay_36 : decode cX5_replay 36 = .ok (.imul, 1) := by decide +kernel
theorem dX5_replay_37 : decode cX5_replay 37 = .ok (.iload_n 2, 1) := by decide +kernel
theorem dX5_replay_38 : decode cX5_replay 38 = .ok (.iadd, 1) := by decide +kernel
theorem dX5_replay_39 : decode cX5_replay 39 = .ok (.iaload, 1) := by decide +kernel
theorem dX5_replay_40 : decode cX5_replay 40 = .ok (.iadd, 1) := by decide +kernel
theorem dX5_replay_41 : decode cX5_replay 41 = .ok (.aload_n 0, 1) := by decide +kernel
theorem dX5_replay_42 : decode cX5_replay 42 = .ok (.getfield 45, 3) := by decide +kernel
theorem dX5_replay_45 : decode cX5_replay 45 = .ok (.iconst 4, 1) := by decide +kernel
theorem dX5_replay_46 : decode cX5_replay 46 = .ok (.iload_n 1, 1) := by decide +kernel
theorem dX5_replay_47 : decode cX5_replay 47 = .ok (.imul, 1) := by decide +kernel
theorem dX5_replay_48 : decode cX5_replay 48 = .ok (.iload_n 2, 1) := by decide +kernel
theorem dX5_replay_49 : decode cX5_replay 49 = .ok (.iadd, 1) := by decide +kernel
theorem dX5_replay_50 : decode cX5_replay 50 = .ok (.iaload, 1) := by decide +kernel
theorem dX5_replay_51 : decode cX5_replay 51 = .ok (.iastore, 1) := by decide +kernel
theorem dX5_replay_52 : decode cX5_replay 52 = .ok (.iinc 2 1, 3) := by decide +kernel
theorem dX5_replay_55 : decode cX5_replay 55 = .ok (.goto (-53), 3) := by decide +kernel
theorem dX5_replay_58 : decode cX5_replay 58 = .ok (.aload_n 0, 1) := by decide +kernel
theorem dX5_replay_59 : decode cX5_replay 59 = .ok (.iload_n 1, 1) := by decide +kernel
theorem dX5_replay_60 : decode cX5_replay 60 = .ok (.invokevirtual 87, 3) := by decide +kernel
theorem dX5_replay_63 : decode cX5_replay 63 = .ok (.ireturn, 1) := by decide +kernel
theorem dX5_transact_0 : decode cX5_transact 0 = .ok (.iconst 0, 1) := by decide +kernel
theorem dX5_transact_1 : decode cX5_transact 1 = .ok (.istore_n 2, 1) := by decide +kernel
theorem dX5_transact_2 : decode cX5_transact 2 = .ok (.iconst 0, 1) := by decide +kernel
theorem dX5_transact_3 : decode cX5_transact 3 = .ok (.istore_n 3, 1) := by decide +kernel
theorem dX5_transact_4 : decode cX5_transact 4 = .ok (.iload_n 3, 1) := by decide +kernel
theorem dX5_transact_5 : decode cX5_transact 5 = .ok (.aload_n 0, 1) := by decide +kernel
theorem dX5_transact_6 : decode cX5_transact 6 = .ok (.getfield 81, 3) := by decide +kernel
theorem dX5_transact_9 : decode cX5_transact 9 = .ok (.if_icmp .ge 86, 3) := by decide +kernel
theorem dX5_transact_12 : decode cX5_transact 12 = .ok (.aload_n 0, 1) := by decide +kernel
theorem dX5_transact_13 : decode cX5_transact 13 = .ok (.getfield 26, 3) := by decide +kernel
theorem dX5_transact_16 : decode cX5_transact 16 = .ok (.bipush 8, 2) := by decide +kernel
theorem dX5_transact_18 : decode cX5_transact 18 = .ok (.iload_n 1, 1) := by decide +kernel
theorem dX5_transact_19 : decode cX5_transact 19 = .ok (.imul, 1) := by decide +kernel
theorem dX5_transact_20 : decode cX5_transact 20 = .ok (.aload_n 0, 1) := by decide +kernel
theorem dX5_transact_21 : decode cX5_transact 21 = .ok (.getfield 48, 3) := by decide +kernel
theorem dX5_transact_24 : decode cX5_transact 24 = .ok (.iload_n 3, 1) := by decide +kernel
theorem dX5_transact_25 : decode cX5_transact 25 = .ok (.iaload, 1) := by decide +kernel
theorem dX5_transact_26 : decode cX5_transact 26 = .ok (.iadd, 1) := by decide +kernel
theorem dX5_transact_27 : decode cX5_transact 27 = .ok (.iaload, 1) := by decide +kernel
theorem dX5_transact_28 : decode cX5_transact 28 = .ok (.aload_n 0, 1) := by decide +kernel
theorem dX5_transact_29 : decode cX5_transact 29 = .ok (.getfield 51, 3) := by decide +kernel
theorem dX5_transact_32 : decode cX5_transact 32 = .ok (.iload_n 3, 1) := by decide +kernel
theorem dX5_transact_33 : decode cX5_transact 33 = .ok (.iaload, 1) := by decide +kernel
theorem dX5_transact_34 : decode cX5_transact 34 = .ok (.if_icmp .eq 55, 3) := by decide +kernel
theorem dX5_transact_37 : decode cX5_transact 37 = .ok (.aload_n 0, 1) := by decide +kernel
theorem dX5_transact_38 : decode cX5_transact 38 = .ok (.iload_n 1, 1) := by decide +kernel
theorem dX5_transact_39 : decode cX5_transact 39 = .ok (.invokevirtual 77, 3) := by decide +kernel
theorem dX5_transact_42 : decode cX5_transact 42 = .ok (.ifCond .ne 5, 3) := by decide +kernel
theorem dX5_transact_45 : decode cX5_transact 45 = .ok (.iconst 0, 1) := by decide +kernel
theorem dX5_transact_46 : decode cX5_transact 46 = .ok (.ireturn, 1) := by decide +kernel
theorem dX5_transact_47 : decode cX5_transact 47 = .ok (.aload_n 0, 1) := by decide +kernel
theorem dX5_transact_48 : decode cX5_transact 48 = .ok (.getfield 42, 3) := by decide +kernel
theorem dX5_transact_51 : decode cX5_transact 51 = .ok (.iconst 4, 1) := by decide +kernel
theorem dX5_transact_52 : decode cX5_transact 52 = .ok (.iload_n 1, 1) := by decide +kernel
theorem dX5_transact_53 : decode cX5_transact 53 = .ok (.imul, 1) := by decide +kernel
theorem dX5_transact_54 : decode cX5_transact 54 = .ok (.iload_n 2, 1) := by decide +kernel
theorem dX5_transact_55 : decode cX5_transact 55 = .ok (.iadd, 1) := by decide +kernel
theorem dX5_transact_56 : decode cX5_transact 56 = .ok (.aload_n 0, 1) := by decide +kernel
theorem dX5_transact_57 : decode cX5_transact 57 = .ok (.getfield 48, 3) := by decide +kernel
theorem dX5_transact_60 : decode cX5_transact 60 = .ok (.iload_n 3, 1) := by decide +kernel
theorem dX5_transact_61 : decode cX5_transact 61 = .ok (.iaload, 1) := by decide +kernel
theorem dX5_transact_62 : decode cX5_transact 62 = .ok (.iastore, 1) := by decide +kernel
theorem dX5_transact_63 : decode cX5_transact 63 = .ok (.aload_n 0, 1) := by decide +kernel
theorem dX5_transact_64 : decode cX5_transact 64 = .ok (.getfield 45, 3) := by decide +kernel
theorem dX5_transact_67 : decode cX5_transact 67 = .ok (.iconst 4, 1) := by decide +kernel
theorem dX5_transact_68 : decode cX5_transact 68 = .ok (.iload_n 1, 1) := by decide +kernel
theorem dX5_transact_69 : decode cX5_transact 69 = .ok (.imul, 1) := by decide +kernel
theorem dX5_transact_70 : decode cX5_transact 70 = .ok (.iload_n 2, 1) := by decide +kernel
theorem dX5_transact_71 : decode cX5_transact 71 = .ok (.iadd, 1) := by decide +kernel
theorem dX5_transact_72 : decode cX5_transact 72 = .ok (.aload_n 0, 1) := by decide +kernel
theorem dX5_transact_73 : decode cX5_transact 73 = .ok (.getfield 51, 3) := by decide +kernel
theorem dX5_transact_76 : decode cX5_transact 76 = .ok (.iload_n 3, 1) := by decide +kernel
theorem dX5_transact_77 : decode cX5_transact 77 = .ok (.iaload, 1) := by decide +kernel
theorem dX5_transact_78 : decode cX5_transact 78 = .ok (.iastore, 1) := by decide +kernel
theorem dX5_transact_79 : decode cX5_transact 79 = .ok (.iinc 2 1, 3) := by decide +kernel
theorem dX5_transact_82 : decode cX5_transact 82 = .ok (.aload_n 0, 1) := by decide +kernel
theorem dX5_transact_83 : decode cX5_transact 83 = .ok (.getfield 36, 3) := by decide +kernel
theorem dX5_transact_86 : decode cX5_transact 86 = .ok (.iload_n 1, 1) := by decide +kernel
theorem dX5_transact_87 : decode cX5_transact 87 = .ok (.iload_n 2, 1) := by decide +kernel
theorem dX5_transact_88 : decode cX5_transact 88 = .ok (.iastore, 1) := by decide +kernel
theorem dX5_transact_89 : decode cX5_transact 89 = .ok (.iinc 3 1, 3) := by decide +kernel
theorem dX5_transact_92 : decode cX5_transact 92 = .ok (.goto (-88), 3) := by decide +kernel
theorem dX5_transact_95 : decode cX5_transact 95 = .ok (.iload_n 2, 1) := by decide +kernel
theorem dX5_transact_96 : decode cX5_transact 96 = .ok (.ifCond .ne 5, 3) := by decide +kernel
theorem dX5_transact_99 : decode cX5_transact 99 = .ok (.iconst 1, 1) := by decide +kernel
theorem dX5_transact_100 : decode cX5_transact 100 = .ok (.ireturn, 1) := by decide +kernel
theorem dX5_transact_101 : decode cX5_transact 101 = .ok (.aload_n 0, 1) := by decide +kernel
theorem dX5_transact_102 : decode cX5_transact 102 = .ok (.iload_n 1, 1) := by decide +kernel
theorem dX5_transact_103 : decode cX5_transact 103 = .ok (.invokevirtual 77, 3) := by decide +kernel
theorem dX5_transact_106 : decode cX5_transact 106 = .ok (.ifCond .ne 5, 3) := by decide +kernel
theorem dX5_transact_109 : decode cX5_transact 109 = .ok (.iconst 0, 1) := by decide +kernel
theorem dX5_transact_110 : decode cX5_transact 110 = .ok (.ireturn, 1) := by decide +kernel
theorem dX5_transact_111 : decode cX5_transact 111 = .ok (.aload_n 0, 1) := by decide +kernel
theorem dX5_transact_112 : decode cX5_transact 112 = .ok (.getfield 39, 3) := by decide +kernel
theorem dX5_transact_115 : decode cX5_transact 115 = .ok (.iload_n 1, 1) := by decide +kernel
theorem dX5_transact_116 : decode cX5_transact 116 = .ok (.iconst 1, 1) := by decide +kernel
theorem dX5_transact_117 : decode cX5_transact 117 = .ok (.bastore, 1) := by decide +kernel
theorem dX5_transact_118 : decode cX5_transact 118 = .ok (.aload_n 0, 1) := by decide +kernel
theorem dX5_transact_119 : decode cX5_transact 119 = .ok (.iload_n 1, 1) := by decide +kernel
theorem dX5_transact_120 : decode cX5_transact 120 = .ok (.invokevirtual 84, 3) := by decide +kernel
theorem dX5_transact_123 : decode cX5_transact 123 = .ok (.ireturn, 1) := by decide +kernel
theorem dX5_make_0 : decode cX5_make 0 = .ok (.iconst 0, 1) := by decide +kernel
theorem dX5_make_1 : decode cX5_make 1 = .ok (.istore 6, 2) := by decide +kernel
theorem dX5_make_3 : decode cX5_make 3 = .ok (.iload 6, 2) := by decide +kernel
theorem dX5_make_5 : decode cX5_make 5 = .ok (.aload_n 0, 1) := by decide +kernel
theorem dX5_make_6 : decode cX5_make 6 = .ok (.getfield 69, 3) := by decide +kernel
theorem dX5_make_9 : decode cX5_make 9 = .ok (.if_icmp .ge 55, 3) := by decide +kernel
theorem dX5_make_12 : decode cX5_make 12 = .ok (.aload_n 0, 1) := by decide +kernel
theorem dX5_make_13 : decode cX5_make 13 = .ok (.getfield 7, 3) := by decide +kernel
theorem dX5_make_16 : decode cX5_make 16 = .ok (.iload 6, 2) := by decide +kernel
theorem dX5_make_18 : decode cX5_make 18 = .ok (.iaload, 1) := by decide +kernel
theorem dX5_make_19 : decode cX5_make 19 = .ok (.iload_n 2, 1) := by decide +kernel
theorem dX5_make_20 : decode cX5_make 20 = .ok (.if_icmp .ne 38, 3) := by decide +kernel
theorem dX5_make_23 : decode cX5_make 23 = .ok (.aload_n 0, 1) := by decide +kernel
theorem dX5_make_24 : decode cX5_make 24 = .ok (.getfield 13, 3) := by decide +kernel
theorem dX5_make_27 : decode cX5_make 27 = .ok (.iload 6, 2) := by decide +kernel
theorem dX5_make_29 : decode cX5_make 29 = .ok (.iaload, 1) := by decide +kernel
theorem dX5_make_30 : decode cX5_make 30 = .ok (.iload_n 3, 1) := by decide +kernel
theorem dX5_make_31 : decode cX5_make 31 = .ok (.if_icmp .ne 27, 3) := by decide +kernel
theorem dX5_make_34 : decode cX5_make 34 = .ok (.aload_n 0, 1) := by decide +kernel
theorem dX5_make_35 : decode cX5_make 35 = .ok (.getfield 16, 3) := by decide +kernel
theorem dX5_make_38 : decode cX5_make 38 = .ok (.iload 6, 2) := by decide +kernel
theorem dX5_make_40 : decode cX5_make 40 = .ok (.iaload, 1) := by decide +kernel
theorem dX5_make_41 : decode cX5_make 41 = .ok (.iload 4, 2) := by decide +kernel
theorem dX5_make_43 : decode cX5_make 43 = .ok (.if_icmp .ne 15, 3) := by decide +kernel
theorem dX5_make_46 : decode cX5_make 46 = .ok (.aload_n 0, 1) := by decide +kernel
theorem dX5_make_47 : decode cX5_make 47 = .ok (.getfield 19, 3) := by decide +kernel
theorem dX5_make_50 : decode cX5_make 50 = .ok (.iload 6, 2) := by decide +kernel
theorem dX5_make_52 : decode cX5_make 52 = .ok (.iaload, 1) := by decide +kernel
theorem dX5_make_53 : decode cX5_make 53 = .ok (.iload 5, 2) := by decide +kernel
theorem dX5_make_55 : decode cX5_make 55 = .ok (.if_icmp .eq 9, 3) := by decide +kernel
theorem dX5_make_58 : decode cX5_make 58 = .ok (.iinc 6 1, 3) := by decide +kernel
theorem dX5_make_61 : decode cX5_make 61 = .ok (.goto (-58), 3) := by decide +kernel
theorem dX5_make_64 : decode cX5_make 64 = .ok (.iload 6, 2) := by decide +kernel
theorem dX5_make_66 : decode cX5_make 66 = .ok (.bipush 60, 2) := by decide +kernel
theorem dX5_make_68 : decode cX5_make 68 = .ok (.if_icmp .ne 6, 3) := by decide +kernel
theorem dX5_make_71 : decode cX5_make 71 = .ok (.bipush (-3), 2) := by decide +kernel
theorem dX5_make_73 : decode cX5_make 73 = .ok (.ireturn, 1) := by decide +kernel
theorem dX5_make_74 : decode cX5_make 74 = .ok (.iload 6, 2) := by decide +kernel
theorem dX5_make_76 : decode cX5_make 76 = .ok (.aload_n 0, 1) := by decide +kernel
theorem dX5_make_77 : decode cX5_make 77 = .ok (.getfield 69, 3) := by decide +kernel
theorem dX5_make_80 : decode cX5_make 80 = .ok (.if_icmp .ge 16, 3) := by decide +kernel
theorem dX5_make_83 : decode cX5_make 83 = .ok (.aload_n 0, 1) := by decide +kernel
theorem dX5_make_84 : decode cX5_make 84 = .ok (.iload_n 1, 1) := by decide +kernel
theorem dX5_make_85 : decode cX5_make 85 = .ok (.iload 6, 2) := by decide +kernel
theorem dX5_make_87 : decode cX5_make 87 = .ok (.invokevirtual 73, 3) := by decide +kernel
theorem dX5_make_90 : decode cX5_make 90 = .ok (.ifCond .eq 6, 3) := by decide +kernel
theorem dX5_make_93 : decode cX5_make 93 = .ok (.iload 6, 2) := by decide +kernel
theorem dX5_make_95 : decode cX5_make 95 = .ok (.ireturn, 1) := by decide +kernel
theorem dX5_make_96 : decode cX5_make 96 = .ok (.aload_n 0, 1) := by decide +kernel
theorem dX5_make_97 : decode cX5_make 97 = .ok (.iload_n 1, 1) := by decide +kernel
theorem dX5_make_98 : decode cX5_make 98 = .ok (.invokevirtual 77, 3) := by decide +kernel
theorem dX5_make_101 : decode cX5_make 101 = .ok (.ifCond .ne 6, 3) := by decide +kernel
theorem dX5_make_104 : decode cX5_make 104 = .ok (.bipush (-2), 2) := by decide +kernel
theorem dX5_make_106 : decode cX5_make 106 = .ok (.ireturn, 1) := by decide +kernel
theorem dX5_make_107 : decode cX5_make 107 = .ok (.iload 6, 2) := by decide +kernel
theorem dX5_make_109 : decode cX5_make 109 = .ok (.aload_n 0, 1) := by decide +kernel
theorem dX5_make_110 : decode cX5_make 110 = .ok (.getfield 69, 3) := by decide +kernel
theorem dX5_make_113 : decode cX5_make 113 = .ok (.if_icmp .ne 47, 3) := by decide +kernel
theorem dX5_make_116 : decode cX5_make 116 = .ok (.aload_n 0, 1) := by decide +kernel
theorem dX5_make_117 : decode cX5_make 117 = .ok (.getfield 7, 3) := by decide +kernel
theorem dX5_make_120 : decode cX5_make 120 = .ok (.iload 6, 2) := by decide +kernel
theorem dX5_make_122 : decode cX5_make 122 = .ok (.iload_n 2, 1) := by decide +kernel
theorem dX5_make_123 : decode cX5_make 123 = .ok (.iastore, 1) := by decide +kernel
theorem dX5_make_124 : decode cX5_make 124 = .ok (.aload_n 0, 1) := by decide +kernel
theorem dX5_make_125 : decode cX5_make 125 = .ok (.getfield 13, 3) := by decide +kernel
theorem dX5_make_128 : decode cX5_make 128 = .ok (.iload 6, 2) := by decide +kernel
theorem dX5_make_130 : decode cX5_make 130 = .ok (.iload_n 3, 1) := by decide +kernel
theorem dX5_make_131 : decode cX5_make 131 = .ok (.iastore, 1) := by decide +kernel
theorem dX5_make_132 : decode cX5_make 132 = .ok (.aload_n 0, 1) := by decide +kernel
theorem dX5_make_133 : decode cX5_make 133 = .ok (.getfield 16, 3) := by decide +kernel
theorem dX5_make_136 : decode cX5_make 136 = .ok (.iload 6, 2) := by decide +kernel
theorem dX5_make_138 : decode cX5_make 138 = .ok (.iload 4, 2) := by decide +kernel
theorem dX5_make_140 : decode cX5_make 140 = .ok (.iastore, 1) := by decide +kernel
theorem dX5_make_141 : decode cX5_make 141 = .ok (.aload_n 0, 1) := by decide +kernel
theorem dX5_make_142 : decode cX5_make 142 = .ok (.getfield 19, 3) := by decide +kernel
theorem dX5_make_145 : decode cX5_make 145 = .ok (.iload 6, 2) := by decide +kernel
theorem dX5_make_147 : decode cX5_make 147 = .ok (.iload 5, 2) := by decide +kernel
theorem dX5_make_149 : decode cX5_make 149 = .ok (.iastore, 1) := by decide +kernel
theorem dX5_make_150 : decode cX5_make 150 = .ok (.aload_n 0, 1) := by decide +kernel
theorem dX5_make_151 : decode cX5_make 151 = .ok (.dup, 1) := by decide +kernel
theorem dX5_make_152 : decode cX5_make 152 = .ok (.getfield 69, 3) := by decide +kernel
