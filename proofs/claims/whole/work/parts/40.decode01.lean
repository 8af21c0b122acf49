theorem dX4_isNode_0 : decode cX4_isNode 0 = .ok (.iload_n 0, 1) := by decide +kernel
theorem dX4_isNode_1 : decode cX4_isNode 1 = .ok (.ifCond .lt 12, 3) := by decide +kernel
theorem dX4_isNode_4 : decode cX4_isNode 4 = .ok (.iload_n 0, 1) := by decide +kernel
theorem dX4_isNode_5 : decode cX4_isNode 5 = .ok (.iconst 3, 1) := by decide +kernel
theorem dX4_isNode_6 : decode cX4_isNode 6 = .ok (.if_icmp .ge 7, 3) := by decide +kernel
theorem dX4_isNode_9 : decode cX4_isNode 9 = .ok (.iconst 1, 1) := by decide +kernel
theorem dX4_isNode_10 : decode cX4_isNode 10 = .ok (.goto 4, 3) := by decide +kernel
theorem dX4_isNode_13 : decode cX4_isNode 13 = .ok (.iconst 0, 1) := by decide +kernel
theorem dX4_isNode_14 : decode cX4_isNode 14 = .ok (.ireturn, 1) := by decide +kernel
theorem dX4_isClient_0 : decode cX4_isClient 0 = .ok (.iload_n 0, 1) := by decide +kernel
theorem dX4_isClient_1 : decode cX4_isClient 1 = .ok (.invokestatic 44, 3) := by decide +kernel
theorem dX4_isClient_4 : decode cX4_isClient 4 = .ok (.ifCond .eq 11, 3) := by decide +kernel
theorem dX4_isClient_7 : decode cX4_isClient 7 = .ok (.iload_n 0, 1) := by decide +kernel
theorem dX4_isClient_8 : decode cX4_isClient 8 = .ok (.ifCond .eq 7, 3) := by decide +kernel
theorem dX4_isClient_11 : decode cX4_isClient 11 = .ok (.iconst 1, 1) := by decide +kernel
theorem dX4_isClient_12 : decode cX4_isClient 12 = .ok (.goto 4, 3) := by decide +kernel
theorem dX4_isClient_15 : decode cX4_isClient 15 = .ok (.iconst 0, 1) := by decide +kernel
theorem dX4_isClient_16 : decode cX4_isClient 16 = .ok (.ireturn, 1) := by decide +kernel
theorem dX4_isOwnReference_0 : decode cX4_isOwnReference 0 = .ok (.iload_n 0, 1) := by decide +kernel
theorem dX4_isOwnReference_1 : decode cX4_isOwnReference 1 = .ok (.ifCond .lt 12, 3) := by decide +kernel
theorem dX4_isOwnReference_4 : decode cX4_isOwnReference 4 = .ok (.iload_n 0, 1) := by decide +kernel
theorem dX4_isOwnReference_5 : decode cX4_isOwnReference 5 = .ok (.iconst 4, 1) := by decide +kernel
theorem dX4_isOwnReference_6 : decode cX4_isOwnReference 6 = .ok (.if_icmp .ge 7, 3) := by decide +kernel
theorem dX4_isOwnReference_9 : decode cX4_isOwnReference 9 = .ok (.iconst 1, 1) := by decide +kernel
theorem dX4_isOwnReference_10 : decode cX4_isOwnReference 10 = .ok (.goto 4, 3) := by decide +kernel
theorem dX4_isOwnReference_13 : decode cX4_isOwnReference 13 = .ok (.iconst 0, 1) := by decide +kernel
theorem dX4_isOwnReference_14 : decode cX4_isOwnReference 14 = .ok (.ireturn, 1) := by decide +kernel
theorem dX4_isSet_0 : decode cX4_isSet 0 = .ok (.iload_n 0, 1) := by decide +kernel
theorem dX4_isSet_1 : decode cX4_isSet 1 = .ok (.iconst 1, 1) := by decide +kernel
theorem dX4_isSet_2 : decode cX4_isSet 2 = .ok (.if_icmp .lt 13, 3) := by decide +kernel
theorem dX4_isSet_5 : decode cX4_isSet 5 = .ok (.iload_n 0, 1) := by decide +kernel
theorem dX4_isSet_6 : decode cX4_isSet 6 = .ok (.bipush 15, 2) := by decide +kernel
theorem dX4_isSet_8 : decode cX4_isSet 8 = .ok (.if_icmp .gt 7, 3) := by decide +kernel
theorem dX4_isSet_11 : decode cX4_isSet 11 = .ok (.iconst 1, 1) := by decide +kernel
theorem dX4_isSet_12 : decode cX4_isSet 12 = .ok (.goto 4, 3) := by decide +kernel
theorem dX4_isSet_15 : decode cX4_isSet 15 = .ok (.iconst 0, 1) := by decide +kernel
theorem dX4_isSet_16 : decode cX4_isSet 16 = .ok (.ireturn, 1) := by decide +kernel
theorem dX4_isIn_0 : decode cX4_isIn 0 = .ok (.iload_n 2, 1) := by decide +kernel
theorem dX4_isIn_1 : decode cX4_isIn 1 = .ok (.ifCond .lt 23, 3) := by decide +kernel
theorem dX4_isIn_4 : decode cX4_isIn 4 = .ok (.iload_n 2, 1) := by decide +kernel
theorem dX4_isIn_5 : decode cX4_isIn 5 = .ok (.bipush 60, 2) := by decide +kernel
theorem dX4_isIn_7 : decode cX4_isIn 7 = .ok (.if_icmp .ge 17, 3) := by decide +kernel
theorem dX4_isIn_10 : decode cX4_isIn 10 = .ok (.lload_n 0, 1) := by decide +kernel
theorem dX4_isIn_11 : decode cX4_isIn 11 = .ok (.iload_n 2, 1) := by decide +kernel
theorem dX4_isIn_12 : decode cX4_isIn 12 = .ok (.lushr, 1) := by decide +kernel
theorem dX4_isIn_13 : decode cX4_isIn 13 = .ok (.lconst 1, 1) := by decide +kernel
theorem dX4_isIn_14 : decode cX4_isIn 14 = .ok (.land, 1) := by decide +kernel
theorem dX4_isIn_15 : decode cX4_isIn 15 = .ok (.lconst 0, 1) := by decide +kernel
theorem dX4_isIn_16 : decode cX4_isIn 16 = .ok (.lcmp, 1) := by decide +kernel
theorem dX4_isIn_17 : decode cX4_isIn 17 = .ok (.ifCond .eq 7, 3) := by decide +kernel
theorem dX4_isIn_20 : decode cX4_isIn 20 = .ok (.iconst 1, 1) := by decide +kernel
theorem dX4_isIn_21 : decode cX4_isIn 21 = .ok (.goto 4, 3) := by decide +kernel
theorem dX4_isIn_24 : decode cX4_isIn 24 = .ok (.iconst 0, 1) := by decide +kernel
theorem dX4_isIn_25 : decode cX4_isIn 25 = .ok (.ireturn, 1) := by decide +kernel
theorem dX4_isChosen_0 : decode cX4_isChosen 0 = .ok (.iload_n 0, 1) := by decide +kernel
theorem dX4_isChosen_1 : decode cX4_isChosen 1 = .ok (.iload_n 1, 1) := by decide +kernel
theorem dX4_isChosen_2 : decode cX4_isChosen 2 = .ok (.iushr, 1) := by decide +kernel
theorem dX4_isChosen_3 : decode cX4_isChosen 3 = .ok (.iconst 1, 1) := by decide +kernel
theorem dX4_isChosen_4 : decode cX4_isChosen 4 = .ok (.iand, 1) := by decide +kernel
theorem dX4_isChosen_5 : decode cX4_isChosen 5 = .ok (.ifCond .eq 7, 3) := by decide +kernel
theorem dX4_isChosen_8 : decode cX4_isChosen 8 = .ok (.iconst 1, 1) := by decide +kernel
theorem dX4_isChosen_9 : decode cX4_isChosen 9 = .ok (.goto 4, 3) := by decide +kernel
theorem dX4_isChosen_12 : decode cX4_isChosen 12 = .ok (.iconst 0, 1) := by decide +kernel
theorem dX4_isChosen_13 : decode cX4_isChosen 13 = .ok (.ireturn, 1) := by decide +kernel
theorem dX0_isUp_0 : decode cX0_isUp 0 = .ok (.aload_n 0, 1) := by decide +kernel
theorem dX0_isUp_1 : decode cX0_isUp 1 = .ok (.getfield 30, 3) := by decide +kernel
theorem dX0_isUp_4 : decode cX0_isUp 4 = .ok (.ireturn, 1) := by decide +kernel
theorem dX0_armWith_0 : decode cX0_armWith 0 = .ok (.aload_n 0, 1) := by decide +kernel
theorem dX0_armWith_1 : decode cX0_armWith 1 = .ok (.iload_n 1, 1) := by decide +kernel
theorem dX0_armWith_2 : decode cX0_armWith 2 = .ok (.putfield 33, 3) := by decide +kernel
theorem dX0_armWith_5 : decode cX0_armWith 5 = .ok (.return_, 1) := by decide +kernel
theorem dX0_write_0 : decode cX0_write 0 = .ok (.aload_n 0, 1) := by decide +kernel
theorem dX0_write_1 : decode cX0_write 1 = .ok (.getfield 33, 3) := by decide +kernel
theorem dX0_write_4 : decode cX0_write 4 = .ok (.ifCond .ne 15, 3) := by decide +kernel
theorem dX0_write_7 : decode cX0_write 7 = .ok (.aload_n 0, 1) := by decide +kernel
theorem dX0_write_8 : decode cX0_write 8 = .ok (.iconst 0, 1) := by decide +kernel
theorem dX0_write_9 : decode cX0_write 9 = .ok (.putfield 30, 3) := by decide +kernel
theorem dX0_write_12 : decode cX0_write 12 = .ok (.aload_n 0, 1) := by decide +kernel
theorem dX0_write_13 : decode cX0_write 13 = .ok (.iconst (-1), 1) := by decide +kernel
theorem dX0_write_14 : decode cX0_write 14 = .ok (.putfield 33, 3) := by decide +kernel
theorem dX0_write_17 : decode cX0_write 17 = .ok (.iconst 0, 1) := by decide +kernel
theorem dX0_write_18 : decode cX0_write 18 = .ok (.ireturn, 1) := by decide +kernel
theorem dX0_write_19 : decode cX0_write 19 = .ok (.aload_n 0, 1) := by decide +kernel
theorem dX0_write_20 : decode cX0_write 20 = .ok (.getfield 33, 3) := by decide +kernel
theorem dX0_write_23 : decode cX0_write 23 = .ok (.ifCond .le 13, 3) := by decide +kernel
theorem dX0_write_26 : decode cX0_write 26 = .ok (.aload_n 0, 1) := by decide +kernel
theorem dX0_write_27 : decode cX0_write 27 = .ok (.dup, 1) := by decide +kernel
theorem dX0_write_28 : decode cX0_write 28 = .ok (.getfield 33, 3) := by decide +kernel
theorem dX0_write_31 : decode cX0_write 31 = .ok (.iconst 1, 1) := by decide +kernel
theorem dX0_write_32 : decode cX0_write 32 = .ok (.isub, 1) := by decide +kernel
theorem dX0_write_33 : decode cX0_write 33 = .ok (.putfield 33, 3) := by decide +kernel
theorem dX0_write_36 : decode cX0_write 36 = .ok (.iconst 1, 1) := by decide +kernel
theorem dX0_write_37 : decode cX0_write 37 = .ok (.ireturn, 1) := by decide +kernel
theorem dX0_heldSet_0 : decode cX0_heldSet 0 = .ok (.aload_n 0, 1) := by decide +kernel
theorem dX0_heldSet_1 : decode cX0_heldSet 1 = .ok (.getfield 26, 3) := by decide +kernel
theorem dX0_heldSet_4 : decode cX0_heldSet 4 = .ok (.lreturn, 1) := by decide +kernel
theorem dX0_keep_0 : decode cX0_keep 0 = .ok (.iload_n 1, 1) := by decide +kernel
theorem dX0_keep_1 : decode cX0_keep 1 = .ok (.ifCond .lt 21, 3) := by decide +kernel
theorem dX0_keep_4 : decode cX0_keep 4 = .ok (.iload_n 1, 1) := by decide +kernel
theorem dX0_keep_5 : decode cX0_keep 5 = .ok (.bipush 60, 2) := by decide +kernel
theorem dX0_keep_7 : decode cX0_keep 7 = .ok (.if_icmp .ge 15, 3) := by decide +kernel
theorem dX0_keep_10 : decode cX0_keep 10 = .ok (.aload_n 0, 1) := by decide +kernel
theorem dX0_keep_11 : decode cX0_keep 11 = .ok (.dup, 1) := by decide +kernel
theorem dX0_keep_12 : decode cX0_keep 12 = .ok (.getfield 26, 3) := by decide +kernel
theorem dX0_keep_15 : decode cX0_keep 15 = .ok (.lconst 1, 1) := by decide +kernel
theorem dX0_keep_16 : decode cX0_keep 16 = .ok (.iload_n 1, 1) := by decide +kernel
theorem dX0_keep_17 : decode cX0_keep 17 = .ok (.lshl, 1) := by decide +kernel
theorem dX0_keep_18 : decode cX0_keep 18 = .ok (.lor, 1) := by decide +kernel
theorem dX0_keep_19 : decode cX0_keep 19 = .ok (.putfield 26, 3) := by decide +kernel
theorem dX0_keep_22 : decode cX0_keep 22 = .ok (.return_, 1) := by decide +kernel
theorem dJL_bitCount_0 : decode cJL_bitCount 0 = .ok (.lload_n 0, 1) := by decide +kernel
theorem dJL_bitCount_1 : decode cJL_bitCount 1 = .ok (.lload_n 0, 1) := by decide +kernel
theorem dJL_bitCount_2 : decode cJL_bitCount 2 = .ok (.iconst 1, 1) := by decide +kernel
theorem dJL_bitCount_3 : decode cJL_bitCount 3 = .ok (.lushr, 1) := by decide +kernel
theorem dJL_bitCount_4 : decode cJL_bitCount 4 = .ok (.ldc2_w 314, 3) := by decide +kernel
theorem dJL_bitCount_7 : decode cJL_bitCount 7 = .ok (.land, 1) := by decide +kernel
theorem dJL_bitCount_8 : decode cJL_bitCount 8 = .ok (.lsub, 1) := by decide +kernel
theorem dJL_bitCount_9 : decode cJL_bitCount 9 = .ok (.lstore_n 0, 1) := by decide +kernel
theorem dJL_bitCount_10 : decode cJL_bitCount 10 = .ok (.lload_n 0, 1) := by decide +kernel
theorem dJL_bitCount_11 : decode cJL_bitCount 11 = .ok (.ldc2_w 316, 3) := by decide +kernel
theorem dJL_bitCount_14 : decode cJL_bitCount 14 = .ok (.land, 1) := by decide +kernel
theorem dJL_bitCount_15 : decode cJL_bitCount 15 = .ok (.lload_n 0, 1) := by decide +kernel
theorem dJL_bitCount_16 : decode cJL_bitCount 16 = .ok (.iconst 2, 1) := by decide +kernel
theorem dJL_bitCount_17 : decode cJL_bitCount 17 = .ok (.lushr, 1) := by decide +kernel
theorem dJL_bitCount_18 : decode cJL_bitCount 18 = .ok (.ldc2_w 316, 3) := by decide +kernel
theorem dJL_bitCount_21 : decode cJL_bitCount 21 = .ok (.land, 1) := by decide +kernel
theorem dJL_bitCount_22 : decode cJL_bitCount 22 = .ok (.ladd, 1) := by decide +kernel
theorem dJL_bitCount_23 : decode cJL_bitCount 23 = .ok (.lstore_n 0, 1) := by decide +kernel
theorem dJL_bitCount_24 : decode cJL_bitCount 24 = .ok (.lload_n 0, 1) := by decide +kernel
theorem dJL_bitCount_25 : decode cJL_bitCount 25 = .ok (.lload_n 0, 1) := by decide +kernel
theorem dJL_bitCount_26 : decode cJL_bitCount 26 = .ok (.iconst 4, 1) := by decide +kernel
theorem dJL_bitCount_27 : decode cJL_bitCount 27 = .ok (.lushr, 1) := by decide +kernel
theorem dJL_bitCount_28 : decode cJL_bitCount 28 = .ok (.ladd, 1) := by decide +kernel
theorem dJL_bitCount_29 : decode cJL_bitCount 29 = .ok (.ldc2_w 318, 3) := by decide +kernel
theorem dJL_bitCount_32 : decode cJL_bitCount 32 = .ok (.land, 1) := by decide +kernel
theorem dJL_bitCount_33 : decode cJL_bitCount 33 = .ok (.lstore_n 0, 1) := by decide +kernel
theorem dJL_bitCount_34 : decode cJL_bitCount 34 = .ok (.lload_n 0, 1) := by decide +kernel
theorem dJL_bitCount_35 : decode cJL_bitCount 35 = .ok (.lload_n 0, 1) := by decide +kernel
theorem dJL_bitCount_36 : decode cJL_bitCount 36 = .ok (.bipush 8, 2) := by decide +kernel
theorem dJL_bitCount_38 : decode cJL_bitCount 38 = .ok (.lushr, 1) := by decide +kernel
theorem dJL_bitCount_39 : decode cJL_bitCount 39 = .ok (.ladd, 1) := by decide +kernel
theorem dJL_bitCount_40 : decode cJL_bitCount 40 = .ok (.lstore_n 0, 1) := by decide +kernel
theorem dJL_bitCount_41 : decode cJL_bitCount 41 = .ok (.lload_n 0, 1) := by decide +kernel
theorem dJL_bitCount_42 : decode cJL_bitCount 42 = .ok (.lload_n 0, 1) := by decide +kernel
theorem dJL_bitCount_43 : decode cJL_bitCount 43 = .ok (.bipush 16, 2) := by decide +kernel
theorem dJL_bitCount_45 : decode cJL_bitCount 45 = .ok (.lushr, 1) := by decide +kernel
theorem dJL_bitCount_46 : decode cJL_bitCount 46 = .ok (.ladd, 1) := by decide +kernel
theorem dJL_bitCount_47 : decode cJL_bitCount 47 = .ok (.lstore_n 0, 1) := by decide +kernel
theorem dJL_bitCount_48 : decode cJL_bitCount 48 = .ok (.lload_n 0, 1) := by decide +kernel
theorem dJL_bitCount_49 : decode cJL_bitCount 49 = .ok (.lload_n 0, 1) := by decide +kernel
theorem dJL_bitCount_50 : decode cJL_bitCount 50 = .ok (.bipush 32, 2) := by decide +kernel
theorem dJL_bitCount_52 : decode cJL_bitCount 52 = .ok (.lushr, 1) := by decide +kernel
theorem dJL_bitCount_53 : decode cJL_bitCount 53 = .ok (.ladd, 1) := by decide +kernel
theorem dJL_bitCount_54 : decode cJL_bitCount 54 = .ok (.lstore_n 0, 1) := by decide +kernel
theorem dJL_bitCount_55 : decode cJL_bitCount 55 = .ok (.lload_n 0, 1) := by decide +kernel
theorem dJL_bitCount_56 : decode cJL_bitCount 56 = .ok (.l2i, 1) := by decide +kernel
theorem dJL_bitCount_57 : decode cJL_bitCount 57 = .ok (.bipush 127, 2) := by decide +kernel
theorem dJL_bitCount_59 : decode cJL_bitCount 59 = .ok (.iand, 1) := by decide +kernel
theorem dJL_bitCount_60 : decode cJL_bitCount 60 = .ok (.ireturn, 1) := by decide +kernel
theorem dX0_keepOnly_0 : decode cX0_keepOnly 0 = .ok (.aload_n 0, 1) := by decide +kernel
theorem dX0_keepOnly_1 : decode cX0_keepOnly 1 = .ok (.getfield 26, 3) := by decide +kernel
theorem dX0_keepOnly_4 : decode cX0_keepOnly 4 = .ok (.invokestatic 36, 3) := by decide +kernel
theorem dX0_keepOnly_7 : decode cX0_keepOnly 7 = .ok (.istore_n 3, 1) := by decide +kernel
theorem dX0_keepOnly_8 : decode cX0_keepOnly 8 = .ok (.aload_n 0, 1) := by decide +kernel
theorem dX0_keepOnly_9 : decode cX0_keepOnly 9 = .ok (.dup, 1) := by decide +kernel
theorem dX0_keepOnly_10 : decode cX0_keepOnly 10 = .ok (.getfield 26, 3) := by decide +kernel
theorem dX0_keepOnly_13 : decode cX0_keepOnly 13 = .ok (.lload_n 1, 1) := by decide +kernel
theorem dX0_keepOnly_14 : decode cX0_keepOnly 14 = .ok (.land, 1) := by decide +kernel
theorem dX0_keepOnly_15 : decode cX0_keepOnly 15 = .ok (.putfield 26, 3) := by decide +kernel
theorem dX0_keepOnly_18 : decode cX0_keepOnly 18 = .ok (.iload_n 3, 1) := by decide +kernel
theorem dX0_keepOnly_19 : decode cX0_keepOnly 19 = .ok (.aload_n 0, 1) := by decide +kernel
theorem dX0_keepOnly_20 : decode cX0_keepOnly 20 = .ok (.getfield 26, 3) := by decide +kernel
theorem dX0_keepOnly_23 : decode cX0_keepOnly 23 = .ok (.invokestatic 36, 3) := by decide +kernel
theorem dX0_keepOnly_26 : decode cX0_keepOnly 26 = .ok (.isub, 1) := by decide +kernel
theorem dX0_keepOnly_27 : decode cX0_keepOnly 27 = .ok (.ireturn, 1) := by decide +kernel
theorem dX0_valueOf_0 : decode cX0_valueOf 0 = .ok (.iload_n 1, 1) := by decide +kernel
theorem dX0_valueOf_1 : decode cX0_valueOf 1 = .ok (.ifCond .lt 18, 3) := by decide +kernel
theorem dX0_valueOf_4 : decode cX0_valueOf 4 = .ok (.iload_n 1, 1) := by decide +kernel
theorem dX0_valueOf_5 : decode cX0_valueOf 5 = .ok (.bipush 8, 2) := by decide +kernel
theorem dX0_valueOf_7 : decode cX0_valueOf 7 = .ok (.if_icmp .ge 12, 3) := by decide +kernel
theorem dX0_valueOf_10 : decode cX0_valueOf 10 = .ok (.aload_n 0, 1) := by decide +kernel
theorem dX0_valueOf_11 : decode cX0_valueOf 11 = .ok (.getfield 9, 3) := by decide +kernel
theorem dX0_valueOf_14 : decode cX0_valueOf 14 = .ok (.iload_n 1, 1) := by decide +kernel
theorem dX0_valueOf_15 : decode cX0_valueOf 15 = .ok (.iaload, 1) := by decide +kernel
theorem dX0_valueOf_16 : decode cX0_valueOf 16 = .ok (.goto 4, 3) := by decide +kernel
theorem dX0_valueOf_19 : decode cX0_valueOf 19 = .ok (.iconst (-1), 1) := by decide +kernel
theorem dX0_valueOf_20 : decode cX0_valueOf 20 = .ok (.ireturn, 1) := by decide +kernel
theorem dX0_writeMissing_0 : decode cX0_writeMissing 0 = .ok (.lload_n 1, 1) := by decide +kernel
theorem dX0_writeMissing_1 : decode cX0_writeMissing 1 = .ok (.aload_n 0, 1) := by decide +kernel
theorem dX0_writeMissing_2 : decode cX0_writeMissing 2 = .ok (.getfield 26, 3) := by decide +kernel
theorem dX0_writeMissing_5 : decode cX0_writeMissing 5 = .ok (.ldc2_w 42, 3) := by decide +kernel
theorem dX0_writeMissing_8 : decode cX0_writeMissing 8 = .ok (.lxor, 1) := by decide +kernel
theorem dX0_writeMissing_9 : decode cX0_writeMissing 9 = .ok (.land, 1) := by decide +kernel
theorem dX0_writeMissing_10 : decode cX0_writeMissing 10 = .ok (.lstore_n 3, 1) := by decide +kernel
theorem dX0_writeMissing_11 : decode cX0_writeMissing 11 = .ok (.iconst 0, 1) := by decide +kernel
theorem dX0_writeMissing_12 : decode cX0_writeMissing 12 = .ok (.istore 5, 2) := by decide +kernel
theorem dX0_writeMissing_14 : decode cX0_writeMissing 14 = .ok (.iload 5, 2) := by decide +kernel
theorem dX0_writeMissing_16 : decode cX0_writeMissing 16 = .ok (.bipush 60, 2) := by decide +kernel
theorem dX0_writeMissing_18 : decode cX0_writeMissing 18 = .ok (.if_icmp .ge 33, 3) := by decide +kernel
theorem dX0_writeMissing_21 : decode cX0_writeMissing 21 = .ok (.lload_n 3, 1) := by decide +kernel
theorem dX0_writeMissing_22 : decode cX0_writeMissing 22 = .ok (.iload 5, 2) := by decide +kernel
theorem dX0_writeMissing_24 : decode cX0_writeMissing 24 = .ok (.invokestatic 44, 3) := by decide +kernel
theorem dX0_writeMissing_27 : decode cX0_writeMissing 27 = .ok (.ifCond .eq 18, 3) := by decide +kernel
theorem dX0_writeMissing_30 : decode cX0_writeMissing 30 = .ok (.aload_n 0, 1) := by decide +kernel
theorem dX0_writeMissing_31 : decode cX0_writeMissing 31 = .ok (.invokevirtual 48, 3) := by decide +kernel
theorem dX0_writeMissing_34 : decode cX0_writeMissing 34 = .ok (.ifCond .ne 5, 3) := by decide +kernel
theorem dX0_writeMissing_37 : decode cX0_writeMissing 37 = .ok (.iconst 0, 1) := by decide +kernel
theorem dX0_writeMissing_38 : decode cX0_writeMissing 38 = .ok (.ireturn, 1) := by decide +kernel
theorem dX0_writeMissing_39 : decode cX0_writeMissing 39 = .ok (.aload_n 0, 1) := by decide +kernel
theorem dX0_writeMissing_40 : decode cX0_writeMissing 40 = .ok (.iload 5, 2) := by decide +kernel
theorem dX0_writeMissing_42 : decode cX0_writeMissing 42 = .ok (.invokevirtual 52, 3) := by decide +kernel
theorem dX0_writeMissing_45 : decode cX0_writeMissing 45 = .ok (.iinc 5 1, 3) := by decide +kernel
theorem dX0_writeMissing_48 : decode cX0_writeMissing 48 = .ok (.goto (-34), 3) := by decide +kernel
theorem dX0_writeMissing_51 : decode cX0_writeMissing 51 = .ok (.iconst 1, 1) := by decide +kernel
theorem dX0_writeMissing_52 : decode cX0_writeMissing 52 = .ok (.ireturn, 1) := by decide +kernel
theorem dX0_hasValues_0 : decode cX0_hasValues 0 = .ok (.iconst 0, 1) := by decide +kernel
theorem dX0_hasValues_1 : decode cX0_hasValues 1 = .ok (.istore_n 2, 1) := by decide +kernel
theorem dX0_hasValues_2 : decode cX0_hasValues 2 = .ok (.iload_n 2, 1) := by decide +kernel
theorem dX0_hasValues_3 : decode cX0_hasValues 3 = .ok (.bipush 8, 2) := by decide +kernel
theorem dX0_hasValues_5 : decode cX0_hasValues 5 = .ok (.if_icmp .ge 29, 3) := by decide +kernel
theorem dX0_hasValues_8 : decode cX0_hasValues 8 = .ok (.iload_n 1, 1) := by decide +kernel
theorem dX0_hasValues_9 : decode cX0_hasValues 9 = .ok (.iload_n 2, 1) := by decide +kernel
theorem dX0_hasValues_10 : decode cX0_hasValues 10 = .ok (.invokestatic 56, 3) := by decide +kernel
theorem dX0_hasValues_13 : decode cX0_hasValues 13 = .ok (.ifCond .eq 15, 3) := by decide +kernel
theorem dX0_hasValues_16 : decode cX0_hasValues 16 = .ok (.aload_n 0, 1) := by decide +kernel
theorem dX0_hasValues_17 : decode cX0_hasValues 17 = .ok (.getfield 9, 3) := by decide +kernel
theorem dX0_hasValues_20 : decode cX0_hasValues 20 = .ok (.iload_n 2, 1) := by decide +kernel
theorem dX0_hasValues_21 : decode cX0_hasValues 21 = .ok (.iaload, 1) := by decide +kernel
theorem dX0_hasValues_22 : decode cX0_hasValues 22 = .ok (.iconst (-1), 1) := by decide +kernel
theorem dX0_hasValues_23 : decode cX0_hasValues 23 = .ok (.if_icmp .ne 5, 3) := by decide +kernel
theorem dX0_hasValues_26 : decode cX0_hasValues 26 = .ok (.iconst 0, 1) := by decide +kernel
theorem dX0_hasValues_27 : decode cX0_hasValues 27 = .ok (.ireturn, 1) := by decide +kernel
theorem dX0_hasValues_28 : decode cX0_hasValues 28 = .ok (.iinc 2 1, 3) := by decide +kernel
theorem dX0_hasValues_31 : decode cX0_hasValues 31 = .ok (.goto (-29), 3) := by decide +kernel
theorem dX0_hasValues_34 : decode cX0_hasValues 34 = .ok (.iconst 1, 1) := by decide +kernel
theorem dX0_hasValues_35 : decode cX0_hasValues 35 = .ok (.ireturn, 1) := by decide +kernel
theorem dX0_commitsOf_0 : decode cX0_commitsOf 0 = .ok (.lconst 0, 1) := by decide +kernel
theorem dX0_commitsOf_1 : decode cX0_commitsOf 1 = .ok (.lstore_n 2, 1) := by decide +kernel
theorem dX0_commitsOf_2 : decode cX0_commitsOf 2 = .ok (.iconst 0, 1) := by decide +kernel
theorem dX0_commitsOf_3 : decode cX0_commitsOf 3 = .ok (.istore 4, 2) := by decide +kernel
theorem dX0_commitsOf_5 : decode cX0_commitsOf 5 = .ok (.iload 4, 2) := by decide +kernel
theorem dX0_commitsOf_7 : decode cX0_commitsOf 7 = .ok (.bipush 8, 2) := by decide +kernel
theorem dX0_commitsOf_9 : decode cX0_commitsOf 9 = .ok (.if_icmp .ge 41, 3) := by decide +kernel
theorem dX0_commitsOf_12 : decode cX0_commitsOf 12 = .ok (.iload_n 1, 1) := by decide +kernel
theorem dX0_commitsOf_13 : decode cX0_commitsOf 13 = .ok (.iload 4, 2) := by decide +kernel
theorem dX0_commitsOf_15 : decode cX0_commitsOf 15 = .ok (.invokestatic 56, 3) := by decide +kernel
theorem dX0_commitsOf_18 : decode cX0_commitsOf 18 = .ok (.ifCond .eq 26, 3) := by decide +kernel
theorem dX0_commitsOf_21 : decode cX0_commitsOf 21 = .ok (.aload_n 0, 1) := by decide +kernel
theorem dX0_commitsOf_22 : decode cX0_commitsOf 22 = .ok (.getfield 9, 3) := by decide +kernel
theorem dX0_commitsOf_25 : decode cX0_commitsOf 25 = .ok (.iload 4, 2) := by decide +kernel
theorem dX0_commitsOf_27 : decode cX0_commitsOf 27 = .ok (.iaload, 1) := by decide +kernel
theorem dX0_commitsOf_28 : decode cX0_commitsOf 28 = .ok (.iconst (-1), 1) := by decide +kernel
theorem dX0_commitsOf_29 : decode cX0_commitsOf 29 = .ok (.if_icmp .eq 15, 3) := by decide +kernel
theorem dX0_commitsOf_32 : decode cX0_commitsOf 32 = .ok (.lload_n 2, 1) := by decide +kernel
theorem dX0_commitsOf_33 : decode cX0_commitsOf 33 = .ok (.lconst 1, 1) := by decide +kernel
theorem dX0_commitsOf_34 : decode cX0_commitsOf 34 = .ok (.aload_n 0, 1) := by decide +kernel
theorem dX0_commitsOf_35 : decode cX0_commitsOf 35 = .ok (.getfield 9, 3) := by decide +kernel
theorem dX0_commitsOf_38 : decode cX0_commitsOf 38 = .ok (.iload 4, 2) := by decide +kernel
theorem dX0_commitsOf_40 : decode cX0_commitsOf 40 = .ok (.iaload, 1) := by decide +kernel
theorem dX0_commitsOf_41 : decode cX0_commitsOf 41 = .ok (.lshl, 1) := by decide +kernel
theorem dX0_commitsOf_42 : decode cX0_commitsOf 42 = .ok (.lor, 1) := by decide +kernel
theorem dX0_commitsOf_43 : decode cX0_commitsOf 43 = .ok (.lstore_n 2, 1) := by decide +kernel
theorem dX0_commitsOf_44 : decode cX0_commitsOf 44 = .ok (.iinc 4 1, 3) := by decide +kernel
theorem dX0_commitsOf_47 : decode cX0_commitsOf 47 = .ok (.goto (-42), 3) := by decide +kernel
theorem dX0_commitsOf_50 : decode cX0_commitsOf 50 = .ok (.lload_n 2, 1) := by decide +kernel
theorem dX0_commitsOf_51 : decode cX0_commitsOf 51 = .ok (.lreturn, 1) := by decide +kernel
theorem dX0_emptyLog_0 : decode cX0_emptyLog 0 = .ok (.aload_n 0, 1) := by decide +kernel
theorem dX0_emptyLog_1 : decode cX0_emptyLog 1 = .ok (.invokevirtual 48, 3) := by decide +kernel
theorem dX0_emptyLog_4 : decode cX0_emptyLog 4 = .ok (.ifCond .ne 5, 3) := by decide +kernel
theorem dX0_emptyLog_7 : decode cX0_emptyLog 7 = .ok (.iconst 0, 1) := by decide +kernel
theorem dX0_emptyLog_8 : decode cX0_emptyLog 8 = .ok (.ireturn, 1) := by decide +kernel
theorem dX0_emptyLog_9 : decode cX0_emptyLog 9 = .ok (.iconst 0, 1) := by decide +kernel
theorem dX0_emptyLog_10 : decode cX0_emptyLog 10 = .ok (.istore_n 1, 1) := by decide +kernel
theorem dX0_emptyLog_11 : decode cX0_emptyLog 11 = .ok (.iload_n 1, 1) := by decide +kernel
theorem dX0_emptyLog_12 : decode cX0_emptyLog 12 = .ok (.bipush 8, 2) := by decide +kernel
theorem dX0_emptyLog_14 : decode cX0_emptyLog 14 = .ok (.if_icmp .ge 17, 3) := by decide +kernel
theorem dX0_emptyLog_17 : decode cX0_emptyLog 17 = .ok (.aload_n 0, 1) := by decide +kernel
theorem dX0_emptyLog_18 : decode cX0_emptyLog 18 = .ok (.getfield 15, 3) := by decide +kernel
theorem dX0_emptyLog_21 : decode cX0_emptyLog 21 = .ok (.iload_n 1, 1) := by decide +kernel
theorem dX0_emptyLog_22 : decode cX0_emptyLog 22 = .ok (.bipush (-2), 2) := by decide +kernel
theorem dX0_emptyLog_24 : decode cX0_emptyLog 24 = .ok (.iastore, 1) := by decide +kernel
theorem dX0_emptyLog_25 : decode cX0_emptyLog 25 = .ok (.iinc 1 1, 3) := by decide +kernel
theorem dX0_emptyLog_28 : decode cX0_emptyLog 28 = .ok (.goto (-17), 3) := by decide +kernel
theorem dX0_emptyLog_31 : decode cX0_emptyLog 31 = .ok (.aload_n 0, 1) := by decide +kernel
theorem dX0_emptyLog_32 : decode cX0_emptyLog 32 = .ok (.iconst 0, 1) := by decide +kernel
theorem dX0_emptyLog_33 : decode cX0_emptyLog 33 = .ok (.putfield 18, 3) := by decide +kernel
theorem dX0_emptyLog_36 : decode cX0_emptyLog 36 = .ok (.aload_n 0, 1) := by decide +kernel
theorem dX0_emptyLog_37 : decode cX0_emptyLog 37 = .ok (.iconst 0, 1) := by decide +kernel
theorem dX0_emptyLog_38 : decode cX0_emptyLog 38 = .ok (.putfield 22, 3) := by decide +kernel
theorem dX0_emptyLog_41 : decode cX0_emptyLog 41 = .ok (.iconst 1, 1) := by decide +kernel
theorem dX0_emptyLog_42 : decode cX0_emptyLog 42 = .ok (.ireturn, 1) := by decide +kernel
theorem dX0_carryOutLog_0 : decode cX0_carryOutLog 0 = .ok (.iconst 0, 1) := by decide +kernel
theorem dX0_carryOutLog_1 : decode cX0_carryOutLog 1 = .ok (.istore_n 1, 1) := by decide +kernel
theorem dX0_carryOutLog_2 : decode cX0_carryOutLog 2 = .ok (.iload_n 1, 1) := by decide +kernel
theorem dX0_carryOutLog_3 : decode cX0_carryOutLog 3 = .ok (.bipush 8, 2) := by decide +kernel
theorem dX0_carryOutLog_5 : decode cX0_carryOutLog 5 = .ok (.if_icmp .ge 41, 3) := by decide +kernel
theorem dX0_carryOutLog_8 : decode cX0_carryOutLog 8 = .ok (.aload_n 0, 1) := by decide +kernel
theorem dX0_carryOutLog_9 : decode cX0_carryOutLog 9 = .ok (.getfield 15, 3) := by decide +kernel
theorem dX0_carryOutLog_12 : decode cX0_carryOutLog 12 = .ok (.iload_n 1, 1) := by decide +kernel
theorem dX0_carryOutLog_13 : decode cX0_carryOutLog 13 = .ok (.iaload, 1) := by decide +kernel
theorem dX0_carryOutLog_14 : decode cX0_carryOutLog 14 = .ok (.bipush (-2), 2) := by decide +kernel
theorem dX0_carryOutLog_16 : decode cX0_carryOutLog 16 = .ok (.if_icmp .eq 24, 3) := by decide +kernel
theorem dX0_carryOutLog_19 : decode cX0_carryOutLog 19 = .ok (.aload_n 0, 1) := by decide +kernel
theorem dX0_carryOutLog_20 : decode cX0_carryOutLog 20 = .ok (.invokevirtual 48, 3) := by decide +kernel
theorem dX0_carryOutLog_23 : decode cX0_carryOutLog 23 = .ok (.ifCond .ne 5, 3) := by decide +kernel
theorem dX0_carryOutLog_26 : decode cX0_carryOutLog 26 = .ok (.iconst 0, 1) := by decide +kernel
theorem dX0_carryOutLog_27 : decode cX0_carryOutLog 27 = .ok (.ireturn, 1) := by decide +kernel
theorem dX0_carryOutLog_28 : decode cX0_carryOutLog 28 = .ok (.aload_n 0, 1) := by decide +kernel
theorem dX0_carryOutLog_29 : decode cX0_carryOutLog 29 = .ok (.getfield 9, 3) := by decide +kernel
theorem dX0_carryOutLog_32 : decode cX0_carryOutLog 32 = .ok (.iload_n 1, 1) := by decide +kernel
theorem dX0_carryOutLog_33 : decode cX0_carryOutLog 33 = .ok (.aload_n 0, 1) := by decide +kernel
theorem dX0_carryOutLog_34 : decode cX0_carryOutLog 34 = .ok (.getfield 15, 3) := by decide +kernel
theorem dX0_carryOutLog_37 : decode cX0_carryOutLog 37 = .ok (.iload_n 1, 1) := by decide +kernel
theorem dX0_carryOutLog_38 : decode cX0_carryOutLog 38 = .ok (.iaload, 1) := by decide +kernel
theorem dX0_carryOutLog_39 : decode cX0_carryOutLog 39 = .ok (.iastore, 1) := by decide +kernel
theorem dX0_carryOutLog_40 : decode cX0_carryOutLog 40 = .ok (.iinc 1 1, 3) := by decide +kernel
theorem dX0_carryOutLog_43 : decode cX0_carryOutLog 43 = .ok (.goto (-41), 3) := by decide +kernel
theorem dX0_carryOutLog_46 : decode cX0_carryOutLog 46 = .ok (.aload_n 0, 1) := by decide +kernel
theorem dX0_carryOutLog_47 : decode cX0_carryOutLog 47 = .ok (.invokevirtual 63, 3) := by decide +kernel
theorem dX0_carryOutLog_50 : decode cX0_carryOutLog 50 = .ok (.ireturn, 1) := by decide +kernel
theorem dX0_transact_0 : decode cX0_transact 0 = .ok (.iconst 0, 1) := by decide +kernel
theorem dX0_transact_1 : decode cX0_transact 1 = .ok (.istore_n 2, 1) := by decide +kernel
theorem dX0_transact_2 : decode cX0_transact 2 = .ok (.iload_n 2, 1) := by decide +kernel
theorem dX0_transact_3 : decode cX0_transact 3 = .ok (.bipush 8, 2) := by decide +kernel
theorem dX0_transact_5 : decode cX0_transact 5 = .ok (.if_icmp .ge 63, 3) := by decide +kernel
theorem dX0_transact_8 : decode cX0_transact 8 = .ok (.iload_n 2, 1) := by decide +kernel
theorem dX0_transact_9 : decode cX0_transact 9 = .ok (.aload_n 1, 1) := by decide +kernel
theorem dX0_transact_10 : decode cX0_transact 10 = .ok (.arraylength, 1) := by decide +kernel
theorem dX0_transact_11 : decode cX0_transact 11 = .ok (.if_icmp .ge 57, 3) := by decide +kernel
theorem dX0_transact_14 : decode cX0_transact 14 = .ok (.aload_n 1, 1) := by decide +kernel
theorem dX0_transact_15 : decode cX0_transact 15 = .ok (.iload_n 2, 1) := by decide +kernel
theorem dX0_transact_16 : decode cX0_transact 16 = .ok (.iaload, 1) := by decide +kernel
theorem dX0_transact_17 : decode cX0_transact 17 = .ok (.bipush (-2), 2) := by decide +kernel
theorem dX0_transact_19 : decode cX0_transact 19 = .ok (.if_icmp .eq 43, 3) := by decide +kernel
theorem dX0_transact_22 : decode cX0_transact 22 = .ok (.aload_n 1, 1) := by decide +kernel
theorem dX0_transact_23 : decode cX0_transact 23 = .ok (.iload_n 2, 1) := by decide +kernel
theorem dX0_transact_24 : decode cX0_transact 24 = .ok (.iaload, 1) := by decide +kernel
theorem dX0_transact_25 : decode cX0_transact 25 = .ok (.aload_n 0, 1) := by decide +kernel
theorem dX0_transact_26 : decode cX0_transact 26 = .ok (.getfield 9, 3) := by decide +kernel
theorem dX0_transact_29 : decode cX0_transact 29 = .ok (.iload_n 2, 1) := by decide +kernel
theorem dX0_transact_30 : decode cX0_transact 30 = .ok (.iaload, 1) := by decide +kernel
theorem dX0_transact_31 : decode cX0_transact 31 = .ok (.if_icmp .eq 31, 3) := by decide +kernel
theorem dX0_transact_34 : decode cX0_transact 34 = .ok (.aload_n 0, 1) := by decide +kernel
theorem dX0_transact_35 : decode cX0_transact 35 = .ok (.invokevirtual 48, 3) := by decide +kernel
theorem dX0_transact_38 : decode cX0_transact 38 = .ok (.ifCond .ne 5, 3) := by decide +kernel
theorem dX0_transact_41 : decode cX0_transact 41 = .ok (.iconst 0, 1) := by decide +kernel
theorem dX0_transact_42 : decode cX0_transact 42 = .ok (.ireturn, 1) := by decide +kernel
theorem dX0_transact_43 : decode cX0_transact 43 = .ok (.aload_n 0, 1) := by decide +kernel
theorem dX0_transact_44 : decode cX0_transact 44 = .ok (.getfield 15, 3) := by decide +kernel
theorem dX0_transact_47 : decode cX0_transact 47 = .ok (.iload_n 2, 1) := by decide +kernel
theorem dX0_transact_48 : decode cX0_transact 48 = .ok (.aload_n 1, 1) := by decide +kernel
theorem dX0_transact_49 : decode cX0_transact 49 = .ok (.iload_n 2, 1) := by decide +kernel
theorem dX0_transact_50 : decode cX0_transact 50 = .ok (.iaload, 1) := by decide +kernel
theorem dX0_transact_51 : decode cX0_transact 51 = .ok (.iastore, 1) := by decide +kernel
theorem dX0_transact_52 : decode cX0_transact 52 = .ok (.aload_n 0, 1) := by decide +kernel
theorem dX0_transact_53 : decode cX0_transact 53 = .ok (.dup, 1) := by decide +kernel
theorem dX0_transact_54 : decode cX0_transact 54 = .ok (.getfield 18, 3) := by decide +kernel
theorem dX0_transact_57 : decode cX0_transact 57 = .ok (.iconst 1, 1) := by decide +kernel
theorem dX0_transact_58 : decode cX0_transact 58 = .ok (.iadd, 1) := by decide +kernel
theorem dX0_transact_59 : decode cX0_transact 59 = .ok (.putfield 18, 3) := by decide +kernel
theorem dX0_transact_62 : decode cX0_transact 62 = .ok (.iinc 2 1, 3) := by decide +kernel
theorem dX0_transact_65 : decode cX0_transact 65 = .ok (.goto (-63), 3) := by decide +kernel
theorem dX0_transact_68 : decode cX0_transact 68 = .ok (.aload_n 0, 1) := by decide +kernel
theorem dX0_transact_69 : decode cX0_transact 69 = .ok (.getfield 18, 3) := by decide +kernel
theorem dX0_transact_72 : decode cX0_transact 72 = .ok (.ifCond .ne 5, 3) := by decide +kernel
theorem dX0_transact_75 : decode cX0_transact 75 = .ok (.iconst 1, 1) := by decide +kernel
theorem dX0_transact_76 : decode cX0_transact 76 = .ok (.ireturn, 1) := by decide +kernel
theorem dX0_transact_77 : decode cX0_transact 77 = .ok (.aload_n 0, 1) := by decide +kernel
theorem dX0_transact_78 : decode cX0_transact 78 = .ok (.invokevirtual 48, 3) := by decide +kernel
theorem dX0_transact_81 : decode cX0_transact 81 = .ok (.ifCond .ne 5, 3) := by decide +kernel
theorem dX0_transact_84 : decode cX0_transact 84 = .ok (.iconst 0, 1) := by decide +kernel
theorem dX0_transact_85 : decode cX0_transact 85 = .ok (.ireturn, 1) := by decide +kernel
theorem dX0_transact_86 : decode cX0_transact 86 = .ok (.aload_n 0, 1) := by decide +kernel
theorem dX0_transact_87 : decode cX0_transact 87 = .ok (.iconst 1, 1) := by decide +kernel
theorem dX0_transact_88 : decode cX0_transact 88 = .ok (.putfield 22, 3) := by decide +kernel
theorem dX0_transact_91 : decode cX0_transact 91 = .ok (.aload_n 0, 1) := by decide +kernel
theorem dX0_transact_92 : decode cX0_transact 92 = .ok (.invokevirtual 60, 3) := by decide +kernel
theorem dX0_transact_95 : decode cX0_transact 95 = .ok (.ireturn, 1) := by decide +kernel
theorem dX0_restore_0 : decode cX0_restore 0 = .ok (.aload_n 0, 1) := by decide +kernel
theorem dX0_restore_1 : decode cX0_restore 1 = .ok (.getfield 22, 3) := by decide +kernel
theorem dX0_restore_4 : decode cX0_restore 4 = .ok (.ifCond .eq 10, 3) := by decide +kernel
theorem dX0_restore_7 : decode cX0_restore 7 = .ok (.aload_n 0, 1) := by decide +kernel
theorem dX0_restore_8 : decode cX0_restore 8 = .ok (.getfield 18, 3) := by decide +kernel
theorem dX0_restore_11 : decode cX0_restore 11 = .ok (.goto 4, 3) := by decide +kernel
theorem dX0_restore_14 : decode cX0_restore 14 = .ok (.iconst 0, 1) := by decide +kernel
theorem dX0_restore_15 : decode cX0_restore 15 = .ok (.istore_n 1, 1) := by decide +kernel
theorem dX0_restore_16 : decode cX0_restore 16 = .ok (.aload_n 0, 1) := by decide +kernel
theorem dX0_restore_17 : decode cX0_restore 17 = .ok (.getfield 22, 3) := by decide +kernel
theorem dX0_restore_20 : decode cX0_restore 20 = .ok (.ifCond .eq 10, 3) := by decide +kernel
theorem dX0_restore_23 : decode cX0_restore 23 = .ok (.aload_n 0, 1) := by decide +kernel
theorem dX0_restore_24 : decode cX0_restore 24 = .ok (.invokevirtual 60, 3) := by decide +kernel
theorem dX0_restore_27 : decode cX0_restore 27 = .ok (.goto 22, 3) := by decide +kernel
theorem dX0_restore_30 : decode cX0_restore 30 = .ok (.aload_n 0, 1) := by decide +kernel
theorem dX0_restore_31 : decode cX0_restore 31 = .ok (.getfield 18, 3) := by decide +kernel
theorem dX0_restore_34 : decode cX0_restore 34 = .ok (.ifCond .eq 10, 3) := by decide +kernel
theorem dX0_restore_37 : decode cX0_restore 37 = .ok (.aload_n 0, 1) := by decide +kernel
theorem dX0_restore_38 : decode cX0_restore 38 = .ok (.invokevirtual 63, 3) := by decide +kernel
theorem dX0_restore_41 : decode cX0_restore 41 = .ok (.ifCond .eq 7, 3) := by decide +kernel
theorem dX0_restore_44 : decode cX0_restore 44 = .ok (.iconst 1, 1) := by decide +kernel
theorem dX0_restore_45 : decode cX0_restore 45 = .ok (.goto 4, 3) := by decide +kernel
theorem dX0_restore_48 : decode cX0_restore 48 = .ok (.iconst 0, 1) := by decide +kernel
theorem dX0_restore_49 : decode cX0_restore 49 = .ok (.istore_n 2, 1) := by decide +kernel
theorem dX0_restore_50 : decode cX0_restore 50 = .ok (.iload_n 2, 1) := by decide +kernel
theorem dX0_restore_51 : decode cX0_restore 51 = .ok (.ifCond .ne 6, 3) := by decide +kernel
theorem dX0_restore_54 : decode cX0_restore 54 = .ok (.bipush (-2), 2) := by decide +kernel
theorem dX0_restore_56 : decode cX0_restore 56 = .ok (.ireturn, 1) := by decide +kernel
theorem dX0_restore_57 : decode cX0_restore 57 = .ok (.aload_n 0, 1) := by decide +kernel
theorem dX0_restore_58 : decode cX0_restore 58 = .ok (.iconst 1, 1) := by decide +kernel
theorem dX0_restore_59 : decode cX0_restore 59 = .ok (.putfield 30, 3) := by decide +kernel
theorem dX0_restore_62 : decode cX0_restore 62 = .ok (.iload_n 1, 1) := by decide +kernel
theorem dX0_restore_63 : decode cX0_restore 63 = .ok (.ireturn, 1) := by decide +kernel
theorem dX2_isFull_0 : decode cX2_isFull 0 = .ok (.aload_n 0, 1) := by decide +kernel
theorem dX2_isFull_1 : decode cX2_isFull 1 = .ok (.getfield 28, 3) := by decide +kernel
theorem dX2_isFull_4 : decode cX2_isFull 4 = .ok (.bipush 60, 2) := by decide +kernel
theorem dX2_isFull_6 : decode cX2_isFull 6 = .ok (.if_icmp .lt 7, 3) := by decide +kernel
theorem dX2_isFull_9 : decode cX2_isFull 9 = .ok (.iconst 1, 1) := by decide +kernel
theorem dX2_isFull_10 : decode cX2_isFull 10 = .ok (.goto 4, 3) := by decide +kernel
theorem dX2_isFull_13 : decode cX2_isFull 13 = .ok (.iconst 0, 1) := by decide +kernel
theorem dX2_isFull_14 : decode cX2_isFull 14 = .ok (.ireturn, 1) := by decide +kernel
theorem dX2_isNumber_0 : decode cX2_isNumber 0 = .ok (.iload_n 1, 1) := by decide +kernel
theorem dX2_isNumber_1 : decode cX2_isNumber 1 = .ok (.ifCond .lt 15, 3) := by decide +kernel
theorem dX2_isNumber_4 : decode cX2_isNumber 4 = .ok (.iload_n 1, 1) := by decide +kernel
theorem dX2_isNumber_5 : decode cX2_isNumber 5 = .ok (.aload_n 0, 1) := by decide +kernel
theorem dX2_isNumber_6 : decode cX2_isNumber 6 = .ok (.getfield 28, 3) := by decide +kernel
theorem dX2_isNumber_9 : decode cX2_isNumber 9 = .ok (.if_icmp .ge 7, 3) := by decide +kernel
theorem dX2_isNumber_12 : decode cX2_isNumber 12 = .ok (.iconst 1, 1) := by decide +kernel
theorem dX2_isNumber_13 : decode cX2_isNumber 13 = .ok (.goto 4, 3) := by decide +kernel
theorem dX2_isNumber_16 : decode cX2_isNumber 16 = .ok (.iconst 0, 1) := by decide +kernel
theorem dX2_isNumber_17 : decode cX2_isNumber 17 = .ok (.ireturn, 1) := by decide +kernel
theorem dX2_isOfKind_0 : decode cX2_isOfKind 0 = .ok (.aload_n 0, 1) := by decide +kernel
theorem dX2_isOfKind_1 : decode cX2_isOfKind 1 = .ok (.iload_n 1, 1) := by decide +kernel
theorem dX2_isOfKind_2 : decode cX2_isOfKind 2 = .ok (.invokevirtual 32, 3) := by decide +kernel
theorem dX2_isOfKind_5 : decode cX2_isOfKind 5 = .ok (.ifCond .eq 17, 3) := by decide +kernel
theorem dX2_isOfKind_8 : decode cX2_isOfKind 8 = .ok (.aload_n 0, 1) := by decide +kernel
theorem dX2_isOfKind_9 : decode cX2_isOfKind 9 = .ok (.getfield 9, 3) := by decide +kernel
theorem dX2_isOfKind_12 : decode cX2_isOfKind 12 = .ok (.iload_n 1, 1) := by decide +kernel
theorem dX2_isOfKind_13 : decode cX2_isOfKind 13 = .ok (.iaload, 1) := by decide +kernel
theorem dX2_isOfKind_14 : decode cX2_isOfKind 14 = .ok (.iload_n 2, 1) := by decide +kernel
theorem dX2_isOfKind_15 : decode cX2_isOfKind 15 = .ok (.if_icmp .ne 7, 3) := by decide +kernel
theorem dX2_isOfKind_18 : decode cX2_isOfKind 18 = .ok (.iconst 1, 1) := by decide +kernel
theorem dX2_isOfKind_19 : decode cX2_isOfKind 19 = .ok (.goto 4, 3) := by decide +kernel
theorem dX2_isOfKind_22 : decode cX2_isOfKind 22 = .ok (.iconst 0, 1) := by decide +kernel
theorem dX2_isOfKind_23 : decode cX2_isOfKind 23 = .ok (.ireturn, 1) := by decide +kernel
theorem dX2_reachOf_0 : decode cX2_reachOf 0 = .ok (.aload_n 0, 1) := by decide +kernel
theorem dX2_reachOf_1 : decode cX2_reachOf 1 = .ok (.iload_n 1, 1) := by decide +kernel
theorem dX2_reachOf_2 : decode cX2_reachOf 2 = .ok (.invokevirtual 32, 3) := by decide +kernel
theorem dX2_reachOf_5 : decode cX2_reachOf 5 = .ok (.ifCond .eq 12, 3) := by decide +kernel
theorem dX2_reachOf_8 : decode cX2_reachOf 8 = .ok (.aload_n 0, 1) := by decide +kernel
theorem dX2_reachOf_9 : decode cX2_reachOf 9 = .ok (.getfield 24, 3) := by decide +kernel
theorem dX2_reachOf_12 : decode cX2_reachOf 12 = .ok (.iload_n 1, 1) := by decide +kernel
