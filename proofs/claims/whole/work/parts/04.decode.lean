theorem dX1_init_0 : decode cX1_init 0 = .ok (.aload_n 0, 1) := by decide +kernel
theorem dX1_init_1 : decode cX1_init 1 = .ok (.invokespecial 3, 3) := by decide +kernel
theorem dX1_init_4 : decode cX1_init 4 = .ok (.aload_n 0, 1) := by decide +kernel
theorem dX1_init_5 : decode cX1_init 5 = .ok (.sipush 8192, 3) := by decide +kernel
theorem dX1_init_8 : decode cX1_init 8 = .ok (.newarray .long, 2) := by decide +kernel
theorem dX1_init_10 : decode cX1_init 10 = .ok (.putfield 9, 3) := by decide +kernel
theorem dX1_init_13 : decode cX1_init 13 = .ok (.aload_n 0, 1) := by decide +kernel
theorem dX1_init_14 : decode cX1_init 14 = .ok (.new 13, 3) := by decide +kernel
theorem dX1_init_17 : decode cX1_init 17 = .ok (.dup, 1) := by decide +kernel
theorem dX1_init_18 : decode cX1_init 18 = .ok (.invokespecial 15, 3) := by decide +kernel
theorem dX1_init_21 : decode cX1_init 21 = .ok (.putfield 16, 3) := by decide +kernel
theorem dX1_init_24 : decode cX1_init 24 = .ok (.aload_n 0, 1) := by decide +kernel
theorem dX1_init_25 : decode cX1_init 25 = .ok (.lconst 0, 1) := by decide +kernel
theorem dX1_init_26 : decode cX1_init 26 = .ok (.putfield 20, 3) := by decide +kernel
theorem dX1_init_29 : decode cX1_init 29 = .ok (.aload_n 0, 1) := by decide +kernel
theorem dX1_init_30 : decode cX1_init 30 = .ok (.iconst 0, 1) := by decide +kernel
theorem dX1_init_31 : decode cX1_init 31 = .ok (.putfield 24, 3) := by decide +kernel
theorem dX1_init_34 : decode cX1_init 34 = .ok (.aload_n 0, 1) := by decide +kernel
theorem dX1_init_35 : decode cX1_init 35 = .ok (.iconst 0, 1) := by decide +kernel
theorem dX1_init_36 : decode cX1_init 36 = .ok (.putfield 28, 3) := by decide +kernel
theorem dX1_init_39 : decode cX1_init 39 = .ok (.return_, 1) := by decide +kernel
theorem dX0_init_0 : decode cX0_init 0 = .ok (.aload_n 0, 1) := by decide +kernel
theorem dX0_init_1 : decode cX0_init 1 = .ok (.invokespecial 3, 3) := by decide +kernel
theorem dX0_init_4 : decode cX0_init 4 = .ok (.aload_n 0, 1) := by decide +kernel
theorem dX0_init_5 : decode cX0_init 5 = .ok (.bipush 8, 2) := by decide +kernel
theorem dX0_init_7 : decode cX0_init 7 = .ok (.newarray .int, 2) := by decide +kernel
theorem dX0_init_9 : decode cX0_init 9 = .ok (.putfield 11, 3) := by decide +kernel
theorem dX0_init_12 : decode cX0_init 12 = .ok (.aload_n 0, 1) := by decide +kernel
theorem dX0_init_13 : decode cX0_init 13 = .ok (.bipush 8, 2) := by decide +kernel
theorem dX0_init_15 : decode cX0_init 15 = .ok (.newarray .long, 2) := by decide +kernel
theorem dX0_init_17 : decode cX0_init 17 = .ok (.putfield 15, 3) := by decide +kernel
theorem dX0_init_20 : decode cX0_init 20 = .ok (.return_, 1) := by decide +kernel
theorem dX1_table_0 : decode cX1_table 0 = .ok (.aload_n 0, 1) := by decide +kernel
theorem dX1_table_1 : decode cX1_table 1 = .ok (.getfield 20, 3) := by decide +kernel
theorem dX1_table_4 : decode cX1_table 4 = .ok (.lreturn, 1) := by decide +kernel
theorem dX1_rights_0 : decode cX1_rights 0 = .ok (.aload_n 0, 1) := by decide +kernel
theorem dX1_rights_1 : decode cX1_rights 1 = .ok (.iload_n 1, 1) := by decide +kernel
theorem dX1_rights_2 : decode cX1_rights 2 = .ok (.putfield 24, 3) := by decide +kernel
theorem dX1_rights_5 : decode cX1_rights 5 = .ok (.aload_n 0, 1) := by decide +kernel
theorem dX1_rights_6 : decode cX1_rights 6 = .ok (.iload_n 2, 1) := by decide +kernel
theorem dX1_rights_7 : decode cX1_rights 7 = .ok (.putfield 28, 3) := by decide +kernel
theorem dX1_rights_10 : decode cX1_rights 10 = .ok (.return_, 1) := by decide +kernel
theorem dX1_configs_0 : decode cX1_configs 0 = .ok (.aload_n 0, 1) := by decide +kernel
theorem dX1_configs_1 : decode cX1_configs 1 = .ok (.getfield 16, 3) := by decide +kernel
theorem dX1_configs_4 : decode cX1_configs 4 = .ok (.invokevirtual 50, 3) := by decide +kernel
theorem dX1_configs_7 : decode cX1_configs 7 = .ok (.lreturn, 1) := by decide +kernel
theorem dX0_packedConfigs_0 : decode cX0_packedConfigs 0 = .ok (.lconst 0, 1) := by decide +kernel
theorem dX0_packedConfigs_1 : decode cX0_packedConfigs 1 = .ok (.lstore_n 1, 1) := by decide +kernel
theorem dX0_packedConfigs_2 : decode cX0_packedConfigs 2 = .ok (.iconst 0, 1) := by decide +kernel
theorem dX0_packedConfigs_3 : decode cX0_packedConfigs 3 = .ok (.istore_n 3, 1) := by decide +kernel
theorem dX0_packedConfigs_4 : decode cX0_packedConfigs 4 = .ok (.iload_n 3, 1) := by decide +kernel
theorem dX0_packedConfigs_5 : decode cX0_packedConfigs 5 = .ok (.bipush 8, 2) := by decide +kernel
theorem dX0_packedConfigs_7 : decode cX0_packedConfigs 7 = .ok (.if_icmp .ge 24, 3) := by decide +kernel
theorem dX0_packedConfigs_10 : decode cX0_packedConfigs 10 = .ok (.lload_n 1, 1) := by decide +kernel
theorem dX0_packedConfigs_11 : decode cX0_packedConfigs 11 = .ok (.aload_n 0, 1) := by decide +kernel
theorem dX0_packedConfigs_12 : decode cX0_packedConfigs 12 = .ok (.getfield 11, 3) := by decide +kernel
theorem dX0_packedConfigs_15 : decode cX0_packedConfigs 15 = .ok (.iload_n 3, 1) := by decide +kernel
theorem dX0_packedConfigs_16 : decode cX0_packedConfigs 16 = .ok (.iaload, 1) := by decide +kernel
theorem dX0_packedConfigs_17 : decode cX0_packedConfigs 17 = .ok (.i2l, 1) := by decide +kernel
theorem dX0_packedConfigs_18 : decode cX0_packedConfigs 18 = .ok (.bipush 8, 2) := by decide +kernel
theorem dX0_packedConfigs_20 : decode cX0_packedConfigs 20 = .ok (.iload_n 3, 1) := by decide +kernel
theorem dX0_packedConfigs_21 : decode cX0_packedConfigs 21 = .ok (.imul, 1) := by decide +kernel
theorem dX0_packedConfigs_22 : decode cX0_packedConfigs 22 = .ok (.lshl, 1) := by decide +kernel
theorem dX0_packedConfigs_23 : decode cX0_packedConfigs 23 = .ok (.lor, 1) := by decide +kernel
theorem dX0_packedConfigs_24 : decode cX0_packedConfigs 24 = .ok (.lstore_n 1, 1) := by decide +kernel
theorem dX0_packedConfigs_25 : decode cX0_packedConfigs 25 = .ok (.iinc 3 1, 3) := by decide +kernel
theorem dX0_packedConfigs_28 : decode cX0_packedConfigs 28 = .ok (.goto (-24), 3) := by decide +kernel
theorem dX0_packedConfigs_31 : decode cX0_packedConfigs 31 = .ok (.lload_n 1, 1) := by decide +kernel
theorem dX0_packedConfigs_32 : decode cX0_packedConfigs 32 = .ok (.lreturn, 1) := by decide +kernel
theorem dX1_setConfigs_0 : decode cX1_setConfigs 0 = .ok (.aload_n 0, 1) := by decide +kernel
theorem dX1_setConfigs_1 : decode cX1_setConfigs 1 = .ok (.getfield 16, 3) := by decide +kernel
theorem dX1_setConfigs_4 : decode cX1_setConfigs 4 = .ok (.lload_n 1, 1) := by decide +kernel
theorem dX1_setConfigs_5 : decode cX1_setConfigs 5 = .ok (.invokevirtual 54, 3) := by decide +kernel
theorem dX1_setConfigs_8 : decode cX1_setConfigs 8 = .ok (.return_, 1) := by decide +kernel
theorem dX0_takeConfigs_0 : decode cX0_takeConfigs 0 = .ok (.iconst 0, 1) := by decide +kernel
theorem dX0_takeConfigs_1 : decode cX0_takeConfigs 1 = .ok (.istore_n 3, 1) := by decide +kernel
theorem dX0_takeConfigs_2 : decode cX0_takeConfigs 2 = .ok (.iload_n 3, 1) := by decide +kernel
theorem dX0_takeConfigs_3 : decode cX0_takeConfigs 3 = .ok (.bipush 8, 2) := by decide +kernel
theorem dX0_takeConfigs_5 : decode cX0_takeConfigs 5 = .ok (.if_icmp .ge 37, 3) := by decide +kernel
theorem dX0_takeConfigs_8 : decode cX0_takeConfigs 8 = .ok (.aload_n 0, 1) := by decide +kernel
theorem dX0_takeConfigs_9 : decode cX0_takeConfigs 9 = .ok (.getfield 11, 3) := by decide +kernel
theorem dX0_takeConfigs_12 : decode cX0_takeConfigs 12 = .ok (.iload_n 3, 1) := by decide +kernel
theorem dX0_takeConfigs_13 : decode cX0_takeConfigs 13 = .ok (.iaload, 1) := by decide +kernel
theorem dX0_takeConfigs_14 : decode cX0_takeConfigs 14 = .ok (.invokestatic 19, 3) := by decide +kernel
theorem dX0_takeConfigs_17 : decode cX0_takeConfigs 17 = .ok (.ifCond .ne 19, 3) := by decide +kernel
theorem dX0_takeConfigs_20 : decode cX0_takeConfigs 20 = .ok (.aload_n 0, 1) := by decide +kernel
theorem dX0_takeConfigs_21 : decode cX0_takeConfigs 21 = .ok (.getfield 11, 3) := by decide +kernel
theorem dX0_takeConfigs_24 : decode cX0_takeConfigs 24 = .ok (.iload_n 3, 1) := by decide +kernel
theorem dX0_takeConfigs_25 : decode cX0_takeConfigs 25 = .ok (.lload_n 1, 1) := by decide +kernel
theorem dX0_takeConfigs_26 : decode cX0_takeConfigs 26 = .ok (.bipush 8, 2) := by decide +kernel
theorem dX0_takeConfigs_28 : decode cX0_takeConfigs 28 = .ok (.iload_n 3, 1) := by decide +kernel
theorem dX0_takeConfigs_29 : decode cX0_takeConfigs 29 = .ok (.imul, 1) := by decide +kernel
theorem dX0_takeConfigs_30 : decode cX0_takeConfigs 30 = .ok (.lushr, 1) := by decide +kernel
theorem dX0_takeConfigs_31 : decode cX0_takeConfigs 31 = .ok (.l2i, 1) := by decide +kernel
theorem dX0_takeConfigs_32 : decode cX0_takeConfigs 32 = .ok (.invokestatic 23, 3) := by decide +kernel
theorem dX0_takeConfigs_35 : decode cX0_takeConfigs 35 = .ok (.iastore, 1) := by decide +kernel
theorem dX0_takeConfigs_36 : decode cX0_takeConfigs 36 = .ok (.iinc 3 1, 3) := by decide +kernel
theorem dX0_takeConfigs_39 : decode cX0_takeConfigs 39 = .ok (.goto (-37), 3) := by decide +kernel
theorem dX0_takeConfigs_42 : decode cX0_takeConfigs 42 = .ok (.return_, 1) := by decide +kernel
theorem dX0_isLocked_0 : decode cX0_isLocked 0 = .ok (.iload_n 0, 1) := by decide +kernel
theorem dX0_isLocked_1 : decode cX0_isLocked 1 = .ok (.sipush 128, 3) := by decide +kernel
theorem dX0_isLocked_4 : decode cX0_isLocked 4 = .ok (.iand, 1) := by decide +kernel
theorem dX0_isLocked_5 : decode cX0_isLocked 5 = .ok (.ifCond .eq 7, 3) := by decide +kernel
theorem dX0_isLocked_8 : decode cX0_isLocked 8 = .ok (.iconst 1, 1) := by decide +kernel
theorem dX0_isLocked_9 : decode cX0_isLocked 9 = .ok (.goto 4, 3) := by decide +kernel
theorem dX0_isLocked_12 : decode cX0_isLocked 12 = .ok (.iconst 0, 1) := by decide +kernel
theorem dX0_isLocked_13 : decode cX0_isLocked 13 = .ok (.ireturn, 1) := by decide +kernel
theorem dX0_legalConfig_0 : decode cX0_legalConfig 0 = .ok (.iload_n 0, 1) := by decide +kernel
theorem dX0_legalConfig_1 : decode cX0_legalConfig 1 = .ok (.sipush 159, 3) := by decide +kernel
theorem dX0_legalConfig_4 : decode cX0_legalConfig 4 = .ok (.iand, 1) := by decide +kernel
theorem dX0_legalConfig_5 : decode cX0_legalConfig 5 = .ok (.istore_n 1, 1) := by decide +kernel
theorem dX0_legalConfig_6 : decode cX0_legalConfig 6 = .ok (.iload_n 1, 1) := by decide +kernel
theorem dX0_legalConfig_7 : decode cX0_legalConfig 7 = .ok (.iconst 1, 1) := by decide +kernel
theorem dX0_legalConfig_8 : decode cX0_legalConfig 8 = .ok (.iand, 1) := by decide +kernel
theorem dX0_legalConfig_9 : decode cX0_legalConfig 9 = .ok (.ifCond .ne 10, 3) := by decide +kernel
theorem dX0_legalConfig_12 : decode cX0_legalConfig 12 = .ok (.iload_n 1, 1) := by decide +kernel
theorem dX0_legalConfig_13 : decode cX0_legalConfig 13 = .ok (.bipush (-3), 2) := by decide +kernel
theorem dX0_legalConfig_15 : decode cX0_legalConfig 15 = .ok (.iand, 1) := by decide +kernel
theorem dX0_legalConfig_16 : decode cX0_legalConfig 16 = .ok (.goto 4, 3) := by decide +kernel
theorem dX0_legalConfig_19 : decode cX0_legalConfig 19 = .ok (.iload_n 1, 1) := by decide +kernel
theorem dX0_legalConfig_20 : decode cX0_legalConfig 20 = .ok (.ireturn, 1) := by decide +kernel
theorem dX1_fence_0 : decode cX1_fence 0 = .ok (.return_, 1) := by decide +kernel
theorem dL_word_0 : decode cL_word 0 = .ok (.aload_n 3, 1) := by decide +kernel
theorem dL_word_1 : decode cL_word 1 = .ok (.iconst 0, 1) := by decide +kernel
theorem dL_word_2 : decode cL_word 2 = .ok (.aload_n 0, 1) := by decide +kernel
theorem dL_word_3 : decode cL_word 3 = .ok (.lload_n 1, 1) := by decide +kernel
theorem dL_word_4 : decode cL_word 4 = .ok (.invokevirtual 7, 3) := by decide +kernel
theorem dL_word_7 : decode cL_word 7 = .ok (.lastore, 1) := by decide +kernel
theorem dL_word_8 : decode cL_word 8 = .ok (.goto 7, 3) := by decide +kernel
theorem dL_word_11 : decode cL_word 11 = .ok (.astore 4, 2) := by decide +kernel
theorem dL_word_13 : decode cL_word 13 = .ok (.iconst 1, 1) := by decide +kernel
theorem dL_word_14 : decode cL_word 14 = .ok (.ireturn, 1) := by decide +kernel
theorem dL_word_15 : decode cL_word 15 = .ok (.iconst 0, 1) := by decide +kernel
theorem dL_word_16 : decode cL_word 16 = .ok (.ireturn, 1) := by decide +kernel
theorem dX1_word_0 : decode cX1_word 0 = .ok (.lload_n 1, 1) := by decide +kernel
theorem dX1_word_1 : decode cX1_word 1 = .ok (.invokestatic 31, 3) := by decide +kernel
theorem dX1_word_4 : decode cX1_word 4 = .ok (.istore_n 3, 1) := by decide +kernel
theorem dX1_word_5 : decode cX1_word 5 = .ok (.iload_n 3, 1) := by decide +kernel
theorem dX1_word_6 : decode cX1_word 6 = .ok (.iconst (-1), 1) := by decide +kernel
theorem dX1_word_7 : decode cX1_word 7 = .ok (.if_icmp .ne 13, 3) := by decide +kernel
theorem dX1_word_10 : decode cX1_word 10 = .ok (.new 35, 3) := by decide +kernel
theorem dX1_word_13 : decode cX1_word 13 = .ok (.dup, 1) := by decide +kernel
theorem dX1_word_14 : decode cX1_word 14 = .ok (.ldc 37, 2) := by decide +kernel
theorem dX1_word_16 : decode cX1_word 16 = .ok (.invokespecial 39, 3) := by decide +kernel
theorem dX1_word_19 : decode cX1_word 19 = .ok (.athrow, 1) := by decide +kernel
theorem dX1_word_20 : decode cX1_word 20 = .ok (.aload_n 0, 1) := by decide +kernel
theorem dX1_word_21 : decode cX1_word 21 = .ok (.getfield 9, 3) := by decide +kernel
theorem dX1_word_24 : decode cX1_word 24 = .ok (.iload_n 3, 1) := by decide +kernel
theorem dX1_word_25 : decode cX1_word 25 = .ok (.laload, 1) := by decide +kernel
theorem dX1_word_26 : decode cX1_word 26 = .ok (.lreturn, 1) := by decide +kernel
theorem dX1_wordIndex_0 : decode cX1_wordIndex 0 = .ok (.lload_n 0, 1) := by decide +kernel
theorem dX1_wordIndex_1 : decode cX1_wordIndex 1 = .ok (.ldc2_w 104, 3) := by decide +kernel
theorem dX1_wordIndex_4 : decode cX1_wordIndex 4 = .ok (.lsub, 1) := by decide +kernel
theorem dX1_wordIndex_5 : decode cX1_wordIndex 5 = .ok (.lstore_n 2, 1) := by decide +kernel
theorem dX1_wordIndex_6 : decode cX1_wordIndex 6 = .ok (.lload_n 2, 1) := by decide +kernel
theorem dX1_wordIndex_7 : decode cX1_wordIndex 7 = .ok (.lconst 0, 1) := by decide +kernel
theorem dX1_wordIndex_8 : decode cX1_wordIndex 8 = .ok (.lcmp, 1) := by decide +kernel
theorem dX1_wordIndex_9 : decode cX1_wordIndex 9 = .ok (.ifCond .lt 21, 3) := by decide +kernel
theorem dX1_wordIndex_12 : decode cX1_wordIndex 12 = .ok (.lload_n 2, 1) := by decide +kernel
theorem dX1_wordIndex_13 : decode cX1_wordIndex 13 = .ok (.ldc2_w 106, 3) := by decide +kernel
theorem dX1_wordIndex_16 : decode cX1_wordIndex 16 = .ok (.lcmp, 1) := by decide +kernel
theorem dX1_wordIndex_17 : decode cX1_wordIndex 17 = .ok (.ifCond .ge 13, 3) := by decide +kernel
theorem dX1_wordIndex_20 : decode cX1_wordIndex 20 = .ok (.lload_n 2, 1) := by decide +kernel
theorem dX1_wordIndex_21 : decode cX1_wordIndex 21 = .ok (.ldc2_w 108, 3) := by decide +kernel
theorem dX1_wordIndex_24 : decode cX1_wordIndex 24 = .ok (.lrem, 1) := by decide +kernel
theorem dX1_wordIndex_25 : decode cX1_wordIndex 25 = .ok (.lconst 0, 1) := by decide +kernel
theorem dX1_wordIndex_26 : decode cX1_wordIndex 26 = .ok (.lcmp, 1) := by decide +kernel
theorem dX1_wordIndex_27 : decode cX1_wordIndex 27 = .ok (.ifCond .eq 5, 3) := by decide +kernel
theorem dX1_wordIndex_30 : decode cX1_wordIndex 30 = .ok (.iconst (-1), 1) := by decide +kernel
theorem dX1_wordIndex_31 : decode cX1_wordIndex 31 = .ok (.ireturn, 1) := by decide +kernel
theorem dX1_wordIndex_32 : decode cX1_wordIndex 32 = .ok (.lload_n 2, 1) := by decide +kernel
theorem dX1_wordIndex_33 : decode cX1_wordIndex 33 = .ok (.ldc2_w 108, 3) := by decide +kernel
theorem dX1_wordIndex_36 : decode cX1_wordIndex 36 = .ok (.ldiv, 1) := by decide +kernel
theorem dX1_wordIndex_37 : decode cX1_wordIndex 37 = .ok (.l2i, 1) := by decide +kernel
theorem dX1_wordIndex_38 : decode cX1_wordIndex 38 = .ok (.ireturn, 1) := by decide +kernel
theorem dL_put_0 : decode cL_put 0 = .ok (.aload_n 0, 1) := by decide +kernel
theorem dL_put_1 : decode cL_put 1 = .ok (.lload_n 1, 1) := by decide +kernel
theorem dL_put_2 : decode cL_put 2 = .ok (.lload_n 3, 1) := by decide +kernel
theorem dL_put_3 : decode cL_put 3 = .ok (.invokevirtual 15, 3) := by decide +kernel
theorem dL_put_6 : decode cL_put 6 = .ok (.goto 7, 3) := by decide +kernel
theorem dL_put_9 : decode cL_put 9 = .ok (.astore 5, 2) := by decide +kernel
theorem dL_put_11 : decode cL_put 11 = .ok (.iconst 1, 1) := by decide +kernel
theorem dL_put_12 : decode cL_put 12 = .ok (.ireturn, 1) := by decide +kernel
theorem dL_put_13 : decode cL_put 13 = .ok (.iconst 0, 1) := by decide +kernel
theorem dL_put_14 : decode cL_put 14 = .ok (.ireturn, 1) := by decide +kernel
theorem dX1_put_0 : decode cX1_put 0 = .ok (.lload_n 1, 1) := by decide +kernel
theorem dX1_put_1 : decode cX1_put 1 = .ok (.invokestatic 31, 3) := by decide +kernel
theorem dX1_put_4 : decode cX1_put 4 = .ok (.istore 5, 2) := by decide +kernel
theorem dX1_put_6 : decode cX1_put 6 = .ok (.iload 5, 2) := by decide +kernel
theorem dX1_put_8 : decode cX1_put 8 = .ok (.iconst (-1), 1) := by decide +kernel
theorem dX1_put_9 : decode cX1_put 9 = .ok (.if_icmp .ne 13, 3) := by decide +kernel
theorem dX1_put_12 : decode cX1_put 12 = .ok (.new 35, 3) := by decide +kernel
theorem dX1_put_15 : decode cX1_put 15 = .ok (.dup, 1) := by decide +kernel
theorem dX1_put_16 : decode cX1_put 16 = .ok (.ldc 37, 2) := by decide +kernel
theorem dX1_put_18 : decode cX1_put 18 = .ok (.invokespecial 39, 3) := by decide +kernel
theorem dX1_put_21 : decode cX1_put 21 = .ok (.athrow, 1) := by decide +kernel
theorem dX1_put_22 : decode cX1_put 22 = .ok (.aload_n 0, 1) := by decide +kernel
theorem dX1_put_23 : decode cX1_put 23 = .ok (.getfield 9, 3) := by decide +kernel
theorem dX1_put_26 : decode cX1_put 26 = .ok (.iload 5, 2) := by decide +kernel
theorem dX1_put_28 : decode cX1_put 28 = .ok (.lload_n 3, 1) := by decide +kernel
theorem dX1_put_29 : decode cX1_put 29 = .ok (.lastore, 1) := by decide +kernel
theorem dX1_put_30 : decode cX1_put 30 = .ok (.return_, 1) := by decide +kernel
theorem dL_setTable_0 : decode cL_setTable 0 = .ok (.aload_n 0, 1) := by decide +kernel
theorem dL_setTable_1 : decode cL_setTable 1 = .ok (.lload_n 1, 1) := by decide +kernel
theorem dL_setTable_2 : decode cL_setTable 2 = .ok (.invokevirtual 19, 3) := by decide +kernel
theorem dL_setTable_5 : decode cL_setTable 5 = .ok (.goto 6, 3) := by decide +kernel
theorem dL_setTable_8 : decode cL_setTable 8 = .ok (.astore_n 3, 1) := by decide +kernel
theorem dL_setTable_9 : decode cL_setTable 9 = .ok (.iconst 1, 1) := by decide +kernel
theorem dL_setTable_10 : decode cL_setTable 10 = .ok (.ireturn, 1) := by decide +kernel
theorem dL_setTable_11 : decode cL_setTable 11 = .ok (.iconst 0, 1) := by decide +kernel
theorem dL_setTable_12 : decode cL_setTable 12 = .ok (.ireturn, 1) := by decide +kernel
theorem dX1_setTable_0 : decode cX1_setTable 0 = .ok (.lload_n 1, 1) := by decide +kernel
theorem dX1_setTable_1 : decode cX1_setTable 1 = .ok (.invokestatic 42, 3) := by decide +kernel
theorem dX1_setTable_4 : decode cX1_setTable 4 = .ok (.istore_n 3, 1) := by decide +kernel
theorem dX1_setTable_5 : decode cX1_setTable 5 = .ok (.iload_n 3, 1) := by decide +kernel
theorem dX1_setTable_6 : decode cX1_setTable 6 = .ok (.ifCond .eq 25, 3) := by decide +kernel
theorem dX1_setTable_9 : decode cX1_setTable 9 = .ok (.iload_n 3, 1) := by decide +kernel
theorem dX1_setTable_10 : decode cX1_setTable 10 = .ok (.bipush 8, 2) := by decide +kernel
theorem dX1_setTable_12 : decode cX1_setTable 12 = .ok (.if_icmp .eq 19, 3) := by decide +kernel
theorem dX1_setTable_15 : decode cX1_setTable 15 = .ok (.iload_n 3, 1) := by decide +kernel
theorem dX1_setTable_16 : decode cX1_setTable 16 = .ok (.bipush 9, 2) := by decide +kernel
theorem dX1_setTable_18 : decode cX1_setTable 18 = .ok (.if_icmp .eq 13, 3) := by decide +kernel
theorem dX1_setTable_21 : decode cX1_setTable 21 = .ok (.new 45, 3) := by decide +kernel
theorem dX1_setTable_24 : decode cX1_setTable 24 = .ok (.dup, 1) := by decide +kernel
theorem dX1_setTable_25 : decode cX1_setTable 25 = .ok (.ldc 47, 2) := by decide +kernel
theorem dX1_setTable_27 : decode cX1_setTable 27 = .ok (.invokespecial 49, 3) := by decide +kernel
theorem dX1_setTable_30 : decode cX1_setTable 30 = .ok (.athrow, 1) := by decide +kernel
theorem dX1_setTable_31 : decode cX1_setTable 31 = .ok (.aload_n 0, 1) := by decide +kernel
theorem dX1_setTable_32 : decode cX1_setTable 32 = .ok (.lload_n 1, 1) := by decide +kernel
theorem dX1_setTable_33 : decode cX1_setTable 33 = .ok (.putfield 20, 3) := by decide +kernel
theorem dX1_setTable_36 : decode cX1_setTable 36 = .ok (.return_, 1) := by decide +kernel
theorem dX1_sortOf_0 : decode cX1_sortOf 0 = .ok (.lload_n 0, 1) := by decide +kernel
theorem dX1_sortOf_1 : decode cX1_sortOf 1 = .ok (.bipush 60, 2) := by decide +kernel
theorem dX1_sortOf_3 : decode cX1_sortOf 3 = .ok (.lushr, 1) := by decide +kernel
theorem dX1_sortOf_4 : decode cX1_sortOf 4 = .ok (.l2i, 1) := by decide +kernel
theorem dX1_sortOf_5 : decode cX1_sortOf 5 = .ok (.ireturn, 1) := by decide +kernel
theorem dL_number_0 : decode cL_number 0 = .ok (.aload_n 2, 1) := by decide +kernel
theorem dL_number_1 : decode cL_number 1 = .ok (.iconst 0, 1) := by decide +kernel
theorem dL_number_2 : decode cL_number 2 = .ok (.aload_n 0, 1) := by decide +kernel
theorem dL_number_3 : decode cL_number 3 = .ok (.iload_n 1, 1) := by decide +kernel
theorem dL_number_4 : decode cL_number 4 = .ok (.invokevirtual 25, 3) := by decide +kernel
theorem dL_number_7 : decode cL_number 7 = .ok (.lastore, 1) := by decide +kernel
theorem dL_number_8 : decode cL_number 8 = .ok (.goto 6, 3) := by decide +kernel
theorem dL_number_11 : decode cL_number 11 = .ok (.astore_n 3, 1) := by decide +kernel
theorem dL_number_12 : decode cL_number 12 = .ok (.iconst 1, 1) := by decide +kernel
theorem dL_number_13 : decode cL_number 13 = .ok (.ireturn, 1) := by decide +kernel
theorem dL_number_14 : decode cL_number 14 = .ok (.iconst 0, 1) := by decide +kernel
theorem dL_number_15 : decode cL_number 15 = .ok (.ireturn, 1) := by decide +kernel
theorem dX1_number_0 : decode cX1_number 0 = .ok (.aload_n 0, 1) := by decide +kernel
theorem dX1_number_1 : decode cX1_number 1 = .ok (.getfield 16, 3) := by decide +kernel
theorem dX1_number_4 : decode cX1_number 4 = .ok (.iload_n 1, 1) := by decide +kernel
theorem dX1_number_5 : decode cX1_number 5 = .ok (.invokevirtual 58, 3) := by decide +kernel
theorem dX1_number_8 : decode cX1_number 8 = .ok (.lreturn, 1) := by decide +kernel
theorem dX0_numberOf_0 : decode cX0_numberOf 0 = .ok (.iload_n 1, 1) := by decide +kernel
theorem dX0_numberOf_1 : decode cX0_numberOf 1 = .ok (.ifCond .lt 9, 3) := by decide +kernel
theorem dX0_numberOf_4 : decode cX0_numberOf 4 = .ok (.iload_n 1, 1) := by decide +kernel
theorem dX0_numberOf_5 : decode cX0_numberOf 5 = .ok (.bipush 8, 2) := by decide +kernel
theorem dX0_numberOf_7 : decode cX0_numberOf 7 = .ok (.if_icmp .lt 13, 3) := by decide +kernel
theorem dX0_numberOf_10 : decode cX0_numberOf 10 = .ok (.new 27, 3) := by decide +kernel
theorem dX0_numberOf_13 : decode cX0_numberOf 13 = .ok (.dup, 1) := by decide +kernel
theorem dX0_numberOf_14 : decode cX0_numberOf 14 = .ok (.ldc 29, 2) := by decide +kernel
theorem dX0_numberOf_16 : decode cX0_numberOf 16 = .ok (.invokespecial 31, 3) := by decide +kernel
theorem dX0_numberOf_19 : decode cX0_numberOf 19 = .ok (.athrow, 1) := by decide +kernel
theorem dX0_numberOf_20 : decode cX0_numberOf 20 = .ok (.aload_n 0, 1) := by decide +kernel
theorem dX0_numberOf_21 : decode cX0_numberOf 21 = .ok (.getfield 15, 3) := by decide +kernel
theorem dX0_numberOf_24 : decode cX0_numberOf 24 = .ok (.iload_n 1, 1) := by decide +kernel
theorem dX0_numberOf_25 : decode cX0_numberOf 25 = .ok (.laload, 1) := by decide +kernel
theorem dX0_numberOf_26 : decode cX0_numberOf 26 = .ok (.lreturn, 1) := by decide +kernel
theorem dL_setNumber_0 : decode cL_setNumber 0 = .ok (.aload_n 0, 1) := by decide +kernel
theorem dL_setNumber_1 : decode cL_setNumber 1 = .ok (.iload_n 1, 1) := by decide +kernel
theorem dL_setNumber_2 : decode cL_setNumber 2 = .ok (.lload_n 2, 1) := by decide +kernel
theorem dL_setNumber_3 : decode cL_setNumber 3 = .ok (.invokevirtual 29, 3) := by decide +kernel
theorem dL_setNumber_6 : decode cL_setNumber 6 = .ok (.goto 7, 3) := by decide +kernel
theorem dL_setNumber_9 : decode cL_setNumber 9 = .ok (.astore 4, 2) := by decide +kernel
theorem dL_setNumber_11 : decode cL_setNumber 11 = .ok (.iconst 1, 1) := by decide +kernel
theorem dL_setNumber_12 : decode cL_setNumber 12 = .ok (.ireturn, 1) := by decide +kernel
theorem dL_setNumber_13 : decode cL_setNumber 13 = .ok (.iconst 0, 1) := by decide +kernel
theorem dL_setNumber_14 : decode cL_setNumber 14 = .ok (.ireturn, 1) := by decide +kernel
theorem dX1_setNumber_0 : decode cX1_setNumber 0 = .ok (.aload_n 0, 1) := by decide +kernel
theorem dX1_setNumber_1 : decode cX1_setNumber 1 = .ok (.getfield 16, 3) := by decide +kernel
theorem dX1_setNumber_4 : decode cX1_setNumber 4 = .ok (.iload_n 1, 1) := by decide +kernel
theorem dX1_setNumber_5 : decode cX1_setNumber 5 = .ok (.lload_n 2, 1) := by decide +kernel
theorem dX1_setNumber_6 : decode cX1_setNumber 6 = .ok (.invokevirtual 62, 3) := by decide +kernel
theorem dX1_setNumber_9 : decode cX1_setNumber 9 = .ok (.return_, 1) := by decide +kernel
theorem dX0_takeNumber_0 : decode cX0_takeNumber 0 = .ok (.iload_n 1, 1) := by decide +kernel
theorem dX0_takeNumber_1 : decode cX0_takeNumber 1 = .ok (.ifCond .lt 9, 3) := by decide +kernel
theorem dX0_takeNumber_4 : decode cX0_takeNumber 4 = .ok (.iload_n 1, 1) := by decide +kernel
theorem dX0_takeNumber_5 : decode cX0_takeNumber 5 = .ok (.bipush 8, 2) := by decide +kernel
theorem dX0_takeNumber_7 : decode cX0_takeNumber 7 = .ok (.if_icmp .lt 13, 3) := by decide +kernel
theorem dX0_takeNumber_10 : decode cX0_takeNumber 10 = .ok (.new 27, 3) := by decide +kernel
theorem dX0_takeNumber_13 : decode cX0_takeNumber 13 = .ok (.dup, 1) := by decide +kernel
theorem dX0_takeNumber_14 : decode cX0_takeNumber 14 = .ok (.ldc 29, 2) := by decide +kernel
theorem dX0_takeNumber_16 : decode cX0_takeNumber 16 = .ok (.invokespecial 31, 3) := by decide +kernel
theorem dX0_takeNumber_19 : decode cX0_takeNumber 19 = .ok (.athrow, 1) := by decide +kernel
theorem dX0_takeNumber_20 : decode cX0_takeNumber 20 = .ok (.iload_n 1, 1) := by decide +kernel
theorem dX0_takeNumber_21 : decode cX0_takeNumber 21 = .ok (.iconst 1, 1) := by decide +kernel
theorem dX0_takeNumber_22 : decode cX0_takeNumber 22 = .ok (.iadd, 1) := by decide +kernel
theorem dX0_takeNumber_23 : decode cX0_takeNumber 23 = .ok (.bipush 8, 2) := by decide +kernel
theorem dX0_takeNumber_25 : decode cX0_takeNumber 25 = .ok (.if_icmp .ge 21, 3) := by decide +kernel
theorem dX0_takeNumber_28 : decode cX0_takeNumber 28 = .ok (.aload_n 0, 1) := by decide +kernel
theorem dX0_takeNumber_29 : decode cX0_takeNumber 29 = .ok (.getfield 11, 3) := by decide +kernel
theorem dX0_takeNumber_32 : decode cX0_takeNumber 32 = .ok (.iload_n 1, 1) := by decide +kernel
theorem dX0_takeNumber_33 : decode cX0_takeNumber 33 = .ok (.iconst 1, 1) := by decide +kernel
theorem dX0_takeNumber_34 : decode cX0_takeNumber 34 = .ok (.iadd, 1) := by decide +kernel
theorem dX0_takeNumber_35 : decode cX0_takeNumber 35 = .ok (.iaload, 1) := by decide +kernel
theorem dX0_takeNumber_36 : decode cX0_takeNumber 36 = .ok (.invokestatic 34, 3) := by decide +kernel
theorem dX0_takeNumber_39 : decode cX0_takeNumber 39 = .ok (.ifCond .eq 7, 3) := by decide +kernel
theorem dX0_takeNumber_42 : decode cX0_takeNumber 42 = .ok (.iconst 1, 1) := by decide +kernel
theorem dX0_takeNumber_43 : decode cX0_takeNumber 43 = .ok (.goto 4, 3) := by decide +kernel
theorem dX0_takeNumber_46 : decode cX0_takeNumber 46 = .ok (.iconst 0, 1) := by decide +kernel
theorem dX0_takeNumber_47 : decode cX0_takeNumber 47 = .ok (.istore 4, 2) := by decide +kernel
theorem dX0_takeNumber_49 : decode cX0_takeNumber 49 = .ok (.aload_n 0, 1) := by decide +kernel
theorem dX0_takeNumber_50 : decode cX0_takeNumber 50 = .ok (.getfield 11, 3) := by decide +kernel
theorem dX0_takeNumber_53 : decode cX0_takeNumber 53 = .ok (.iload_n 1, 1) := by decide +kernel
theorem dX0_takeNumber_54 : decode cX0_takeNumber 54 = .ok (.iaload, 1) := by decide +kernel
theorem dX0_takeNumber_55 : decode cX0_takeNumber 55 = .ok (.invokestatic 19, 3) := by decide +kernel
theorem dX0_takeNumber_58 : decode cX0_takeNumber 58 = .ok (.ifCond .ne 19, 3) := by decide +kernel
theorem dX0_takeNumber_61 : decode cX0_takeNumber 61 = .ok (.iload 4, 2) := by decide +kernel
theorem dX0_takeNumber_63 : decode cX0_takeNumber 63 = .ok (.ifCond .ne 14, 3) := by decide +kernel
theorem dX0_takeNumber_66 : decode cX0_takeNumber 66 = .ok (.aload_n 0, 1) := by decide +kernel
theorem dX0_takeNumber_67 : decode cX0_takeNumber 67 = .ok (.getfield 15, 3) := by decide +kernel
theorem dX0_takeNumber_70 : decode cX0_takeNumber 70 = .ok (.iload_n 1, 1) := by decide +kernel
theorem dX0_takeNumber_71 : decode cX0_takeNumber 71 = .ok (.lload_n 2, 1) := by decide +kernel
theorem dX0_takeNumber_72 : decode cX0_takeNumber 72 = .ok (.ldc2_w 37, 3) := by decide +kernel
theorem dX0_takeNumber_75 : decode cX0_takeNumber 75 = .ok (.land, 1) := by decide +kernel
theorem dX0_takeNumber_76 : decode cX0_takeNumber 76 = .ok (.lastore, 1) := by decide +kernel
theorem dX0_takeNumber_77 : decode cX0_takeNumber 77 = .ok (.return_, 1) := by decide +kernel
theorem dX0_fixesNumberBefore_0 : decode cX0_fixesNumberBefore 0 = .ok (.iload_n 0, 1) := by decide +kernel
theorem dX0_fixesNumberBefore_1 : decode cX0_fixesNumberBefore 1 = .ok (.invokestatic 19, 3) := by decide +kernel
theorem dX0_fixesNumberBefore_4 : decode cX0_fixesNumberBefore 4 = .ok (.ifCond .eq 15, 3) := by decide +kernel
theorem dX0_fixesNumberBefore_7 : decode cX0_fixesNumberBefore 7 = .ok (.iload_n 0, 1) := by decide +kernel
theorem dX0_fixesNumberBefore_8 : decode cX0_fixesNumberBefore 8 = .ok (.invokestatic 51, 3) := by decide +kernel
theorem dX0_fixesNumberBefore_11 : decode cX0_fixesNumberBefore 11 = .ok (.iconst 1, 1) := by decide +kernel
theorem dX0_fixesNumberBefore_12 : decode cX0_fixesNumberBefore 12 = .ok (.if_icmp .ne 7, 3) := by decide +kernel
theorem dX0_fixesNumberBefore_15 : decode cX0_fixesNumberBefore 15 = .ok (.iconst 1, 1) := by decide +kernel
theorem dX0_fixesNumberBefore_16 : decode cX0_fixesNumberBefore 16 = .ok (.goto 4, 3) := by decide +kernel
theorem dX0_fixesNumberBefore_19 : decode cX0_fixesNumberBefore 19 = .ok (.iconst 0, 1) := by decide +kernel
theorem dX0_fixesNumberBefore_20 : decode cX0_fixesNumberBefore 20 = .ok (.ireturn, 1) := by decide +kernel
theorem dX0_kindOf_0 : decode cX0_kindOf 0 = .ok (.iload_n 0, 1) := by decide +kernel
theorem dX0_kindOf_1 : decode cX0_kindOf 1 = .ok (.iconst 3, 1) := by decide +kernel
theorem dX0_kindOf_2 : decode cX0_kindOf 2 = .ok (.ishr, 1) := by decide +kernel
theorem dX0_kindOf_3 : decode cX0_kindOf 3 = .ok (.iconst 3, 1) := by decide +kernel
theorem dX0_kindOf_4 : decode cX0_kindOf 4 = .ok (.iand, 1) := by decide +kernel
theorem dX0_kindOf_5 : decode cX0_kindOf 5 = .ok (.ireturn, 1) := by decide +kernel
theorem dL_find_0 : decode cL_find 0 = .ok (.aload 6, 2) := by decide +kernel
theorem dL_find_2 : decode cL_find 2 = .ok (.iconst 0, 1) := by decide +kernel
theorem dL_find_3 : decode cL_find 3 = .ok (.aload_n 0, 1) := by decide +kernel
theorem dL_find_4 : decode cL_find 4 = .ok (.lload_n 1, 1) := by decide +kernel
theorem dL_find_5 : decode cL_find 5 = .ok (.iload_n 3, 1) := by decide +kernel
theorem dL_find_6 : decode cL_find 6 = .ok (.iload 4, 2) := by decide +kernel
theorem dL_find_8 : decode cL_find 8 = .ok (.iload 5, 2) := by decide +kernel
theorem dL_find_10 : decode cL_find 10 = .ok (.invokevirtual 33, 3) := by decide +kernel
theorem dL_find_13 : decode cL_find 13 = .ok (.lastore, 1) := by decide +kernel
theorem dL_find_14 : decode cL_find 14 = .ok (.goto 7, 3) := by decide +kernel
theorem dL_find_17 : decode cL_find 17 = .ok (.astore 7, 2) := by decide +kernel
theorem dL_find_19 : decode cL_find 19 = .ok (.iconst 1, 1) := by decide +kernel
theorem dL_find_20 : decode cL_find 20 = .ok (.ireturn, 1) := by decide +kernel
theorem dL_find_21 : decode cL_find 21 = .ok (.iconst 0, 1) := by decide +kernel
theorem dL_find_22 : decode cL_find 22 = .ok (.ireturn, 1) := by decide +kernel
theorem dX1_find_0 : decode cX1_find 0 = .ok (.lload_n 1, 1) := by decide +kernel
theorem dX1_find_1 : decode cX1_find 1 = .ok (.iload_n 3, 1) := by decide +kernel
theorem dX1_find_2 : decode cX1_find 2 = .ok (.iload 4, 2) := by decide +kernel
theorem dX1_find_4 : decode cX1_find 4 = .ok (.iload 5, 2) := by decide +kernel
theorem dX1_find_6 : decode cX1_find 6 = .ok (.invokestatic 66, 3) := by decide +kernel
theorem dX1_find_9 : decode cX1_find 9 = .ok (.ifCond .ne 13, 3) := by decide +kernel
theorem dX1_find_12 : decode cX1_find 12 = .ok (.new 45, 3) := by decide +kernel
theorem dX1_find_15 : decode cX1_find 15 = .ok (.dup, 1) := by decide +kernel
theorem dX1_find_16 : decode cX1_find 16 = .ok (.ldc 70, 2) := by decide +kernel
theorem dX1_find_18 : decode cX1_find 18 = .ok (.invokespecial 49, 3) := by decide +kernel
theorem dX1_find_21 : decode cX1_find 21 = .ok (.athrow, 1) := by decide +kernel
theorem dX1_find_22 : decode cX1_find 22 = .ok (.aload_n 0, 1) := by decide +kernel
theorem dX1_find_23 : decode cX1_find 23 = .ok (.lload_n 1, 1) := by decide +kernel
theorem dX1_find_24 : decode cX1_find 24 = .ok (.iload_n 3, 1) := by decide +kernel
theorem dX1_find_25 : decode cX1_find 25 = .ok (.iload 4, 2) := by decide +kernel
theorem dX1_find_27 : decode cX1_find 27 = .ok (.invokevirtual 72, 3) := by decide +kernel
theorem dX1_find_30 : decode cX1_find 30 = .ok (.lstore 6, 2) := by decide +kernel
theorem dX1_find_32 : decode cX1_find 32 = .ok (.lload 6, 2) := by decide +kernel
theorem dX1_find_34 : decode cX1_find 34 = .ok (.lconst 0, 1) := by decide +kernel
theorem dX1_find_35 : decode cX1_find 35 = .ok (.lcmp, 1) := by decide +kernel
theorem dX1_find_36 : decode cX1_find 36 = .ok (.ifCond .ge 6, 3) := by decide +kernel
theorem dX1_find_39 : decode cX1_find 39 = .ok (.lload 6, 2) := by decide +kernel
theorem dX1_find_41 : decode cX1_find 41 = .ok (.lreturn, 1) := by decide +kernel
theorem dX1_find_42 : decode cX1_find 42 = .ok (.aload_n 0, 1) := by decide +kernel
theorem dX1_find_43 : decode cX1_find 43 = .ok (.getfield 16, 3) := by decide +kernel
theorem dX1_find_46 : decode cX1_find 46 = .ok (.lload 6, 2) := by decide +kernel
theorem dX1_find_48 : decode cX1_find 48 = .ok (.iload_n 3, 1) := by decide +kernel
theorem dX1_find_49 : decode cX1_find 49 = .ok (.iload 4, 2) := by decide +kernel
theorem dX1_find_51 : decode cX1_find 51 = .ok (.iload 5, 2) := by decide +kernel
theorem dX1_find_53 : decode cX1_find 53 = .ok (.invokevirtual 76, 3) := by decide +kernel
theorem dX1_find_56 : decode cX1_find 56 = .ok (.ifCond .eq 8, 3) := by decide +kernel
theorem dX1_find_59 : decode cX1_find 59 = .ok (.lload 6, 2) := by decide +kernel
theorem dX1_find_61 : decode cX1_find 61 = .ok (.goto 7, 3) := by decide +kernel
theorem dX1_find_64 : decode cX1_find 64 = .ok (.iload_n 3, 1) := by decide +kernel
theorem dX1_find_65 : decode cX1_find 65 = .ok (.invokestatic 79, 3) := by decide +kernel
theorem dX1_find_68 : decode cX1_find 68 = .ok (.lreturn, 1) := by decide +kernel
theorem dX1_isAccess_0 : decode cX1_isAccess 0 = .ok (.iload_n 2, 1) := by decide +kernel
theorem dX1_isAccess_1 : decode cX1_isAccess 1 = .ok (.ifCond .eq 13, 3) := by decide +kernel
theorem dX1_isAccess_4 : decode cX1_isAccess 4 = .ok (.iload_n 2, 1) := by decide +kernel
theorem dX1_isAccess_5 : decode cX1_isAccess 5 = .ok (.iconst 1, 1) := by decide +kernel
theorem dX1_isAccess_6 : decode cX1_isAccess 6 = .ok (.if_icmp .eq 8, 3) := by decide +kernel
theorem dX1_isAccess_9 : decode cX1_isAccess 9 = .ok (.iload_n 2, 1) := by decide +kernel
theorem dX1_isAccess_10 : decode cX1_isAccess 10 = .ok (.iconst 2, 1) := by decide +kernel
theorem dX1_isAccess_11 : decode cX1_isAccess 11 = .ok (.if_icmp .ne 62, 3) := by decide +kernel
theorem dX1_isAccess_14 : decode cX1_isAccess 14 = .ok (.iload_n 3, 1) := by decide +kernel
theorem dX1_isAccess_15 : decode cX1_isAccess 15 = .ok (.ifCond .eq 13, 3) := by decide +kernel
theorem dX1_isAccess_18 : decode cX1_isAccess 18 = .ok (.iload_n 3, 1) := by decide +kernel
theorem dX1_isAccess_19 : decode cX1_isAccess 19 = .ok (.iconst 1, 1) := by decide +kernel
theorem dX1_isAccess_20 : decode cX1_isAccess 20 = .ok (.if_icmp .eq 8, 3) := by decide +kernel
theorem dX1_isAccess_23 : decode cX1_isAccess 23 = .ok (.iload_n 3, 1) := by decide +kernel
theorem dX1_isAccess_24 : decode cX1_isAccess 24 = .ok (.iconst 3, 1) := by decide +kernel
theorem dX1_isAccess_25 : decode cX1_isAccess 25 = .ok (.if_icmp .ne 48, 3) := by decide +kernel
theorem dX1_isAccess_28 : decode cX1_isAccess 28 = .ok (.iload 4, 2) := by decide +kernel
theorem dX1_isAccess_30 : decode cX1_isAccess 30 = .ok (.iconst 1, 1) := by decide +kernel
theorem dX1_isAccess_31 : decode cX1_isAccess 31 = .ok (.if_icmp .eq 22, 3) := by decide +kernel
theorem dX1_isAccess_34 : decode cX1_isAccess 34 = .ok (.iload 4, 2) := by decide +kernel
theorem dX1_isAccess_36 : decode cX1_isAccess 36 = .ok (.iconst 2, 1) := by decide +kernel
theorem dX1_isAccess_37 : decode cX1_isAccess 37 = .ok (.if_icmp .eq 16, 3) := by decide +kernel
theorem dX1_isAccess_40 : decode cX1_isAccess 40 = .ok (.iload 4, 2) := by decide +kernel
theorem dX1_isAccess_42 : decode cX1_isAccess 42 = .ok (.iconst 4, 1) := by decide +kernel
theorem dX1_isAccess_43 : decode cX1_isAccess 43 = .ok (.if_icmp .eq 10, 3) := by decide +kernel
theorem dX1_isAccess_46 : decode cX1_isAccess 46 = .ok (.iload 4, 2) := by decide +kernel
theorem dX1_isAccess_48 : decode cX1_isAccess 48 = .ok (.bipush 8, 2) := by decide +kernel
theorem dX1_isAccess_50 : decode cX1_isAccess 50 = .ok (.if_icmp .ne 23, 3) := by decide +kernel
theorem dX1_isAccess_53 : decode cX1_isAccess 53 = .ok (.lload_n 0, 1) := by decide +kernel
theorem dX1_isAccess_54 : decode cX1_isAccess 54 = .ok (.ldc2_w 88, 3) := by decide +kernel
theorem dX1_isAccess_57 : decode cX1_isAccess 57 = .ok (.land, 1) := by decide +kernel
theorem dX1_isAccess_58 : decode cX1_isAccess 58 = .ok (.iload 4, 2) := by decide +kernel
theorem dX1_isAccess_60 : decode cX1_isAccess 60 = .ok (.i2l, 1) := by decide +kernel
theorem dX1_isAccess_61 : decode cX1_isAccess 61 = .ok (.ladd, 1) := by decide +kernel
theorem dX1_isAccess_62 : decode cX1_isAccess 62 = .ok (.ldc2_w 90, 3) := by decide +kernel
theorem dX1_isAccess_65 : decode cX1_isAccess 65 = .ok (.lcmp, 1) := by decide +kernel
theorem dX1_isAccess_66 : decode cX1_isAccess 66 = .ok (.ifCond .gt 7, 3) := by decide +kernel
theorem dX1_isAccess_69 : decode cX1_isAccess 69 = .ok (.iconst 1, 1) := by decide +kernel
theorem dX1_isAccess_70 : decode cX1_isAccess 70 = .ok (.goto 4, 3) := by decide +kernel
theorem dX1_isAccess_73 : decode cX1_isAccess 73 = .ok (.iconst 0, 1) := by decide +kernel
theorem dX1_isAccess_74 : decode cX1_isAccess 74 = .ok (.ireturn, 1) := by decide +kernel
theorem dX1_translate_0 : decode cX1_translate 0 = .ok (.aload_n 0, 1) := by decide +kernel
theorem dX1_translate_1 : decode cX1_translate 1 = .ok (.getfield 20, 3) := by decide +kernel
theorem dX1_translate_4 : decode cX1_translate 4 = .ok (.invokestatic 42, 3) := by decide +kernel
theorem dX1_translate_7 : decode cX1_translate 7 = .ok (.istore 5, 2) := by decide +kernel
theorem dX1_translate_9 : decode cX1_translate 9 = .ok (.iload 4, 2) := by decide +kernel
theorem dX1_translate_11 : decode cX1_translate 11 = .ok (.iconst 3, 1) := by decide +kernel
theorem dX1_translate_12 : decode cX1_translate 12 = .ok (.if_icmp .eq 8, 3) := by decide +kernel
theorem dX1_translate_15 : decode cX1_translate 15 = .ok (.iload 5, 2) := by decide +kernel
theorem dX1_translate_17 : decode cX1_translate 17 = .ok (.ifCond .ne 19, 3) := by decide +kernel
theorem dX1_translate_20 : decode cX1_translate 20 = .ok (.lload_n 1, 1) := by decide +kernel
theorem dX1_translate_21 : decode cX1_translate 21 = .ok (.invokestatic 82, 3) := by decide +kernel
theorem dX1_translate_24 : decode cX1_translate 24 = .ok (.ifCond .eq 7, 3) := by decide +kernel
theorem dX1_translate_27 : decode cX1_translate 27 = .ok (.lload_n 1, 1) := by decide +kernel
theorem dX1_translate_28 : decode cX1_translate 28 = .ok (.goto 7, 3) := by decide +kernel
theorem dX1_translate_31 : decode cX1_translate 31 = .ok (.iload_n 3, 1) := by decide +kernel
theorem dX1_translate_32 : decode cX1_translate 32 = .ok (.invokestatic 79, 3) := by decide +kernel
theorem dX1_translate_35 : decode cX1_translate 35 = .ok (.lreturn, 1) := by decide +kernel
theorem dX1_translate_36 : decode cX1_translate 36 = .ok (.iload 5, 2) := by decide +kernel
theorem dX1_translate_38 : decode cX1_translate 38 = .ok (.bipush 8, 2) := by decide +kernel
theorem dX1_translate_40 : decode cX1_translate 40 = .ok (.if_icmp .ne 7, 3) := by decide +kernel
theorem dX1_translate_43 : decode cX1_translate 43 = .ok (.iconst 3, 1) := by decide +kernel
theorem dX1_translate_44 : decode cX1_translate 44 = .ok (.goto 4, 3) := by decide +kernel
theorem dX1_translate_47 : decode cX1_translate 47 = .ok (.iconst 4, 1) := by decide +kernel
theorem dX1_translate_48 : decode cX1_translate 48 = .ok (.istore 6, 2) := by decide +kernel
theorem dX1_translate_50 : decode cX1_translate 50 = .ok (.lload_n 1, 1) := by decide +kernel
theorem dX1_translate_51 : decode cX1_translate 51 = .ok (.bipush 12, 2) := by decide +kernel
theorem dX1_translate_53 : decode cX1_translate 53 = .ok (.bipush 9, 2) := by decide +kernel
theorem dX1_translate_55 : decode cX1_translate 55 = .ok (.iload 6, 2) := by decide +kernel
theorem dX1_translate_57 : decode cX1_translate 57 = .ok (.imul, 1) := by decide +kernel
theorem dX1_translate_58 : decode cX1_translate 58 = .ok (.iadd, 1) := by decide +kernel
theorem dX1_translate_59 : decode cX1_translate 59 = .ok (.iconst 1, 1) := by decide +kernel
theorem dX1_translate_60 : decode cX1_translate 60 = .ok (.isub, 1) := by decide +kernel
theorem dX1_translate_61 : decode cX1_translate 61 = .ok (.lshr, 1) := by decide +kernel
theorem dX1_translate_62 : decode cX1_translate 62 = .ok (.lstore 7, 2) := by decide +kernel
theorem dX1_translate_64 : decode cX1_translate 64 = .ok (.lload 7, 2) := by decide +kernel
theorem dX1_translate_66 : decode cX1_translate 66 = .ok (.lconst 0, 1) := by decide +kernel
theorem dX1_translate_67 : decode cX1_translate 67 = .ok (.lcmp, 1) := by decide +kernel
theorem dX1_translate_68 : decode cX1_translate 68 = .ok (.ifCond .eq 17, 3) := by decide +kernel
theorem dX1_translate_71 : decode cX1_translate 71 = .ok (.lload 7, 2) := by decide +kernel
theorem dX1_translate_73 : decode cX1_translate 73 = .ok (.ldc2_w 92, 3) := by decide +kernel
theorem dX1_translate_76 : decode cX1_translate 76 = .ok (.lcmp, 1) := by decide +kernel
theorem dX1_translate_77 : decode cX1_translate 77 = .ok (.ifCond .eq 8, 3) := by decide +kernel
theorem dX1_translate_80 : decode cX1_translate 80 = .ok (.iload_n 3, 1) := by decide +kernel
theorem dX1_translate_81 : decode cX1_translate 81 = .ok (.invokestatic 110, 3) := by decide +kernel
theorem dX1_translate_84 : decode cX1_translate 84 = .ok (.lreturn, 1) := by decide +kernel
theorem dX1_translate_85 : decode cX1_translate 85 = .ok (.aload_n 0, 1) := by decide +kernel
theorem dX1_translate_86 : decode cX1_translate 86 = .ok (.lload_n 1, 1) := by decide +kernel
theorem dX1_translate_87 : decode cX1_translate 87 = .ok (.iload_n 3, 1) := by decide +kernel
theorem dX1_translate_88 : decode cX1_translate 88 = .ok (.iload 4, 2) := by decide +kernel
theorem dX1_translate_90 : decode cX1_translate 90 = .ok (.iload 6, 2) := by decide +kernel
theorem dX1_translate_92 : decode cX1_translate 92 = .ok (.invokevirtual 113, 3) := by decide +kernel
theorem dX1_translate_95 : decode cX1_translate 95 = .ok (.lreturn, 1) := by decide +kernel
theorem dX1_isPhysical_0 : decode cX1_isPhysical 0 = .ok (.lload_n 0, 1) := by decide +kernel
theorem dX1_isPhysical_1 : decode cX1_isPhysical 1 = .ok (.bipush 56, 2) := by decide +kernel
theorem dX1_isPhysical_3 : decode cX1_isPhysical 3 = .ok (.lushr, 1) := by decide +kernel
theorem dX1_isPhysical_4 : decode cX1_isPhysical 4 = .ok (.lconst 0, 1) := by decide +kernel
theorem dX1_isPhysical_5 : decode cX1_isPhysical 5 = .ok (.lcmp, 1) := by decide +kernel
theorem dX1_isPhysical_6 : decode cX1_isPhysical 6 = .ok (.ifCond .ne 7, 3) := by decide +kernel
theorem dX1_isPhysical_9 : decode cX1_isPhysical 9 = .ok (.iconst 1, 1) := by decide +kernel
theorem dX1_isPhysical_10 : decode cX1_isPhysical 10 = .ok (.goto 4, 3) := by decide +kernel
theorem dX1_isPhysical_13 : decode cX1_isPhysical 13 = .ok (.iconst 0, 1) := by decide +kernel
theorem dX1_isPhysical_14 : decode cX1_isPhysical 14 = .ok (.ireturn, 1) := by decide +kernel
theorem dX1_accessFault_0 : decode cX1_accessFault 0 = .ok (.iload_n 0, 1) := by decide +kernel
theorem dX1_accessFault_1 : decode cX1_accessFault 1 = .ok (.ifCond .ne 9, 3) := by decide +kernel
theorem dX1_accessFault_4 : decode cX1_accessFault 4 = .ok (.ldc2_w 92, 3) := by decide +kernel
theorem dX1_accessFault_7 : decode cX1_accessFault 7 = .ok (.goto 17, 3) := by decide +kernel
theorem dX1_accessFault_10 : decode cX1_accessFault 10 = .ok (.iload_n 0, 1) := by decide +kernel
theorem dX1_accessFault_11 : decode cX1_accessFault 11 = .ok (.iconst 1, 1) := by decide +kernel
theorem dX1_accessFault_12 : decode cX1_accessFault 12 = .ok (.if_icmp .ne 9, 3) := by decide +kernel
theorem dX1_accessFault_15 : decode cX1_accessFault 15 = .ok (.ldc2_w 94, 3) := by decide +kernel
theorem dX1_accessFault_18 : decode cX1_accessFault 18 = .ok (.goto 6, 3) := by decide +kernel
theorem dX1_accessFault_21 : decode cX1_accessFault 21 = .ok (.ldc2_w 96, 3) := by decide +kernel
theorem dX1_accessFault_24 : decode cX1_accessFault 24 = .ok (.lreturn, 1) := by decide +kernel
theorem dX1_pageFault_0 : decode cX1_pageFault 0 = .ok (.iload_n 0, 1) := by decide +kernel
theorem dX1_pageFault_1 : decode cX1_pageFault 1 = .ok (.ifCond .ne 9, 3) := by decide +kernel
theorem dX1_pageFault_4 : decode cX1_pageFault 4 = .ok (.ldc2_w 98, 3) := by decide +kernel
theorem dX1_pageFault_7 : decode cX1_pageFault 7 = .ok (.goto 17, 3) := by decide +kernel
theorem dX1_pageFault_10 : decode cX1_pageFault 10 = .ok (.iload_n 0, 1) := by decide +kernel
theorem dX1_pageFault_11 : decode cX1_pageFault 11 = .ok (.iconst 1, 1) := by decide +kernel
theorem dX1_pageFault_12 : decode cX1_pageFault 12 = .ok (.if_icmp .ne 9, 3) := by decide +kernel
theorem dX1_pageFault_15 : decode cX1_pageFault 15 = .ok (.ldc2_w 100, 3) := by decide +kernel
theorem dX1_pageFault_18 : decode cX1_pageFault 18 = .ok (.goto 6, 3) := by decide +kernel
theorem dX1_pageFault_21 : decode cX1_pageFault 21 = .ok (.ldc2_w 102, 3) := by decide +kernel
theorem dX1_pageFault_24 : decode cX1_pageFault 24 = .ok (.lreturn, 1) := by decide +kernel
theorem dX1_walk_0 : decode cX1_walk 0 = .ok (.aload_n 0, 1) := by decide +kernel
theorem dX1_walk_1 : decode cX1_walk 1 = .ok (.getfield 20, 3) := by decide +kernel
theorem dX1_walk_4 : decode cX1_walk 4 = .ok (.ldc2_w 117, 3) := by decide +kernel
theorem dX1_walk_7 : decode cX1_walk 7 = .ok (.land, 1) := by decide +kernel
theorem dX1_walk_8 : decode cX1_walk 8 = .ok (.lstore 6, 2) := by decide +kernel
theorem dX1_walk_10 : decode cX1_walk 10 = .ok (.iload 5, 2) := by decide +kernel
theorem dX1_walk_12 : decode cX1_walk 12 = .ok (.iconst 1, 1) := by decide +kernel
theorem dX1_walk_13 : decode cX1_walk 13 = .ok (.isub, 1) := by decide +kernel
theorem dX1_walk_14 : decode cX1_walk 14 = .ok (.istore 8, 2) := by decide +kernel
theorem dX1_walk_16 : decode cX1_walk 16 = .ok (.iload 8, 2) := by decide +kernel
theorem dX1_walk_18 : decode cX1_walk 18 = .ok (.ifCond .lt 132, 3) := by decide +kernel
theorem dX1_walk_21 : decode cX1_walk 21 = .ok (.lload 6, 2) := by decide +kernel
theorem dX1_walk_23 : decode cX1_walk 23 = .ok (.lload_n 1, 1) := by decide +kernel
theorem dX1_walk_24 : decode cX1_walk 24 = .ok (.iload 8, 2) := by decide +kernel
theorem dX1_walk_26 : decode cX1_walk 26 = .ok (.invokestatic 119, 3) := by decide +kernel
theorem dX1_walk_29 : decode cX1_walk 29 = .ok (.lstore 9, 2) := by decide +kernel
theorem dX1_walk_31 : decode cX1_walk 31 = .ok (.lload 9, 2) := by decide +kernel
theorem dX1_walk_33 : decode cX1_walk 33 = .ok (.invokestatic 31, 3) := by decide +kernel
theorem dX1_walk_36 : decode cX1_walk 36 = .ok (.iconst (-1), 1) := by decide +kernel
theorem dX1_walk_37 : decode cX1_walk 37 = .ok (.if_icmp .eq 19, 3) := by decide +kernel
theorem dX1_walk_40 : decode cX1_walk 40 = .ok (.aload_n 0, 1) := by decide +kernel
theorem dX1_walk_41 : decode cX1_walk 41 = .ok (.getfield 16, 3) := by decide +kernel
theorem dX1_walk_44 : decode cX1_walk 44 = .ok (.lload 9, 2) := by decide +kernel
theorem dX1_walk_46 : decode cX1_walk 46 = .ok (.iconst 1, 1) := by decide +kernel
theorem dX1_walk_47 : decode cX1_walk 47 = .ok (.iconst 1, 1) := by decide +kernel
theorem dX1_walk_48 : decode cX1_walk 48 = .ok (.bipush 8, 2) := by decide +kernel
theorem dX1_walk_50 : decode cX1_walk 50 = .ok (.invokevirtual 76, 3) := by decide +kernel
theorem dX1_walk_53 : decode cX1_walk 53 = .ok (.ifCond .ne 8, 3) := by decide +kernel
theorem dX1_walk_56 : decode cX1_walk 56 = .ok (.iload_n 3, 1) := by decide +kernel
theorem dX1_walk_57 : decode cX1_walk 57 = .ok (.invokestatic 79, 3) := by decide +kernel
theorem dX1_walk_60 : decode cX1_walk 60 = .ok (.lreturn, 1) := by decide +kernel
theorem dX1_walk_61 : decode cX1_walk 61 = .ok (.aload_n 0, 1) := by decide +kernel
theorem dX1_walk_62 : decode cX1_walk 62 = .ok (.lload 9, 2) := by decide +kernel
theorem dX1_walk_64 : decode cX1_walk 64 = .ok (.invokevirtual 123, 3) := by decide +kernel
theorem dX1_walk_67 : decode cX1_walk 67 = .ok (.lstore 11, 2) := by decide +kernel
theorem dX1_walk_69 : decode cX1_walk 69 = .ok (.lload 11, 2) := by decide +kernel
theorem dX1_walk_71 : decode cX1_walk 71 = .ok (.invokestatic 127, 3) := by decide +kernel
theorem dX1_walk_74 : decode cX1_walk 74 = .ok (.ifCond .eq 8, 3) := by decide +kernel
theorem dX1_walk_77 : decode cX1_walk 77 = .ok (.iload_n 3, 1) := by decide +kernel
theorem dX1_walk_78 : decode cX1_walk 78 = .ok (.invokestatic 110, 3) := by decide +kernel
theorem dX1_walk_81 : decode cX1_walk 81 = .ok (.lreturn, 1) := by decide +kernel
theorem dX1_walk_82 : decode cX1_walk 82 = .ok (.lload 11, 2) := by decide +kernel
theorem dX1_walk_84 : decode cX1_walk 84 = .ok (.invokestatic 130, 3) := by decide +kernel
theorem dX1_walk_87 : decode cX1_walk 87 = .ok (.ifCond .eq 50, 3) := by decide +kernel
theorem dX1_walk_90 : decode cX1_walk 90 = .ok (.aload_n 0, 1) := by decide +kernel
theorem dX1_walk_91 : decode cX1_walk 91 = .ok (.lload 11, 2) := by decide +kernel
theorem dX1_walk_93 : decode cX1_walk 93 = .ok (.iload_n 3, 1) := by decide +kernel
theorem dX1_walk_94 : decode cX1_walk 94 = .ok (.iload 4, 2) := by decide +kernel
theorem dX1_walk_96 : decode cX1_walk 96 = .ok (.iload 8, 2) := by decide +kernel
theorem dX1_walk_98 : decode cX1_walk 98 = .ok (.invokevirtual 133, 3) := by decide +kernel
theorem dX1_walk_101 : decode cX1_walk 101 = .ok (.ifCond .ne 8, 3) := by decide +kernel
theorem dX1_walk_104 : decode cX1_walk 104 = .ok (.iload_n 3, 1) := by decide +kernel
theorem dX1_walk_105 : decode cX1_walk 105 = .ok (.invokestatic 110, 3) := by decide +kernel
theorem dX1_walk_108 : decode cX1_walk 108 = .ok (.lreturn, 1) := by decide +kernel
theorem dX1_walk_109 : decode cX1_walk 109 = .ok (.aload_n 0, 1) := by decide +kernel
theorem dX1_walk_110 : decode cX1_walk 110 = .ok (.lload 9, 2) := by decide +kernel
theorem dX1_walk_112 : decode cX1_walk 112 = .ok (.lload 11, 2) := by decide +kernel
theorem dX1_walk_114 : decode cX1_walk 114 = .ok (.iload_n 3, 1) := by decide +kernel
theorem dX1_walk_115 : decode cX1_walk 115 = .ok (.invokevirtual 136, 3) := by decide +kernel
theorem dX1_walk_118 : decode cX1_walk 118 = .ok (.ifCond .eq 14, 3) := by decide +kernel
theorem dX1_walk_121 : decode cX1_walk 121 = .ok (.lload 11, 2) := by decide +kernel
theorem dX1_walk_123 : decode cX1_walk 123 = .ok (.lload_n 1, 1) := by decide +kernel
theorem dX1_walk_124 : decode cX1_walk 124 = .ok (.iload 8, 2) := by decide +kernel
theorem dX1_walk_126 : decode cX1_walk 126 = .ok (.invokestatic 140, 3) := by decide +kernel
theorem dX1_walk_129 : decode cX1_walk 129 = .ok (.goto 7, 3) := by decide +kernel
theorem dX1_walk_132 : decode cX1_walk 132 = .ok (.iload_n 3, 1) := by decide +kernel
theorem dX1_walk_133 : decode cX1_walk 133 = .ok (.invokestatic 79, 3) := by decide +kernel
theorem dX1_walk_136 : decode cX1_walk 136 = .ok (.lreturn, 1) := by decide +kernel
theorem dX1_walk_137 : decode cX1_walk 137 = .ok (.lload 11, 2) := by decide +kernel
theorem dX1_walk_139 : decode cX1_walk 139 = .ok (.invokestatic 143, 3) := by decide +kernel
theorem dX1_walk_142 : decode cX1_walk 142 = .ok (.lstore 6, 2) := by decide +kernel
theorem dX1_walk_144 : decode cX1_walk 144 = .ok (.iinc 8 (-1), 3) := by decide +kernel
theorem dX1_walk_147 : decode cX1_walk 147 = .ok (.goto (-131), 3) := by decide +kernel
theorem dX1_walk_150 : decode cX1_walk 150 = .ok (.iload_n 3, 1) := by decide +kernel
theorem dX1_walk_151 : decode cX1_walk 151 = .ok (.invokestatic 110, 3) := by decide +kernel
theorem dX1_walk_154 : decode cX1_walk 154 = .ok (.lreturn, 1) := by decide +kernel
theorem dX1_entryPlace_0 : decode cX1_entryPlace 0 = .ok (.lload_n 2, 1) := by decide +kernel
theorem dX1_entryPlace_1 : decode cX1_entryPlace 1 = .ok (.iload 4, 2) := by decide +kernel
theorem dX1_entryPlace_3 : decode cX1_entryPlace 3 = .ok (.invokestatic 146, 3) := by decide +kernel
theorem dX1_entryPlace_6 : decode cX1_entryPlace 6 = .ok (.lshr, 1) := by decide +kernel
theorem dX1_entryPlace_7 : decode cX1_entryPlace 7 = .ok (.ldc2_w 150, 3) := by decide +kernel
theorem dX1_entryPlace_10 : decode cX1_entryPlace 10 = .ok (.land, 1) := by decide +kernel
theorem dX1_entryPlace_11 : decode cX1_entryPlace 11 = .ok (.lstore 5, 2) := by decide +kernel
theorem dX1_entryPlace_13 : decode cX1_entryPlace 13 = .ok (.lload_n 0, 1) := by decide +kernel
theorem dX1_entryPlace_14 : decode cX1_entryPlace 14 = .ok (.ldc2_w 90, 3) := by decide +kernel
theorem dX1_entryPlace_17 : decode cX1_entryPlace 17 = .ok (.lmul, 1) := by decide +kernel
theorem dX1_entryPlace_18 : decode cX1_entryPlace 18 = .ok (.lload 5, 2) := by decide +kernel
theorem dX1_entryPlace_20 : decode cX1_entryPlace 20 = .ok (.ldc2_w 108, 3) := by decide +kernel
theorem dX1_entryPlace_23 : decode cX1_entryPlace 23 = .ok (.lmul, 1) := by decide +kernel
theorem dX1_entryPlace_24 : decode cX1_entryPlace 24 = .ok (.ladd, 1) := by decide +kernel
theorem dX1_entryPlace_25 : decode cX1_entryPlace 25 = .ok (.lreturn, 1) := by decide +kernel
theorem dX1_shiftOf_0 : decode cX1_shiftOf 0 = .ok (.bipush 12, 2) := by decide +kernel
theorem dX1_shiftOf_2 : decode cX1_shiftOf 2 = .ok (.bipush 9, 2) := by decide +kernel
theorem dX1_shiftOf_4 : decode cX1_shiftOf 4 = .ok (.iload_n 0, 1) := by decide +kernel
theorem dX1_shiftOf_5 : decode cX1_shiftOf 5 = .ok (.imul, 1) := by decide +kernel
theorem dX1_shiftOf_6 : decode cX1_shiftOf 6 = .ok (.iadd, 1) := by decide +kernel
theorem dX1_shiftOf_7 : decode cX1_shiftOf 7 = .ok (.ireturn, 1) := by decide +kernel
theorem dX0_letThrough_0 : decode cX0_letThrough 0 = .ok (.lload_n 1, 1) := by decide +kernel
theorem dX0_letThrough_1 : decode cX0_letThrough 1 = .ok (.iload 5, 2) := by decide +kernel
theorem dX0_letThrough_3 : decode cX0_letThrough 3 = .ok (.i2l, 1) := by decide +kernel
theorem dX0_letThrough_4 : decode cX0_letThrough 4 = .ok (.ladd, 1) := by decide +kernel
theorem dX0_letThrough_5 : decode cX0_letThrough 5 = .ok (.lstore 6, 2) := by decide +kernel
theorem dX0_letThrough_7 : decode cX0_letThrough 7 = .ok (.lconst 0, 1) := by decide +kernel
theorem dX0_letThrough_8 : decode cX0_letThrough 8 = .ok (.lstore 8, 2) := by decide +kernel
theorem dX0_letThrough_10 : decode cX0_letThrough 10 = .ok (.iconst 0, 1) := by decide +kernel
theorem dX0_letThrough_11 : decode cX0_letThrough 11 = .ok (.istore 10, 2) := by decide +kernel
theorem dX0_letThrough_13 : decode cX0_letThrough 13 = .ok (.iload 10, 2) := by decide +kernel
theorem dX0_letThrough_15 : decode cX0_letThrough 15 = .ok (.bipush 8, 2) := by decide +kernel
theorem dX0_letThrough_17 : decode cX0_letThrough 17 = .ok (.if_icmp .ge 106, 3) := by decide +kernel
theorem dX0_letThrough_20 : decode cX0_letThrough 20 = .ok (.aload_n 0, 1) := by decide +kernel
theorem dX0_letThrough_21 : decode cX0_letThrough 21 = .ok (.getfield 11, 3) := by decide +kernel
theorem dX0_letThrough_24 : decode cX0_letThrough 24 = .ok (.iload 10, 2) := by decide +kernel
theorem dX0_letThrough_26 : decode cX0_letThrough 26 = .ok (.iaload, 1) := by decide +kernel
theorem dX0_letThrough_27 : decode cX0_letThrough 27 = .ok (.istore 11, 2) := by decide +kernel
theorem dX0_letThrough_29 : decode cX0_letThrough 29 = .ok (.aload_n 0, 1) := by decide +kernel
theorem dX0_letThrough_30 : decode cX0_letThrough 30 = .ok (.getfield 15, 3) := by decide +kernel
theorem dX0_letThrough_33 : decode cX0_letThrough 33 = .ok (.iload 10, 2) := by decide +kernel
theorem dX0_letThrough_35 : decode cX0_letThrough 35 = .ok (.laload, 1) := by decide +kernel
theorem dX0_letThrough_36 : decode cX0_letThrough 36 = .ok (.lstore 12, 2) := by decide +kernel
theorem dX0_letThrough_38 : decode cX0_letThrough 38 = .ok (.iload 11, 2) := by decide +kernel
theorem dX0_letThrough_40 : decode cX0_letThrough 40 = .ok (.lload 12, 2) := by decide +kernel
theorem dX0_letThrough_42 : decode cX0_letThrough 42 = .ok (.lload 8, 2) := by decide +kernel
theorem dX0_letThrough_44 : decode cX0_letThrough 44 = .ok (.invokestatic 39, 3) := by decide +kernel
theorem dX0_letThrough_47 : decode cX0_letThrough 47 = .ok (.lstore 14, 2) := by decide +kernel
theorem dX0_letThrough_49 : decode cX0_letThrough 49 = .ok (.iload 11, 2) := by decide +kernel
theorem dX0_letThrough_51 : decode cX0_letThrough 51 = .ok (.lload 12, 2) := by decide +kernel
theorem dX0_letThrough_53 : decode cX0_letThrough 53 = .ok (.invokestatic 43, 3) := by decide +kernel
theorem dX0_letThrough_56 : decode cX0_letThrough 56 = .ok (.lstore 16, 2) := by decide +kernel
theorem dX0_letThrough_58 : decode cX0_letThrough 58 = .ok (.lload 14, 2) := by decide +kernel
theorem dX0_letThrough_60 : decode cX0_letThrough 60 = .ok (.lload 16, 2) := by decide +kernel
theorem dX0_letThrough_62 : decode cX0_letThrough 62 = .ok (.lcmp, 1) := by decide +kernel
theorem dX0_letThrough_63 : decode cX0_letThrough 63 = .ok (.ifCond .ge 50, 3) := by decide +kernel
theorem dX0_letThrough_66 : decode cX0_letThrough 66 = .ok (.lload 14, 2) := by decide +kernel
theorem dX0_letThrough_68 : decode cX0_letThrough 68 = .ok (.lload 6, 2) := by decide +kernel
theorem dX0_letThrough_70 : decode cX0_letThrough 70 = .ok (.lcmp, 1) := by decide +kernel
theorem dX0_letThrough_71 : decode cX0_letThrough 71 = .ok (.ifCond .ge 42, 3) := by decide +kernel
theorem dX0_letThrough_74 : decode cX0_letThrough 74 = .ok (.lload_n 1, 1) := by decide +kernel
theorem dX0_letThrough_75 : decode cX0_letThrough 75 = .ok (.lload 16, 2) := by decide +kernel
theorem dX0_letThrough_77 : decode cX0_letThrough 77 = .ok (.lcmp, 1) := by decide +kernel
theorem dX0_letThrough_78 : decode cX0_letThrough 78 = .ok (.ifCond .ge 35, 3) := by decide +kernel
theorem dX0_letThrough_81 : decode cX0_letThrough 81 = .ok (.lload 14, 2) := by decide +kernel
theorem dX0_letThrough_83 : decode cX0_letThrough 83 = .ok (.lload_n 1, 1) := by decide +kernel
theorem dX0_letThrough_84 : decode cX0_letThrough 84 = .ok (.lcmp, 1) := by decide +kernel
theorem dX0_letThrough_85 : decode cX0_letThrough 85 = .ok (.ifCond .gt 26, 3) := by decide +kernel
theorem dX0_letThrough_88 : decode cX0_letThrough 88 = .ok (.lload 6, 2) := by decide +kernel
theorem dX0_letThrough_90 : decode cX0_letThrough 90 = .ok (.lload 16, 2) := by decide +kernel
theorem dX0_letThrough_92 : decode cX0_letThrough 92 = .ok (.lcmp, 1) := by decide +kernel
theorem dX0_letThrough_93 : decode cX0_letThrough 93 = .ok (.ifCond .gt 18, 3) := by decide +kernel
theorem dX0_letThrough_96 : decode cX0_letThrough 96 = .ok (.iload 11, 2) := by decide +kernel
theorem dX0_letThrough_98 : decode cX0_letThrough 98 = .ok (.iload_n 3, 1) := by decide +kernel
theorem dX0_letThrough_99 : decode cX0_letThrough 99 = .ok (.iload 4, 2) := by decide +kernel
theorem dX0_letThrough_101 : decode cX0_letThrough 101 = .ok (.invokestatic 47, 3) := by decide +kernel
theorem dX0_letThrough_104 : decode cX0_letThrough 104 = .ok (.ifCond .eq 7, 3) := by decide +kernel
theorem dX0_letThrough_107 : decode cX0_letThrough 107 = .ok (.iconst 1, 1) := by decide +kernel
theorem dX0_letThrough_108 : decode cX0_letThrough 108 = .ok (.goto 4, 3) := by decide +kernel
theorem dX0_letThrough_111 : decode cX0_letThrough 111 = .ok (.iconst 0, 1) := by decide +kernel
theorem dX0_letThrough_112 : decode cX0_letThrough 112 = .ok (.ireturn, 1) := by decide +kernel
theorem dX0_letThrough_113 : decode cX0_letThrough 113 = .ok (.lload 12, 2) := by decide +kernel
theorem dX0_letThrough_115 : decode cX0_letThrough 115 = .ok (.lstore 8, 2) := by decide +kernel
theorem dX0_letThrough_117 : decode cX0_letThrough 117 = .ok (.iinc 10 1, 3) := by decide +kernel
theorem dX0_letThrough_120 : decode cX0_letThrough 120 = .ok (.goto (-107), 3) := by decide +kernel
theorem dX0_letThrough_123 : decode cX0_letThrough 123 = .ok (.iload 4, 2) := by decide +kernel
theorem dX0_letThrough_125 : decode cX0_letThrough 125 = .ok (.iconst 3, 1) := by decide +kernel
theorem dX0_letThrough_126 : decode cX0_letThrough 126 = .ok (.if_icmp .ne 7, 3) := by decide +kernel
theorem dX0_letThrough_129 : decode cX0_letThrough 129 = .ok (.iconst 1, 1) := by decide +kernel
theorem dX0_letThrough_130 : decode cX0_letThrough 130 = .ok (.goto 4, 3) := by decide +kernel
theorem dX0_letThrough_133 : decode cX0_letThrough 133 = .ok (.iconst 0, 1) := by decide +kernel
theorem dX0_letThrough_134 : decode cX0_letThrough 134 = .ok (.ireturn, 1) := by decide +kernel
theorem dX0_startOf_0 : decode cX0_startOf 0 = .ok (.iload_n 0, 1) := by decide +kernel
theorem dX0_startOf_1 : decode cX0_startOf 1 = .ok (.invokestatic 51, 3) := by decide +kernel
theorem dX0_startOf_4 : decode cX0_startOf 4 = .ok (.tableswitch 50 1 3 #[28, 34, 40], 28) := by decide +kernel
theorem dX0_startOf_32 : decode cX0_startOf 32 = .ok (.ldc2_w 54, 3) := by decide +kernel
theorem dX0_startOf_35 : decode cX0_startOf 35 = .ok (.lload_n 3, 1) := by decide +kernel
theorem dX0_startOf_36 : decode cX0_startOf 36 = .ok (.lmul, 1) := by decide +kernel
theorem dX0_startOf_37 : decode cX0_startOf 37 = .ok (.lreturn, 1) := by decide +kernel
theorem dX0_startOf_38 : decode cX0_startOf 38 = .ok (.ldc2_w 54, 3) := by decide +kernel
theorem dX0_startOf_41 : decode cX0_startOf 41 = .ok (.lload_n 1, 1) := by decide +kernel
theorem dX0_startOf_42 : decode cX0_startOf 42 = .ok (.lmul, 1) := by decide +kernel
theorem dX0_startOf_43 : decode cX0_startOf 43 = .ok (.lreturn, 1) := by decide +kernel
theorem dX0_startOf_44 : decode cX0_startOf 44 = .ok (.ldc2_w 54, 3) := by decide +kernel
theorem dX0_startOf_47 : decode cX0_startOf 47 = .ok (.lload_n 1, 1) := by decide +kernel
theorem dX0_startOf_48 : decode cX0_startOf 48 = .ok (.lload_n 1, 1) := by decide +kernel
theorem dX0_startOf_49 : decode cX0_startOf 49 = .ok (.lconst 1, 1) := by decide +kernel
theorem dX0_startOf_50 : decode cX0_startOf 50 = .ok (.ladd, 1) := by decide +kernel
theorem dX0_startOf_51 : decode cX0_startOf 51 = .ok (.land, 1) := by decide +kernel
theorem dX0_startOf_52 : decode cX0_startOf 52 = .ok (.lmul, 1) := by decide +kernel
theorem dX0_startOf_53 : decode cX0_startOf 53 = .ok (.lreturn, 1) := by decide +kernel
theorem dX0_startOf_54 : decode cX0_startOf 54 = .ok (.lconst 0, 1) := by decide +kernel
theorem dX0_startOf_55 : decode cX0_startOf 55 = .ok (.lreturn, 1) := by decide +kernel
theorem dX0_endOf_0 : decode cX0_endOf 0 = .ok (.iload_n 0, 1) := by decide +kernel
theorem dX0_endOf_1 : decode cX0_endOf 1 = .ok (.invokestatic 51, 3) := by decide +kernel
theorem dX0_endOf_4 : decode cX0_endOf 4 = .ok (.tableswitch 54 1 3 #[28, 34, 42], 28) := by decide +kernel
theorem dX0_endOf_32 : decode cX0_endOf 32 = .ok (.ldc2_w 54, 3) := by decide +kernel
theorem dX0_endOf_35 : decode cX0_endOf 35 = .ok (.lload_n 1, 1) := by decide +kernel
theorem dX0_endOf_36 : decode cX0_endOf 36 = .ok (.lmul, 1) := by decide +kernel
theorem dX0_endOf_37 : decode cX0_endOf 37 = .ok (.lreturn, 1) := by decide +kernel
theorem dX0_endOf_38 : decode cX0_endOf 38 = .ok (.ldc2_w 54, 3) := by decide +kernel
theorem dX0_endOf_41 : decode cX0_endOf 41 = .ok (.lload_n 1, 1) := by decide +kernel
theorem dX0_endOf_42 : decode cX0_endOf 42 = .ok (.lconst 1, 1) := by decide +kernel
theorem dX0_endOf_43 : decode cX0_endOf 43 = .ok (.ladd, 1) := by decide +kernel
theorem dX0_endOf_44 : decode cX0_endOf 44 = .ok (.lmul, 1) := by decide +kernel
theorem dX0_endOf_45 : decode cX0_endOf 45 = .ok (.lreturn, 1) := by decide +kernel
theorem dX0_endOf_46 : decode cX0_endOf 46 = .ok (.ldc2_w 54, 3) := by decide +kernel
theorem dX0_endOf_49 : decode cX0_endOf 49 = .ok (.lload_n 1, 1) := by decide +kernel
theorem dX0_endOf_50 : decode cX0_endOf 50 = .ok (.lload_n 1, 1) := by decide +kernel
theorem dX0_endOf_51 : decode cX0_endOf 51 = .ok (.lconst 1, 1) := by decide +kernel
theorem dX0_endOf_52 : decode cX0_endOf 52 = .ok (.ladd, 1) := by decide +kernel
theorem dX0_endOf_53 : decode cX0_endOf 53 = .ok (.lor, 1) := by decide +kernel
theorem dX0_endOf_54 : decode cX0_endOf 54 = .ok (.lconst 1, 1) := by decide +kernel
theorem dX0_endOf_55 : decode cX0_endOf 55 = .ok (.ladd, 1) := by decide +kernel
theorem dX0_endOf_56 : decode cX0_endOf 56 = .ok (.lmul, 1) := by decide +kernel
theorem dX0_endOf_57 : decode cX0_endOf 57 = .ok (.lreturn, 1) := by decide +kernel
theorem dX0_endOf_58 : decode cX0_endOf 58 = .ok (.lconst 0, 1) := by decide +kernel
theorem dX0_endOf_59 : decode cX0_endOf 59 = .ok (.lreturn, 1) := by decide +kernel
theorem dX0_permits_0 : decode cX0_permits 0 = .ok (.iload_n 2, 1) := by decide +kernel
theorem dX0_permits_1 : decode cX0_permits 1 = .ok (.iconst 3, 1) := by decide +kernel
theorem dX0_permits_2 : decode cX0_permits 2 = .ok (.if_icmp .ne 12, 3) := by decide +kernel
theorem dX0_permits_5 : decode cX0_permits 5 = .ok (.iload_n 0, 1) := by decide +kernel
theorem dX0_permits_6 : decode cX0_permits 6 = .ok (.invokestatic 19, 3) := by decide +kernel
theorem dX0_permits_9 : decode cX0_permits 9 = .ok (.ifCond .ne 5, 3) := by decide +kernel
theorem dX0_permits_12 : decode cX0_permits 12 = .ok (.iconst 1, 1) := by decide +kernel
theorem dX0_permits_13 : decode cX0_permits 13 = .ok (.ireturn, 1) := by decide +kernel
theorem dX0_permits_14 : decode cX0_permits 14 = .ok (.iload_n 1, 1) := by decide +kernel
theorem dX0_permits_15 : decode cX0_permits 15 = .ok (.ifCond .ne 7, 3) := by decide +kernel
theorem dX0_permits_18 : decode cX0_permits 18 = .ok (.iconst 4, 1) := by decide +kernel
theorem dX0_permits_19 : decode cX0_permits 19 = .ok (.goto 13, 3) := by decide +kernel
theorem dX0_permits_22 : decode cX0_permits 22 = .ok (.iload_n 1, 1) := by decide +kernel
theorem dX0_permits_23 : decode cX0_permits 23 = .ok (.iconst 1, 1) := by decide +kernel
theorem dX0_permits_24 : decode cX0_permits 24 = .ok (.if_icmp .ne 7, 3) := by decide +kernel
theorem dX0_permits_27 : decode cX0_permits 27 = .ok (.iconst 1, 1) := by decide +kernel
theorem dX0_permits_28 : decode cX0_permits 28 = .ok (.goto 4, 3) := by decide +kernel
theorem dX0_permits_31 : decode cX0_permits 31 = .ok (.iconst 2, 1) := by decide +kernel
theorem dX0_permits_32 : decode cX0_permits 32 = .ok (.istore_n 3, 1) := by decide +kernel
theorem dX0_permits_33 : decode cX0_permits 33 = .ok (.iload_n 0, 1) := by decide +kernel
theorem dX0_permits_34 : decode cX0_permits 34 = .ok (.iload_n 3, 1) := by decide +kernel
theorem dX0_permits_35 : decode cX0_permits 35 = .ok (.iand, 1) := by decide +kernel
theorem dX0_permits_36 : decode cX0_permits 36 = .ok (.ifCond .eq 7, 3) := by decide +kernel
theorem dX0_permits_39 : decode cX0_permits 39 = .ok (.iconst 1, 1) := by decide +kernel
theorem dX0_permits_40 : decode cX0_permits 40 = .ok (.goto 4, 3) := by decide +kernel
theorem dX0_permits_43 : decode cX0_permits 43 = .ok (.iconst 0, 1) := by decide +kernel
theorem dX0_permits_44 : decode cX0_permits 44 = .ok (.ireturn, 1) := by decide +kernel
theorem dX1_isMalformed_0 : decode cX1_isMalformed 0 = .ok (.lload_n 0, 1) := by decide +kernel
theorem dX1_isMalformed_1 : decode cX1_isMalformed 1 = .ok (.lconst 1, 1) := by decide +kernel
theorem dX1_isMalformed_2 : decode cX1_isMalformed 2 = .ok (.invokestatic 154, 3) := by decide +kernel
theorem dX1_isMalformed_5 : decode cX1_isMalformed 5 = .ok (.ifCond .eq 49, 3) := by decide +kernel
theorem dX1_isMalformed_8 : decode cX1_isMalformed 8 = .ok (.lload_n 0, 1) := by decide +kernel
theorem dX1_isMalformed_9 : decode cX1_isMalformed 9 = .ok (.ldc2_w 158, 3) := by decide +kernel
theorem dX1_isMalformed_12 : decode cX1_isMalformed 12 = .ok (.invokestatic 154, 3) := by decide +kernel
theorem dX1_isMalformed_15 : decode cX1_isMalformed 15 = .ok (.ifCond .eq 13, 3) := by decide +kernel
theorem dX1_isMalformed_18 : decode cX1_isMalformed 18 = .ok (.lload_n 0, 1) := by decide +kernel
theorem dX1_isMalformed_19 : decode cX1_isMalformed 19 = .ok (.ldc2_w 160, 3) := by decide +kernel
theorem dX1_isMalformed_22 : decode cX1_isMalformed 22 = .ok (.invokestatic 154, 3) := by decide +kernel
theorem dX1_isMalformed_25 : decode cX1_isMalformed 25 = .ok (.ifCond .eq 29, 3) := by decide +kernel
theorem dX1_isMalformed_28 : decode cX1_isMalformed 28 = .ok (.lload_n 0, 1) := by decide +kernel
theorem dX1_isMalformed_29 : decode cX1_isMalformed 29 = .ok (.bipush 54, 2) := by decide +kernel
theorem dX1_isMalformed_31 : decode cX1_isMalformed 31 = .ok (.lushr, 1) := by decide +kernel
theorem dX1_isMalformed_32 : decode cX1_isMalformed 32 = .ok (.lconst 0, 1) := by decide +kernel
theorem dX1_isMalformed_33 : decode cX1_isMalformed 33 = .ok (.lcmp, 1) := by decide +kernel
theorem dX1_isMalformed_34 : decode cX1_isMalformed 34 = .ok (.ifCond .ne 20, 3) := by decide +kernel
theorem dX1_isMalformed_37 : decode cX1_isMalformed 37 = .ok (.lload_n 0, 1) := by decide +kernel
theorem dX1_isMalformed_38 : decode cX1_isMalformed 38 = .ok (.invokestatic 130, 3) := by decide +kernel
theorem dX1_isMalformed_41 : decode cX1_isMalformed 41 = .ok (.ifCond .ne 17, 3) := by decide +kernel
theorem dX1_isMalformed_44 : decode cX1_isMalformed 44 = .ok (.lload_n 0, 1) := by decide +kernel
theorem dX1_isMalformed_45 : decode cX1_isMalformed 45 = .ok (.ldc2_w 162, 3) := by decide +kernel
theorem dX1_isMalformed_48 : decode cX1_isMalformed 48 = .ok (.invokestatic 154, 3) := by decide +kernel
theorem dX1_isMalformed_51 : decode cX1_isMalformed 51 = .ok (.ifCond .eq 7, 3) := by decide +kernel
theorem dX1_isMalformed_54 : decode cX1_isMalformed 54 = .ok (.iconst 1, 1) := by decide +kernel
theorem dX1_isMalformed_55 : decode cX1_isMalformed 55 = .ok (.goto 4, 3) := by decide +kernel
theorem dX1_isMalformed_58 : decode cX1_isMalformed 58 = .ok (.iconst 0, 1) := by decide +kernel
theorem dX1_isMalformed_59 : decode cX1_isMalformed 59 = .ok (.ireturn, 1) := by decide +kernel
theorem dX1_has_0 : decode cX1_has 0 = .ok (.lload_n 0, 1) := by decide +kernel
theorem dX1_has_1 : decode cX1_has 1 = .ok (.lload_n 2, 1) := by decide +kernel
theorem dX1_has_2 : decode cX1_has 2 = .ok (.land, 1) := by decide +kernel
theorem dX1_has_3 : decode cX1_has 3 = .ok (.lconst 0, 1) := by decide +kernel
theorem dX1_has_4 : decode cX1_has 4 = .ok (.lcmp, 1) := by decide +kernel
theorem dX1_has_5 : decode cX1_has 5 = .ok (.ifCond .eq 7, 3) := by decide +kernel
theorem dX1_has_8 : decode cX1_has 8 = .ok (.iconst 1, 1) := by decide +kernel
theorem dX1_has_9 : decode cX1_has 9 = .ok (.goto 4, 3) := by decide +kernel
theorem dX1_has_12 : decode cX1_has 12 = .ok (.iconst 0, 1) := by decide +kernel
theorem dX1_has_13 : decode cX1_has 13 = .ok (.ireturn, 1) := by decide +kernel
theorem dX1_isLast_0 : decode cX1_isLast 0 = .ok (.lload_n 0, 1) := by decide +kernel
theorem dX1_isLast_1 : decode cX1_isLast 1 = .ok (.ldc2_w 152, 3) := by decide +kernel
theorem dX1_isLast_4 : decode cX1_isLast 4 = .ok (.invokestatic 154, 3) := by decide +kernel
theorem dX1_isLast_7 : decode cX1_isLast 7 = .ok (.ireturn, 1) := by decide +kernel
theorem dX1_grants_0 : decode cX1_grants 0 = .ok (.lconst 1, 1) := by decide +kernel
theorem dX1_grants_1 : decode cX1_grants 1 = .ok (.bipush 9, 2) := by decide +kernel
theorem dX1_grants_3 : decode cX1_grants 3 = .ok (.iload 5, 2) := by decide +kernel
theorem dX1_grants_5 : decode cX1_grants 5 = .ok (.imul, 1) := by decide +kernel
theorem dX1_grants_6 : decode cX1_grants 6 = .ok (.lshl, 1) := by decide +kernel
theorem dX1_grants_7 : decode cX1_grants 7 = .ok (.lconst 1, 1) := by decide +kernel
theorem dX1_grants_8 : decode cX1_grants 8 = .ok (.lsub, 1) := by decide +kernel
theorem dX1_grants_9 : decode cX1_grants 9 = .ok (.lstore 6, 2) := by decide +kernel
theorem dX1_grants_11 : decode cX1_grants 11 = .ok (.lload_n 1, 1) := by decide +kernel
theorem dX1_grants_12 : decode cX1_grants 12 = .ok (.invokestatic 143, 3) := by decide +kernel
theorem dX1_grants_15 : decode cX1_grants 15 = .ok (.lload 6, 2) := by decide +kernel
theorem dX1_grants_17 : decode cX1_grants 17 = .ok (.land, 1) := by decide +kernel
theorem dX1_grants_18 : decode cX1_grants 18 = .ok (.lconst 0, 1) := by decide +kernel
theorem dX1_grants_19 : decode cX1_grants 19 = .ok (.lcmp, 1) := by decide +kernel
theorem dX1_grants_20 : decode cX1_grants 20 = .ok (.ifCond .ne 27, 3) := by decide +kernel
theorem dX1_grants_23 : decode cX1_grants 23 = .ok (.aload_n 0, 1) := by decide +kernel
theorem dX1_grants_24 : decode cX1_grants 24 = .ok (.lload_n 1, 1) := by decide +kernel
theorem dX1_grants_25 : decode cX1_grants 25 = .ok (.iload_n 3, 1) := by decide +kernel
theorem dX1_grants_26 : decode cX1_grants 26 = .ok (.iload 4, 2) := by decide +kernel
theorem dX1_grants_28 : decode cX1_grants 28 = .ok (.invokevirtual 164, 3) := by decide +kernel
theorem dX1_grants_31 : decode cX1_grants 31 = .ok (.ifCond .eq 16, 3) := by decide +kernel
theorem dX1_grants_34 : decode cX1_grants 34 = .ok (.aload_n 0, 1) := by decide +kernel
theorem dX1_grants_35 : decode cX1_grants 35 = .ok (.lload_n 1, 1) := by decide +kernel
theorem dX1_grants_36 : decode cX1_grants 36 = .ok (.iload_n 3, 1) := by decide +kernel
theorem dX1_grants_37 : decode cX1_grants 37 = .ok (.invokevirtual 168, 3) := by decide +kernel
theorem dX1_grants_40 : decode cX1_grants 40 = .ok (.ifCond .eq 7, 3) := by decide +kernel
theorem dX1_grants_43 : decode cX1_grants 43 = .ok (.iconst 1, 1) := by decide +kernel
theorem dX1_grants_44 : decode cX1_grants 44 = .ok (.goto 4, 3) := by decide +kernel
theorem dX1_grants_47 : decode cX1_grants 47 = .ok (.iconst 0, 1) := by decide +kernel
theorem dX1_grants_48 : decode cX1_grants 48 = .ok (.ireturn, 1) := by decide +kernel
theorem dX1_pageNumber_0 : decode cX1_pageNumber 0 = .ok (.lload_n 0, 1) := by decide +kernel
theorem dX1_pageNumber_1 : decode cX1_pageNumber 1 = .ok (.bipush 10, 2) := by decide +kernel
theorem dX1_pageNumber_3 : decode cX1_pageNumber 3 = .ok (.lushr, 1) := by decide +kernel
theorem dX1_pageNumber_4 : decode cX1_pageNumber 4 = .ok (.ldc2_w 117, 3) := by decide +kernel
theorem dX1_pageNumber_7 : decode cX1_pageNumber 7 = .ok (.land, 1) := by decide +kernel
theorem dX1_pageNumber_8 : decode cX1_pageNumber 8 = .ok (.lreturn, 1) := by decide +kernel
theorem dX1_isOpenToMode_0 : decode cX1_isOpenToMode 0 = .ok (.iload 4, 2) := by decide +kernel
theorem dX1_isOpenToMode_2 : decode cX1_isOpenToMode 2 = .ok (.ifCond .ne 11, 3) := by decide +kernel
theorem dX1_isOpenToMode_5 : decode cX1_isOpenToMode 5 = .ok (.lload_n 1, 1) := by decide +kernel
theorem dX1_isOpenToMode_6 : decode cX1_isOpenToMode 6 = .ok (.ldc2_w 172, 3) := by decide +kernel
theorem dX1_isOpenToMode_9 : decode cX1_isOpenToMode 9 = .ok (.invokestatic 154, 3) := by decide +kernel
theorem dX1_isOpenToMode_12 : decode cX1_isOpenToMode 12 = .ok (.ireturn, 1) := by decide +kernel
theorem dX1_isOpenToMode_13 : decode cX1_isOpenToMode 13 = .ok (.lload_n 1, 1) := by decide +kernel
theorem dX1_isOpenToMode_14 : decode cX1_isOpenToMode 14 = .ok (.ldc2_w 172, 3) := by decide +kernel
theorem dX1_isOpenToMode_17 : decode cX1_isOpenToMode 17 = .ok (.invokestatic 154, 3) := by decide +kernel
theorem dX1_isOpenToMode_20 : decode cX1_isOpenToMode 20 = .ok (.ifCond .eq 14, 3) := by decide +kernel
theorem dX1_isOpenToMode_23 : decode cX1_isOpenToMode 23 = .ok (.aload_n 0, 1) := by decide +kernel
theorem dX1_isOpenToMode_24 : decode cX1_isOpenToMode 24 = .ok (.getfield 24, 3) := by decide +kernel
theorem dX1_isOpenToMode_27 : decode cX1_isOpenToMode 27 = .ok (.ifCond .eq 11, 3) := by decide +kernel
theorem dX1_isOpenToMode_30 : decode cX1_isOpenToMode 30 = .ok (.iload_n 3, 1) := by decide +kernel
theorem dX1_isOpenToMode_31 : decode cX1_isOpenToMode 31 = .ok (.ifCond .eq 7, 3) := by decide +kernel
theorem dX1_isOpenToMode_34 : decode cX1_isOpenToMode 34 = .ok (.iconst 1, 1) := by decide +kernel
theorem dX1_isOpenToMode_35 : decode cX1_isOpenToMode 35 = .ok (.goto 4, 3) := by decide +kernel
theorem dX1_isOpenToMode_38 : decode cX1_isOpenToMode 38 = .ok (.iconst 0, 1) := by decide +kernel
theorem dX1_isOpenToMode_39 : decode cX1_isOpenToMode 39 = .ok (.ireturn, 1) := by decide +kernel
theorem dX1_isOpenToAccess_0 : decode cX1_isOpenToAccess 0 = .ok (.iload_n 3, 1) := by decide +kernel
theorem dX1_isOpenToAccess_1 : decode cX1_isOpenToAccess 1 = .ok (.ifCond .ne 11, 3) := by decide +kernel
theorem dX1_isOpenToAccess_4 : decode cX1_isOpenToAccess 4 = .ok (.lload_n 1, 1) := by decide +kernel
theorem dX1_isOpenToAccess_5 : decode cX1_isOpenToAccess 5 = .ok (.ldc2_w 108, 3) := by decide +kernel
theorem dX1_isOpenToAccess_8 : decode cX1_isOpenToAccess 8 = .ok (.invokestatic 154, 3) := by decide +kernel
theorem dX1_isOpenToAccess_11 : decode cX1_isOpenToAccess 11 = .ok (.ireturn, 1) := by decide +kernel
theorem dX1_isOpenToAccess_12 : decode cX1_isOpenToAccess 12 = .ok (.iload_n 3, 1) := by decide +kernel
theorem dX1_isOpenToAccess_13 : decode cX1_isOpenToAccess 13 = .ok (.iconst 2, 1) := by decide +kernel
theorem dX1_isOpenToAccess_14 : decode cX1_isOpenToAccess 14 = .ok (.if_icmp .ne 11, 3) := by decide +kernel
theorem dX1_isOpenToAccess_17 : decode cX1_isOpenToAccess 17 = .ok (.lload_n 1, 1) := by decide +kernel
theorem dX1_isOpenToAccess_18 : decode cX1_isOpenToAccess 18 = .ok (.ldc2_w 158, 3) := by decide +kernel
theorem dX1_isOpenToAccess_21 : decode cX1_isOpenToAccess 21 = .ok (.invokestatic 154, 3) := by decide +kernel
theorem dX1_isOpenToAccess_24 : decode cX1_isOpenToAccess 24 = .ok (.ireturn, 1) := by decide +kernel
theorem dX1_isOpenToAccess_25 : decode cX1_isOpenToAccess 25 = .ok (.lload_n 1, 1) := by decide +kernel
theorem dX1_isOpenToAccess_26 : decode cX1_isOpenToAccess 26 = .ok (.ldc2_w 160, 3) := by decide +kernel
theorem dX1_isOpenToAccess_29 : decode cX1_isOpenToAccess 29 = .ok (.invokestatic 154, 3) := by decide +kernel
theorem dX1_isOpenToAccess_32 : decode cX1_isOpenToAccess 32 = .ok (.ifCond .ne 20, 3) := by decide +kernel
theorem dX1_isOpenToAccess_35 : decode cX1_isOpenToAccess 35 = .ok (.aload_n 0, 1) := by decide +kernel
theorem dX1_isOpenToAccess_36 : decode cX1_isOpenToAccess 36 = .ok (.getfield 28, 3) := by decide +kernel
theorem dX1_isOpenToAccess_39 : decode cX1_isOpenToAccess 39 = .ok (.ifCond .eq 17, 3) := by decide +kernel
theorem dX1_isOpenToAccess_42 : decode cX1_isOpenToAccess 42 = .ok (.lload_n 1, 1) := by decide +kernel
theorem dX1_isOpenToAccess_43 : decode cX1_isOpenToAccess 43 = .ok (.ldc2_w 108, 3) := by decide +kernel
theorem dX1_isOpenToAccess_46 : decode cX1_isOpenToAccess 46 = .ok (.invokestatic 154, 3) := by decide +kernel
theorem dX1_isOpenToAccess_49 : decode cX1_isOpenToAccess 49 = .ok (.ifCond .eq 7, 3) := by decide +kernel
theorem dX1_isOpenToAccess_52 : decode cX1_isOpenToAccess 52 = .ok (.iconst 1, 1) := by decide +kernel
theorem dX1_isOpenToAccess_53 : decode cX1_isOpenToAccess 53 = .ok (.goto 4, 3) := by decide +kernel
theorem dX1_isOpenToAccess_56 : decode cX1_isOpenToAccess 56 = .ok (.iconst 0, 1) := by decide +kernel
theorem dX1_isOpenToAccess_57 : decode cX1_isOpenToAccess 57 = .ok (.ireturn, 1) := by decide +kernel
theorem dX1_mark_0 : decode cX1_mark 0 = .ok (.iload 5, 2) := by decide +kernel
theorem dX1_mark_2 : decode cX1_mark 2 = .ok (.iconst 2, 1) := by decide +kernel
theorem dX1_mark_3 : decode cX1_mark 3 = .ok (.if_icmp .ne 9, 3) := by decide +kernel
theorem dX1_mark_6 : decode cX1_mark 6 = .ok (.ldc2_w 174, 3) := by decide +kernel
theorem dX1_mark_9 : decode cX1_mark 9 = .ok (.goto 6, 3) := by decide +kernel
theorem dX1_mark_12 : decode cX1_mark 12 = .ok (.ldc2_w 176, 3) := by decide +kernel
theorem dX1_mark_15 : decode cX1_mark 15 = .ok (.lstore 6, 2) := by decide +kernel
theorem dX1_mark_17 : decode cX1_mark 17 = .ok (.lload_n 3, 1) := by decide +kernel
theorem dX1_mark_18 : decode cX1_mark 18 = .ok (.lload 6, 2) := by decide +kernel
theorem dX1_mark_20 : decode cX1_mark 20 = .ok (.land, 1) := by decide +kernel
theorem dX1_mark_21 : decode cX1_mark 21 = .ok (.lload 6, 2) := by decide +kernel
theorem dX1_mark_23 : decode cX1_mark 23 = .ok (.lcmp, 1) := by decide +kernel
theorem dX1_mark_24 : decode cX1_mark 24 = .ok (.ifCond .ne 5, 3) := by decide +kernel
theorem dX1_mark_27 : decode cX1_mark 27 = .ok (.iconst 1, 1) := by decide +kernel
theorem dX1_mark_28 : decode cX1_mark 28 = .ok (.ireturn, 1) := by decide +kernel
theorem dX1_mark_29 : decode cX1_mark 29 = .ok (.aload_n 0, 1) := by decide +kernel
theorem dX1_mark_30 : decode cX1_mark 30 = .ok (.getfield 16, 3) := by decide +kernel
theorem dX1_mark_33 : decode cX1_mark 33 = .ok (.lload_n 1, 1) := by decide +kernel
theorem dX1_mark_34 : decode cX1_mark 34 = .ok (.iconst 2, 1) := by decide +kernel
theorem dX1_mark_35 : decode cX1_mark 35 = .ok (.iconst 1, 1) := by decide +kernel
theorem dX1_mark_36 : decode cX1_mark 36 = .ok (.bipush 8, 2) := by decide +kernel
theorem dX1_mark_38 : decode cX1_mark 38 = .ok (.invokevirtual 76, 3) := by decide +kernel
theorem dX1_mark_41 : decode cX1_mark 41 = .ok (.ifCond .ne 5, 3) := by decide +kernel
theorem dX1_mark_44 : decode cX1_mark 44 = .ok (.iconst 0, 1) := by decide +kernel
theorem dX1_mark_45 : decode cX1_mark 45 = .ok (.ireturn, 1) := by decide +kernel
theorem dX1_mark_46 : decode cX1_mark 46 = .ok (.aload_n 0, 1) := by decide +kernel
theorem dX1_mark_47 : decode cX1_mark 47 = .ok (.lload_n 1, 1) := by decide +kernel
theorem dX1_mark_48 : decode cX1_mark 48 = .ok (.lload_n 3, 1) := by decide +kernel
theorem dX1_mark_49 : decode cX1_mark 49 = .ok (.lload 6, 2) := by decide +kernel
theorem dX1_mark_51 : decode cX1_mark 51 = .ok (.lor, 1) := by decide +kernel
theorem dX1_mark_52 : decode cX1_mark 52 = .ok (.invokevirtual 178, 3) := by decide +kernel
theorem dX1_mark_55 : decode cX1_mark 55 = .ok (.iconst 1, 1) := by decide +kernel
theorem dX1_mark_56 : decode cX1_mark 56 = .ok (.ireturn, 1) := by decide +kernel
theorem dX1_target_0 : decode cX1_target 0 = .ok (.lconst 1, 1) := by decide +kernel
theorem dX1_target_1 : decode cX1_target 1 = .ok (.iload 4, 2) := by decide +kernel
theorem dX1_target_3 : decode cX1_target 3 = .ok (.invokestatic 146, 3) := by decide +kernel
theorem dX1_target_6 : decode cX1_target 6 = .ok (.lshl, 1) := by decide +kernel
theorem dX1_target_7 : decode cX1_target 7 = .ok (.lconst 1, 1) := by decide +kernel
theorem dX1_target_8 : decode cX1_target 8 = .ok (.lsub, 1) := by decide +kernel
theorem dX1_target_9 : decode cX1_target 9 = .ok (.lstore 5, 2) := by decide +kernel
theorem dX1_target_11 : decode cX1_target 11 = .ok (.lload_n 0, 1) := by decide +kernel
theorem dX1_target_12 : decode cX1_target 12 = .ok (.invokestatic 143, 3) := by decide +kernel
theorem dX1_target_15 : decode cX1_target 15 = .ok (.ldc2_w 90, 3) := by decide +kernel
theorem dX1_target_18 : decode cX1_target 18 = .ok (.lmul, 1) := by decide +kernel
theorem dX1_target_19 : decode cX1_target 19 = .ok (.lload_n 2, 1) := by decide +kernel
theorem dX1_target_20 : decode cX1_target 20 = .ok (.lload 5, 2) := by decide +kernel
theorem dX1_target_22 : decode cX1_target 22 = .ok (.land, 1) := by decide +kernel
theorem dX1_target_23 : decode cX1_target 23 = .ok (.lor, 1) := by decide +kernel
theorem dX1_target_24 : decode cX1_target 24 = .ok (.lreturn, 1) := by decide +kernel
theorem dL_allows_0 : decode cL_allows 0 = .ok (.aload 6, 2) := by decide +kernel
theorem dL_allows_2 : decode cL_allows 2 = .ok (.iconst 0, 1) := by decide +kernel
theorem dL_allows_3 : decode cL_allows 3 = .ok (.aload_n 0, 1) := by decide +kernel
theorem dL_allows_4 : decode cL_allows 4 = .ok (.lload_n 1, 1) := by decide +kernel
theorem dL_allows_5 : decode cL_allows 5 = .ok (.iload_n 3, 1) := by decide +kernel
theorem dL_allows_6 : decode cL_allows 6 = .ok (.iload 4, 2) := by decide +kernel
theorem dL_allows_8 : decode cL_allows 8 = .ok (.iload 5, 2) := by decide +kernel
theorem dL_allows_10 : decode cL_allows 10 = .ok (.invokevirtual 37, 3) := by decide +kernel
theorem dL_allows_13 : decode cL_allows 13 = .ok (.ifCond .eq 7, 3) := by decide +kernel
theorem dL_allows_16 : decode cL_allows 16 = .ok (.lconst 1, 1) := by decide +kernel
theorem dL_allows_17 : decode cL_allows 17 = .ok (.goto 4, 3) := by decide +kernel
theorem dL_allows_20 : decode cL_allows 20 = .ok (.lconst 0, 1) := by decide +kernel
theorem dL_allows_21 : decode cL_allows 21 = .ok (.lastore, 1) := by decide +kernel
theorem dL_allows_22 : decode cL_allows 22 = .ok (.goto 7, 3) := by decide +kernel
theorem dL_allows_25 : decode cL_allows 25 = .ok (.astore 7, 2) := by decide +kernel
theorem dL_allows_27 : decode cL_allows 27 = .ok (.iconst 1, 1) := by decide +kernel
theorem dL_allows_28 : decode cL_allows 28 = .ok (.ireturn, 1) := by decide +kernel
theorem dL_allows_29 : decode cL_allows 29 = .ok (.iconst 0, 1) := by decide +kernel
theorem dL_allows_30 : decode cL_allows 30 = .ok (.ireturn, 1) := by decide +kernel
theorem dX1_allows_0 : decode cX1_allows 0 = .ok (.lload_n 1, 1) := by decide +kernel
theorem dX1_allows_1 : decode cX1_allows 1 = .ok (.iload_n 3, 1) := by decide +kernel
theorem dX1_allows_2 : decode cX1_allows 2 = .ok (.iload 4, 2) := by decide +kernel
theorem dX1_allows_4 : decode cX1_allows 4 = .ok (.iload 5, 2) := by decide +kernel
theorem dX1_allows_6 : decode cX1_allows 6 = .ok (.invokestatic 66, 3) := by decide +kernel
theorem dX1_allows_9 : decode cX1_allows 9 = .ok (.ifCond .eq 10, 3) := by decide +kernel
theorem dX1_allows_12 : decode cX1_allows 12 = .ok (.lload_n 1, 1) := by decide +kernel
theorem dX1_allows_13 : decode cX1_allows 13 = .ok (.invokestatic 82, 3) := by decide +kernel
theorem dX1_allows_16 : decode cX1_allows 16 = .ok (.ifCond .ne 13, 3) := by decide +kernel
theorem dX1_allows_19 : decode cX1_allows 19 = .ok (.new 45, 3) := by decide +kernel
theorem dX1_allows_22 : decode cX1_allows 22 = .ok (.dup, 1) := by decide +kernel
theorem dX1_allows_23 : decode cX1_allows 23 = .ok (.ldc 86, 2) := by decide +kernel
theorem dX1_allows_25 : decode cX1_allows 25 = .ok (.invokespecial 49, 3) := by decide +kernel
theorem dX1_allows_28 : decode cX1_allows 28 = .ok (.athrow, 1) := by decide +kernel
theorem dX1_allows_29 : decode cX1_allows 29 = .ok (.aload_n 0, 1) := by decide +kernel
theorem dX1_allows_30 : decode cX1_allows 30 = .ok (.getfield 16, 3) := by decide +kernel
theorem dX1_allows_33 : decode cX1_allows 33 = .ok (.lload_n 1, 1) := by decide +kernel
theorem dX1_allows_34 : decode cX1_allows 34 = .ok (.iload_n 3, 1) := by decide +kernel
theorem dX1_allows_35 : decode cX1_allows 35 = .ok (.iload 4, 2) := by decide +kernel
theorem dX1_allows_37 : decode cX1_allows 37 = .ok (.iload 5, 2) := by decide +kernel
theorem dX1_allows_39 : decode cX1_allows 39 = .ok (.invokevirtual 76, 3) := by decide +kernel
theorem dX1_allows_42 : decode cX1_allows 42 = .ok (.ireturn, 1) := by decide +kernel
theorem dX2_init_0 : decode cX2_init 0 = .ok (.aload_n 0, 1) := by decide +kernel
theorem dX2_init_1 : decode cX2_init 1 = .ok (.invokespecial 1, 3) := by decide +kernel
theorem dX2_init_4 : decode cX2_init 4 = .ok (.aload_n 0, 1) := by decide +kernel
theorem dX2_init_5 : decode cX2_init 5 = .ok (.sipush 8192, 3) := by decide +kernel
theorem dX2_init_8 : decode cX2_init 8 = .ok (.newarray .long, 2) := by decide +kernel
theorem dX2_init_10 : decode cX2_init 10 = .ok (.putfield 7, 3) := by decide +kernel
theorem dX2_init_13 : decode cX2_init 13 = .ok (.aload_n 0, 1) := by decide +kernel
theorem dX2_init_14 : decode cX2_init 14 = .ok (.bipush 8, 2) := by decide +kernel
theorem dX2_init_16 : decode cX2_init 16 = .ok (.newarray .int, 2) := by decide +kernel
theorem dX2_init_18 : decode cX2_init 18 = .ok (.putfield 13, 3) := by decide +kernel
theorem dX2_init_21 : decode cX2_init 21 = .ok (.aload_n 0, 1) := by decide +kernel
theorem dX2_init_22 : decode cX2_init 22 = .ok (.bipush 8, 2) := by decide +kernel
theorem dX2_init_24 : decode cX2_init 24 = .ok (.newarray .long, 2) := by decide +kernel
theorem dX2_init_26 : decode cX2_init 26 = .ok (.putfield 17, 3) := by decide +kernel
theorem dX2_init_29 : decode cX2_init 29 = .ok (.return_, 1) := by decide +kernel
theorem dX2_thrown_0 : decode cX2_thrown 0 = .ok (.aload_n 0, 1) := by decide +kernel
theorem dX2_thrown_1 : decode cX2_thrown 1 = .ok (.getfield 20, 3) := by decide +kernel
theorem dX2_thrown_4 : decode cX2_thrown 4 = .ok (.ireturn, 1) := by decide +kernel
theorem dX2_word_0 : decode cX2_word 0 = .ok (.aload_n 0, 1) := by decide +kernel
theorem dX2_word_1 : decode cX2_word 1 = .ok (.lload_n 1, 1) := by decide +kernel
theorem dX2_word_2 : decode cX2_word 2 = .ok (.invokestatic 30, 3) := by decide +kernel
theorem dX2_word_5 : decode cX2_word 5 = .ok (.ifCond .eq 7, 3) := by decide +kernel
theorem dX2_word_8 : decode cX2_word 8 = .ok (.iconst 0, 1) := by decide +kernel
theorem dX2_word_9 : decode cX2_word 9 = .ok (.goto 4, 3) := by decide +kernel
theorem dX2_word_12 : decode cX2_word 12 = .ok (.iconst 1, 1) := by decide +kernel
theorem dX2_word_13 : decode cX2_word 13 = .ok (.putfield 20, 3) := by decide +kernel
theorem dX2_word_16 : decode cX2_word 16 = .ok (.aload_n 0, 1) := by decide +kernel
theorem dX2_word_17 : decode cX2_word 17 = .ok (.getfield 20, 3) := by decide +kernel
theorem dX2_word_20 : decode cX2_word 20 = .ok (.ifCond .le 7, 3) := by decide +kernel
theorem dX2_word_23 : decode cX2_word 23 = .ok (.lconst 0, 1) := by decide +kernel
theorem dX2_word_24 : decode cX2_word 24 = .ok (.goto 12, 3) := by decide +kernel
theorem dX2_word_27 : decode cX2_word 27 = .ok (.aload_n 0, 1) := by decide +kernel
theorem dX2_word_28 : decode cX2_word 28 = .ok (.getfield 7, 3) := by decide +kernel
theorem dX2_word_31 : decode cX2_word 31 = .ok (.lload_n 1, 1) := by decide +kernel
theorem dX2_word_32 : decode cX2_word 32 = .ok (.invokestatic 34, 3) := by decide +kernel
theorem dX2_word_35 : decode cX2_word 35 = .ok (.laload, 1) := by decide +kernel
theorem dX2_word_36 : decode cX2_word 36 = .ok (.lreturn, 1) := by decide +kernel
theorem dX2_isWord_0 : decode cX2_isWord 0 = .ok (.lload_n 0, 1) := by decide +kernel
theorem dX2_isWord_1 : decode cX2_isWord 1 = .ok (.ldc2_w 24, 3) := by decide +kernel
theorem dX2_isWord_4 : decode cX2_isWord 4 = .ok (.lcmp, 1) := by decide +kernel
theorem dX2_isWord_5 : decode cX2_isWord 5 = .ok (.ifCond .lt 25, 3) := by decide +kernel
theorem dX2_isWord_8 : decode cX2_isWord 8 = .ok (.lload_n 0, 1) := by decide +kernel
theorem dX2_isWord_9 : decode cX2_isWord 9 = .ok (.ldc2_w 26, 3) := by decide +kernel
theorem dX2_isWord_12 : decode cX2_isWord 12 = .ok (.lcmp, 1) := by decide +kernel
theorem dX2_isWord_13 : decode cX2_isWord 13 = .ok (.ifCond .ge 17, 3) := by decide +kernel
theorem dX2_isWord_16 : decode cX2_isWord 16 = .ok (.lload_n 0, 1) := by decide +kernel
theorem dX2_isWord_17 : decode cX2_isWord 17 = .ok (.ldc2_w 28, 3) := by decide +kernel
theorem dX2_isWord_20 : decode cX2_isWord 20 = .ok (.lrem, 1) := by decide +kernel
theorem dX2_isWord_21 : decode cX2_isWord 21 = .ok (.lconst 0, 1) := by decide +kernel
theorem dX2_isWord_22 : decode cX2_isWord 22 = .ok (.lcmp, 1) := by decide +kernel
theorem dX2_isWord_23 : decode cX2_isWord 23 = .ok (.ifCond .ne 7, 3) := by decide +kernel
theorem dX2_isWord_26 : decode cX2_isWord 26 = .ok (.iconst 1, 1) := by decide +kernel
theorem dX2_isWord_27 : decode cX2_isWord 27 = .ok (.goto 4, 3) := by decide +kernel
theorem dX2_isWord_30 : decode cX2_isWord 30 = .ok (.iconst 0, 1) := by decide +kernel
theorem dX2_isWord_31 : decode cX2_isWord 31 = .ok (.ireturn, 1) := by decide +kernel
theorem dX2_cell_0 : decode cX2_cell 0 = .ok (.lload_n 0, 1) := by decide +kernel
theorem dX2_cell_1 : decode cX2_cell 1 = .ok (.ldc2_w 24, 3) := by decide +kernel
theorem dX2_cell_4 : decode cX2_cell 4 = .ok (.lsub, 1) := by decide +kernel
theorem dX2_cell_5 : decode cX2_cell 5 = .ok (.ldc2_w 28, 3) := by decide +kernel
theorem dX2_cell_8 : decode cX2_cell 8 = .ok (.ldiv, 1) := by decide +kernel
theorem dX2_cell_9 : decode cX2_cell 9 = .ok (.l2i, 1) := by decide +kernel
theorem dX2_cell_10 : decode cX2_cell 10 = .ok (.ireturn, 1) := by decide +kernel
theorem dX2_put_0 : decode cX2_put 0 = .ok (.aload_n 0, 1) := by decide +kernel
theorem dX2_put_1 : decode cX2_put 1 = .ok (.lload_n 1, 1) := by decide +kernel
theorem dX2_put_2 : decode cX2_put 2 = .ok (.invokestatic 30, 3) := by decide +kernel
theorem dX2_put_5 : decode cX2_put 5 = .ok (.ifCond .eq 7, 3) := by decide +kernel
theorem dX2_put_8 : decode cX2_put 8 = .ok (.iconst 0, 1) := by decide +kernel
theorem dX2_put_9 : decode cX2_put 9 = .ok (.goto 4, 3) := by decide +kernel
theorem dX2_put_12 : decode cX2_put 12 = .ok (.iconst 1, 1) := by decide +kernel
theorem dX2_put_13 : decode cX2_put 13 = .ok (.putfield 20, 3) := by decide +kernel
theorem dX2_put_16 : decode cX2_put 16 = .ok (.aload_n 0, 1) := by decide +kernel
theorem dX2_put_17 : decode cX2_put 17 = .ok (.getfield 20, 3) := by decide +kernel
theorem dX2_put_20 : decode cX2_put 20 = .ok (.ifCond .ne 13, 3) := by decide +kernel
theorem dX2_put_23 : decode cX2_put 23 = .ok (.aload_n 0, 1) := by decide +kernel
theorem dX2_put_24 : decode cX2_put 24 = .ok (.getfield 7, 3) := by decide +kernel
theorem dX2_put_27 : decode cX2_put 27 = .ok (.lload_n 1, 1) := by decide +kernel
theorem dX2_put_28 : decode cX2_put 28 = .ok (.invokestatic 34, 3) := by decide +kernel
theorem dX2_put_31 : decode cX2_put 31 = .ok (.lload_n 3, 1) := by decide +kernel
theorem dX2_put_32 : decode cX2_put 32 = .ok (.lastore, 1) := by decide +kernel
theorem dX2_put_33 : decode cX2_put 33 = .ok (.return_, 1) := by decide +kernel
theorem dX2_table_0 : decode cX2_table 0 = .ok (.aload_n 0, 1) := by decide +kernel
theorem dX2_table_1 : decode cX2_table 1 = .ok (.iconst 0, 1) := by decide +kernel
theorem dX2_table_2 : decode cX2_table 2 = .ok (.putfield 20, 3) := by decide +kernel
theorem dX2_table_5 : decode cX2_table 5 = .ok (.aload_n 0, 1) := by decide +kernel
theorem dX2_table_6 : decode cX2_table 6 = .ok (.getfield 38, 3) := by decide +kernel
theorem dX2_table_9 : decode cX2_table 9 = .ok (.lreturn, 1) := by decide +kernel
theorem dX2_setTable_0 : decode cX2_setTable 0 = .ok (.lload_n 1, 1) := by decide +kernel
theorem dX2_setTable_1 : decode cX2_setTable 1 = .ok (.invokestatic 42, 3) := by decide +kernel
theorem dX2_setTable_4 : decode cX2_setTable 4 = .ok (.lstore_n 3, 1) := by decide +kernel
theorem dX2_setTable_5 : decode cX2_setTable 5 = .ok (.aload_n 0, 1) := by decide +kernel
theorem dX2_setTable_6 : decode cX2_setTable 6 = .ok (.lload_n 3, 1) := by decide +kernel
theorem dX2_setTable_7 : decode cX2_setTable 7 = .ok (.lconst 0, 1) := by decide +kernel
theorem dX2_setTable_8 : decode cX2_setTable 8 = .ok (.lcmp, 1) := by decide +kernel
theorem dX2_setTable_9 : decode cX2_setTable 9 = .ok (.ifCond .eq 19, 3) := by decide +kernel
theorem dX2_setTable_12 : decode cX2_setTable 12 = .ok (.lload_n 3, 1) := by decide +kernel
theorem dX2_setTable_13 : decode cX2_setTable 13 = .ok (.ldc2_w 28, 3) := by decide +kernel
theorem dX2_setTable_16 : decode cX2_setTable 16 = .ok (.lcmp, 1) := by decide +kernel
theorem dX2_setTable_17 : decode cX2_setTable 17 = .ok (.ifCond .eq 11, 3) := by decide +kernel
theorem dX2_setTable_20 : decode cX2_setTable 20 = .ok (.lload_n 3, 1) := by decide +kernel
theorem dX2_setTable_21 : decode cX2_setTable 21 = .ok (.ldc2_w 46, 3) := by decide +kernel
theorem dX2_setTable_24 : decode cX2_setTable 24 = .ok (.lcmp, 1) := by decide +kernel
theorem dX2_setTable_25 : decode cX2_setTable 25 = .ok (.ifCond .ne 7, 3) := by decide +kernel
theorem dX2_setTable_28 : decode cX2_setTable 28 = .ok (.iconst 0, 1) := by decide +kernel
theorem dX2_setTable_29 : decode cX2_setTable 29 = .ok (.goto 4, 3) := by decide +kernel
theorem dX2_setTable_32 : decode cX2_setTable 32 = .ok (.iconst 1, 1) := by decide +kernel
theorem dX2_setTable_33 : decode cX2_setTable 33 = .ok (.putfield 20, 3) := by decide +kernel
theorem dX2_setTable_36 : decode cX2_setTable 36 = .ok (.aload_n 0, 1) := by decide +kernel
theorem dX2_setTable_37 : decode cX2_setTable 37 = .ok (.getfield 20, 3) := by decide +kernel
theorem dX2_setTable_40 : decode cX2_setTable 40 = .ok (.ifCond .ne 8, 3) := by decide +kernel
theorem dX2_setTable_43 : decode cX2_setTable 43 = .ok (.aload_n 0, 1) := by decide +kernel
theorem dX2_setTable_44 : decode cX2_setTable 44 = .ok (.lload_n 1, 1) := by decide +kernel
theorem dX2_setTable_45 : decode cX2_setTable 45 = .ok (.putfield 38, 3) := by decide +kernel
theorem dX2_setTable_48 : decode cX2_setTable 48 = .ok (.return_, 1) := by decide +kernel
theorem dX2_sortOf_0 : decode cX2_sortOf 0 = .ok (.lload_n 0, 1) := by decide +kernel
theorem dX2_sortOf_1 : decode cX2_sortOf 1 = .ok (.bipush 60, 2) := by decide +kernel
theorem dX2_sortOf_3 : decode cX2_sortOf 3 = .ok (.lushr, 1) := by decide +kernel
theorem dX2_sortOf_4 : decode cX2_sortOf 4 = .ok (.lreturn, 1) := by decide +kernel
theorem dX2_rights_0 : decode cX2_rights 0 = .ok (.aload_n 0, 1) := by decide +kernel
theorem dX2_rights_1 : decode cX2_rights 1 = .ok (.iconst 0, 1) := by decide +kernel
theorem dX2_rights_2 : decode cX2_rights 2 = .ok (.putfield 20, 3) := by decide +kernel
theorem dX2_rights_5 : decode cX2_rights 5 = .ok (.aload_n 0, 1) := by decide +kernel
theorem dX2_rights_6 : decode cX2_rights 6 = .ok (.iload_n 1, 1) := by decide +kernel
theorem dX2_rights_7 : decode cX2_rights 7 = .ok (.putfield 48, 3) := by decide +kernel
theorem dX2_rights_10 : decode cX2_rights 10 = .ok (.aload_n 0, 1) := by decide +kernel
theorem dX2_rights_11 : decode cX2_rights 11 = .ok (.iload_n 2, 1) := by decide +kernel
theorem dX2_rights_12 : decode cX2_rights 12 = .ok (.putfield 52, 3) := by decide +kernel
theorem dX2_rights_15 : decode cX2_rights 15 = .ok (.return_, 1) := by decide +kernel
theorem dX2_configs_0 : decode cX2_configs 0 = .ok (.aload_n 0, 1) := by decide +kernel
theorem dX2_configs_1 : decode cX2_configs 1 = .ok (.iconst 0, 1) := by decide +kernel
theorem dX2_configs_2 : decode cX2_configs 2 = .ok (.putfield 20, 3) := by decide +kernel
theorem dX2_configs_5 : decode cX2_configs 5 = .ok (.lconst 0, 1) := by decide +kernel
theorem dX2_configs_6 : decode cX2_configs 6 = .ok (.lstore_n 1, 1) := by decide +kernel
theorem dX2_configs_7 : decode cX2_configs 7 = .ok (.bipush 7, 2) := by decide +kernel
theorem dX2_configs_9 : decode cX2_configs 9 = .ok (.istore_n 3, 1) := by decide +kernel
theorem dX2_configs_10 : decode cX2_configs 10 = .ok (.iload_n 3, 1) := by decide +kernel
theorem dX2_configs_11 : decode cX2_configs 11 = .ok (.ifCond .lt 23, 3) := by decide +kernel
theorem dX2_configs_14 : decode cX2_configs 14 = .ok (.ldc2_w 55, 3) := by decide +kernel
theorem dX2_configs_17 : decode cX2_configs 17 = .ok (.lload_n 1, 1) := by decide +kernel
theorem dX2_configs_18 : decode cX2_configs 18 = .ok (.lmul, 1) := by decide +kernel
theorem dX2_configs_19 : decode cX2_configs 19 = .ok (.aload_n 0, 1) := by decide +kernel
theorem dX2_configs_20 : decode cX2_configs 20 = .ok (.getfield 13, 3) := by decide +kernel
theorem dX2_configs_23 : decode cX2_configs 23 = .ok (.iload_n 3, 1) := by decide +kernel
theorem dX2_configs_24 : decode cX2_configs 24 = .ok (.iaload, 1) := by decide +kernel
theorem dX2_configs_25 : decode cX2_configs 25 = .ok (.i2l, 1) := by decide +kernel
theorem dX2_configs_26 : decode cX2_configs 26 = .ok (.ladd, 1) := by decide +kernel
theorem dX2_configs_27 : decode cX2_configs 27 = .ok (.lstore_n 1, 1) := by decide +kernel
theorem dX2_configs_28 : decode cX2_configs 28 = .ok (.iinc 3 (-1), 3) := by decide +kernel
theorem dX2_configs_31 : decode cX2_configs 31 = .ok (.goto (-21), 3) := by decide +kernel
theorem dX2_configs_34 : decode cX2_configs 34 = .ok (.lload_n 1, 1) := by decide +kernel
theorem dX2_configs_35 : decode cX2_configs 35 = .ok (.lreturn, 1) := by decide +kernel
theorem dX2_setConfigs_0 : decode cX2_setConfigs 0 = .ok (.aload_n 0, 1) := by decide +kernel
theorem dX2_setConfigs_1 : decode cX2_setConfigs 1 = .ok (.iconst 0, 1) := by decide +kernel
theorem dX2_setConfigs_2 : decode cX2_setConfigs 2 = .ok (.putfield 20, 3) := by decide +kernel
theorem dX2_setConfigs_5 : decode cX2_setConfigs 5 = .ok (.iconst 0, 1) := by decide +kernel
theorem dX2_setConfigs_6 : decode cX2_setConfigs 6 = .ok (.istore_n 3, 1) := by decide +kernel
theorem dX2_setConfigs_7 : decode cX2_setConfigs 7 = .ok (.iload_n 3, 1) := by decide +kernel
theorem dX2_setConfigs_8 : decode cX2_setConfigs 8 = .ok (.bipush 8, 2) := by decide +kernel
theorem dX2_setConfigs_10 : decode cX2_setConfigs 10 = .ok (.if_icmp .ge 68, 3) := by decide +kernel
theorem dX2_setConfigs_13 : decode cX2_setConfigs 13 = .ok (.lload_n 1, 1) := by decide +kernel
theorem dX2_setConfigs_14 : decode cX2_setConfigs 14 = .ok (.bipush 8, 2) := by decide +kernel
theorem dX2_setConfigs_16 : decode cX2_setConfigs 16 = .ok (.iload_n 3, 1) := by decide +kernel
theorem dX2_setConfigs_17 : decode cX2_setConfigs 17 = .ok (.imul, 1) := by decide +kernel
theorem dX2_setConfigs_18 : decode cX2_setConfigs 18 = .ok (.lushr, 1) := by decide +kernel
theorem dX2_setConfigs_19 : decode cX2_setConfigs 19 = .ok (.l2i, 1) := by decide +kernel
theorem dX2_setConfigs_20 : decode cX2_setConfigs 20 = .ok (.sipush 159, 3) := by decide +kernel
theorem dX2_setConfigs_23 : decode cX2_setConfigs 23 = .ok (.iand, 1) := by decide +kernel
theorem dX2_setConfigs_24 : decode cX2_setConfigs 24 = .ok (.istore 4, 2) := by decide +kernel
theorem dX2_setConfigs_26 : decode cX2_setConfigs 26 = .ok (.iload 4, 2) := by decide +kernel
theorem dX2_setConfigs_28 : decode cX2_setConfigs 28 = .ok (.iconst 3, 1) := by decide +kernel
theorem dX2_setConfigs_29 : decode cX2_setConfigs 29 = .ok (.iand, 1) := by decide +kernel
theorem dX2_setConfigs_30 : decode cX2_setConfigs 30 = .ok (.iconst 2, 1) := by decide +kernel
theorem dX2_setConfigs_31 : decode cX2_setConfigs 31 = .ok (.if_icmp .ne 10, 3) := by decide +kernel
theorem dX2_setConfigs_34 : decode cX2_setConfigs 34 = .ok (.iload 4, 2) := by decide +kernel
theorem dX2_setConfigs_36 : decode cX2_setConfigs 36 = .ok (.iconst 2, 1) := by decide +kernel
theorem dX2_setConfigs_37 : decode cX2_setConfigs 37 = .ok (.isub, 1) := by decide +kernel
theorem dX2_setConfigs_38 : decode cX2_setConfigs 38 = .ok (.goto 5, 3) := by decide +kernel
theorem dX2_setConfigs_41 : decode cX2_setConfigs 41 = .ok (.iload 4, 2) := by decide +kernel
theorem dX2_setConfigs_43 : decode cX2_setConfigs 43 = .ok (.istore 4, 2) := by decide +kernel
theorem dX2_setConfigs_45 : decode cX2_setConfigs 45 = .ok (.aload_n 0, 1) := by decide +kernel
theorem dX2_setConfigs_46 : decode cX2_setConfigs 46 = .ok (.getfield 13, 3) := by decide +kernel
theorem dX2_setConfigs_49 : decode cX2_setConfigs 49 = .ok (.iload_n 3, 1) := by decide +kernel
theorem dX2_setConfigs_50 : decode cX2_setConfigs 50 = .ok (.aload_n 0, 1) := by decide +kernel
theorem dX2_setConfigs_51 : decode cX2_setConfigs 51 = .ok (.iload_n 3, 1) := by decide +kernel
theorem dX2_setConfigs_52 : decode cX2_setConfigs 52 = .ok (.bipush 7, 2) := by decide +kernel
theorem dX2_setConfigs_54 : decode cX2_setConfigs 54 = .ok (.invokevirtual 57, 3) := by decide +kernel
theorem dX2_setConfigs_57 : decode cX2_setConfigs 57 = .ok (.ifCond .eq 12, 3) := by decide +kernel
theorem dX2_setConfigs_60 : decode cX2_setConfigs 60 = .ok (.aload_n 0, 1) := by decide +kernel
theorem dX2_setConfigs_61 : decode cX2_setConfigs 61 = .ok (.getfield 13, 3) := by decide +kernel
theorem dX2_setConfigs_64 : decode cX2_setConfigs 64 = .ok (.iload_n 3, 1) := by decide +kernel
theorem dX2_setConfigs_65 : decode cX2_setConfigs 65 = .ok (.iaload, 1) := by decide +kernel
theorem dX2_setConfigs_66 : decode cX2_setConfigs 66 = .ok (.goto 5, 3) := by decide +kernel
theorem dX2_setConfigs_69 : decode cX2_setConfigs 69 = .ok (.iload 4, 2) := by decide +kernel
theorem dX2_setConfigs_71 : decode cX2_setConfigs 71 = .ok (.iastore, 1) := by decide +kernel
theorem dX2_setConfigs_72 : decode cX2_setConfigs 72 = .ok (.iinc 3 1, 3) := by decide +kernel
theorem dX2_setConfigs_75 : decode cX2_setConfigs 75 = .ok (.goto (-68), 3) := by decide +kernel
theorem dX2_setConfigs_78 : decode cX2_setConfigs 78 = .ok (.return_, 1) := by decide +kernel
theorem dX2_has_0 : decode cX2_has 0 = .ok (.aload_n 0, 1) := by decide +kernel
theorem dX2_has_1 : decode cX2_has 1 = .ok (.getfield 13, 3) := by decide +kernel
theorem dX2_has_4 : decode cX2_has 4 = .ok (.iload_n 1, 1) := by decide +kernel
theorem dX2_has_5 : decode cX2_has 5 = .ok (.iaload, 1) := by decide +kernel
theorem dX2_has_6 : decode cX2_has 6 = .ok (.iload_n 2, 1) := by decide +kernel
theorem dX2_has_7 : decode cX2_has 7 = .ok (.ishr, 1) := by decide +kernel
theorem dX2_has_8 : decode cX2_has 8 = .ok (.iconst 1, 1) := by decide +kernel
theorem dX2_has_9 : decode cX2_has 9 = .ok (.iand, 1) := by decide +kernel
theorem dX2_has_10 : decode cX2_has 10 = .ok (.iconst 1, 1) := by decide +kernel
theorem dX2_has_11 : decode cX2_has 11 = .ok (.if_icmp .ne 7, 3) := by decide +kernel
theorem dX2_has_14 : decode cX2_has 14 = .ok (.iconst 1, 1) := by decide +kernel
theorem dX2_has_15 : decode cX2_has 15 = .ok (.goto 4, 3) := by decide +kernel
theorem dX2_has_18 : decode cX2_has 18 = .ok (.iconst 0, 1) := by decide +kernel
theorem dX2_has_19 : decode cX2_has 19 = .ok (.ireturn, 1) := by decide +kernel
theorem dX2_number_0 : decode cX2_number 0 = .ok (.aload_n 0, 1) := by decide +kernel
theorem dX2_number_1 : decode cX2_number 1 = .ok (.iload_n 1, 1) := by decide +kernel
theorem dX2_number_2 : decode cX2_number 2 = .ok (.ifCond .lt 9, 3) := by decide +kernel
theorem dX2_number_5 : decode cX2_number 5 = .ok (.iload_n 1, 1) := by decide +kernel
theorem dX2_number_6 : decode cX2_number 6 = .ok (.bipush 7, 2) := by decide +kernel
theorem dX2_number_8 : decode cX2_number 8 = .ok (.if_icmp .le 7, 3) := by decide +kernel
theorem dX2_number_11 : decode cX2_number 11 = .ok (.iconst 1, 1) := by decide +kernel
theorem dX2_number_12 : decode cX2_number 12 = .ok (.goto 4, 3) := by decide +kernel
theorem dX2_number_15 : decode cX2_number 15 = .ok (.iconst 0, 1) := by decide +kernel
theorem dX2_number_16 : decode cX2_number 16 = .ok (.putfield 20, 3) := by decide +kernel
theorem dX2_number_19 : decode cX2_number 19 = .ok (.aload_n 0, 1) := by decide +kernel
theorem dX2_number_20 : decode cX2_number 20 = .ok (.getfield 20, 3) := by decide +kernel
theorem dX2_number_23 : decode cX2_number 23 = .ok (.ifCond .le 7, 3) := by decide +kernel
theorem dX2_number_26 : decode cX2_number 26 = .ok (.lconst 0, 1) := by decide +kernel
theorem dX2_number_27 : decode cX2_number 27 = .ok (.goto 9, 3) := by decide +kernel
theorem dX2_number_30 : decode cX2_number 30 = .ok (.aload_n 0, 1) := by decide +kernel
theorem dX2_number_31 : decode cX2_number 31 = .ok (.getfield 17, 3) := by decide +kernel
theorem dX2_number_34 : decode cX2_number 34 = .ok (.iload_n 1, 1) := by decide +kernel
theorem dX2_number_35 : decode cX2_number 35 = .ok (.laload, 1) := by decide +kernel
theorem dX2_number_36 : decode cX2_number 36 = .ok (.lreturn, 1) := by decide +kernel
theorem dX2_setNumber_0 : decode cX2_setNumber 0 = .ok (.aload_n 0, 1) := by decide +kernel
theorem dX2_setNumber_1 : decode cX2_setNumber 1 = .ok (.iload_n 1, 1) := by decide +kernel
theorem dX2_setNumber_2 : decode cX2_setNumber 2 = .ok (.ifCond .lt 9, 3) := by decide +kernel
theorem dX2_setNumber_5 : decode cX2_setNumber 5 = .ok (.iload_n 1, 1) := by decide +kernel
theorem dX2_setNumber_6 : decode cX2_setNumber 6 = .ok (.bipush 7, 2) := by decide +kernel
theorem dX2_setNumber_8 : decode cX2_setNumber 8 = .ok (.if_icmp .le 7, 3) := by decide +kernel
theorem dX2_setNumber_11 : decode cX2_setNumber 11 = .ok (.iconst 1, 1) := by decide +kernel
theorem dX2_setNumber_12 : decode cX2_setNumber 12 = .ok (.goto 4, 3) := by decide +kernel
theorem dX2_setNumber_15 : decode cX2_setNumber 15 = .ok (.iconst 0, 1) := by decide +kernel
theorem dX2_setNumber_16 : decode cX2_setNumber 16 = .ok (.putfield 20, 3) := by decide +kernel
theorem dX2_setNumber_19 : decode cX2_setNumber 19 = .ok (.aload_n 0, 1) := by decide +kernel
theorem dX2_setNumber_20 : decode cX2_setNumber 20 = .ok (.getfield 20, 3) := by decide +kernel
theorem dX2_setNumber_23 : decode cX2_setNumber 23 = .ok (.ifCond .le 4, 3) := by decide +kernel
theorem dX2_setNumber_26 : decode cX2_setNumber 26 = .ok (.return_, 1) := by decide +kernel
theorem dX2_setNumber_27 : decode cX2_setNumber 27 = .ok (.aload_n 0, 1) := by decide +kernel
theorem dX2_setNumber_28 : decode cX2_setNumber 28 = .ok (.iload_n 1, 1) := by decide +kernel
theorem dX2_setNumber_29 : decode cX2_setNumber 29 = .ok (.bipush 7, 2) := by decide +kernel
theorem dX2_setNumber_31 : decode cX2_setNumber 31 = .ok (.invokevirtual 57, 3) := by decide +kernel
theorem dX2_setNumber_34 : decode cX2_setNumber 34 = .ok (.ifCond .ne 32, 3) := by decide +kernel
theorem dX2_setNumber_37 : decode cX2_setNumber 37 = .ok (.iload_n 1, 1) := by decide +kernel
theorem dX2_setNumber_38 : decode cX2_setNumber 38 = .ok (.bipush 7, 2) := by decide +kernel
theorem dX2_setNumber_40 : decode cX2_setNumber 40 = .ok (.if_icmp .ge 30, 3) := by decide +kernel
theorem dX2_setNumber_43 : decode cX2_setNumber 43 = .ok (.aload_n 0, 1) := by decide +kernel
theorem dX2_setNumber_44 : decode cX2_setNumber 44 = .ok (.iload_n 1, 1) := by decide +kernel
theorem dX2_setNumber_45 : decode cX2_setNumber 45 = .ok (.iconst 1, 1) := by decide +kernel
theorem dX2_setNumber_46 : decode cX2_setNumber 46 = .ok (.iadd, 1) := by decide +kernel
theorem dX2_setNumber_47 : decode cX2_setNumber 47 = .ok (.bipush 7, 2) := by decide +kernel
theorem dX2_setNumber_49 : decode cX2_setNumber 49 = .ok (.invokevirtual 57, 3) := by decide +kernel
theorem dX2_setNumber_52 : decode cX2_setNumber 52 = .ok (.ifCond .eq 18, 3) := by decide +kernel
theorem dX2_setNumber_55 : decode cX2_setNumber 55 = .ok (.aload_n 0, 1) := by decide +kernel
theorem dX2_setNumber_56 : decode cX2_setNumber 56 = .ok (.iload_n 1, 1) := by decide +kernel
theorem dX2_setNumber_57 : decode cX2_setNumber 57 = .ok (.iconst 1, 1) := by decide +kernel
theorem dX2_setNumber_58 : decode cX2_setNumber 58 = .ok (.iadd, 1) := by decide +kernel
theorem dX2_setNumber_59 : decode cX2_setNumber 59 = .ok (.invokevirtual 61, 3) := by decide +kernel
theorem dX2_setNumber_62 : decode cX2_setNumber 62 = .ok (.iconst 1, 1) := by decide +kernel
theorem dX2_setNumber_63 : decode cX2_setNumber 63 = .ok (.if_icmp .ne 7, 3) := by decide +kernel
theorem dX2_setNumber_66 : decode cX2_setNumber 66 = .ok (.iconst 1, 1) := by decide +kernel
theorem dX2_setNumber_67 : decode cX2_setNumber 67 = .ok (.goto 4, 3) := by decide +kernel
theorem dX2_setNumber_70 : decode cX2_setNumber 70 = .ok (.iconst 0, 1) := by decide +kernel
theorem dX2_setNumber_71 : decode cX2_setNumber 71 = .ok (.istore 4, 2) := by decide +kernel
theorem dX2_setNumber_73 : decode cX2_setNumber 73 = .ok (.aload_n 0, 1) := by decide +kernel
theorem dX2_setNumber_74 : decode cX2_setNumber 74 = .ok (.getfield 17, 3) := by decide +kernel
theorem dX2_setNumber_77 : decode cX2_setNumber 77 = .ok (.iload_n 1, 1) := by decide +kernel
theorem dX2_setNumber_78 : decode cX2_setNumber 78 = .ok (.iload 4, 2) := by decide +kernel
theorem dX2_setNumber_80 : decode cX2_setNumber 80 = .ok (.ifCond .eq 12, 3) := by decide +kernel
theorem dX2_setNumber_83 : decode cX2_setNumber 83 = .ok (.aload_n 0, 1) := by decide +kernel
theorem dX2_setNumber_84 : decode cX2_setNumber 84 = .ok (.getfield 17, 3) := by decide +kernel
theorem dX2_setNumber_87 : decode cX2_setNumber 87 = .ok (.iload_n 1, 1) := by decide +kernel
theorem dX2_setNumber_88 : decode cX2_setNumber 88 = .ok (.laload, 1) := by decide +kernel
theorem dX2_setNumber_89 : decode cX2_setNumber 89 = .ok (.goto 8, 3) := by decide +kernel
theorem dX2_setNumber_92 : decode cX2_setNumber 92 = .ok (.lload_n 2, 1) := by decide +kernel
theorem dX2_setNumber_93 : decode cX2_setNumber 93 = .ok (.ldc2_w 65, 3) := by decide +kernel
theorem dX2_setNumber_96 : decode cX2_setNumber 96 = .ok (.land, 1) := by decide +kernel
theorem dX2_setNumber_97 : decode cX2_setNumber 97 = .ok (.lastore, 1) := by decide +kernel
theorem dX2_setNumber_98 : decode cX2_setNumber 98 = .ok (.return_, 1) := by decide +kernel
theorem dX2_kind_0 : decode cX2_kind 0 = .ok (.aload_n 0, 1) := by decide +kernel
theorem dX2_kind_1 : decode cX2_kind 1 = .ok (.getfield 13, 3) := by decide +kernel
theorem dX2_kind_4 : decode cX2_kind 4 = .ok (.iload_n 1, 1) := by decide +kernel
theorem dX2_kind_5 : decode cX2_kind 5 = .ok (.iaload, 1) := by decide +kernel
theorem dX2_kind_6 : decode cX2_kind 6 = .ok (.iconst 3, 1) := by decide +kernel
theorem dX2_kind_7 : decode cX2_kind 7 = .ok (.ishr, 1) := by decide +kernel
theorem dX2_kind_8 : decode cX2_kind 8 = .ok (.iconst 3, 1) := by decide +kernel
theorem dX2_kind_9 : decode cX2_kind 9 = .ok (.iand, 1) := by decide +kernel
theorem dX2_kind_10 : decode cX2_kind 10 = .ok (.ireturn, 1) := by decide +kernel
theorem dX2_allows_0 : decode cX2_allows 0 = .ok (.aload_n 0, 1) := by decide +kernel
theorem dX2_allows_1 : decode cX2_allows 1 = .ok (.iload_n 3, 1) := by decide +kernel
theorem dX2_allows_2 : decode cX2_allows 2 = .ok (.iload 4, 2) := by decide +kernel
theorem dX2_allows_4 : decode cX2_allows 4 = .ok (.iload 5, 2) := by decide +kernel
theorem dX2_allows_6 : decode cX2_allows 6 = .ok (.invokestatic 87, 3) := by decide +kernel
theorem dX2_allows_9 : decode cX2_allows 9 = .ok (.ifCond .eq 25, 3) := by decide +kernel
theorem dX2_allows_12 : decode cX2_allows 12 = .ok (.lload_n 1, 1) := by decide +kernel
theorem dX2_allows_13 : decode cX2_allows 13 = .ok (.iload 5, 2) := by decide +kernel
theorem dX2_allows_15 : decode cX2_allows 15 = .ok (.invokestatic 91, 3) := by decide +kernel
theorem dX2_allows_18 : decode cX2_allows 18 = .ok (.ifCond .eq 16, 3) := by decide +kernel
theorem dX2_allows_21 : decode cX2_allows 21 = .ok (.lload_n 1, 1) := by decide +kernel
theorem dX2_allows_22 : decode cX2_allows 22 = .ok (.bipush 56, 2) := by decide +kernel
theorem dX2_allows_24 : decode cX2_allows 24 = .ok (.lushr, 1) := by decide +kernel
theorem dX2_allows_25 : decode cX2_allows 25 = .ok (.lconst 0, 1) := by decide +kernel
theorem dX2_allows_26 : decode cX2_allows 26 = .ok (.lcmp, 1) := by decide +kernel
theorem dX2_allows_27 : decode cX2_allows 27 = .ok (.ifCond .ne 7, 3) := by decide +kernel
theorem dX2_allows_30 : decode cX2_allows 30 = .ok (.iconst 0, 1) := by decide +kernel
theorem dX2_allows_31 : decode cX2_allows 31 = .ok (.goto 4, 3) := by decide +kernel
theorem dX2_allows_34 : decode cX2_allows 34 = .ok (.iconst 1, 1) := by decide +kernel
theorem dX2_allows_35 : decode cX2_allows 35 = .ok (.putfield 20, 3) := by decide +kernel
theorem dX2_allows_38 : decode cX2_allows 38 = .ok (.aload_n 0, 1) := by decide +kernel
theorem dX2_allows_39 : decode cX2_allows 39 = .ok (.getfield 20, 3) := by decide +kernel
theorem dX2_allows_42 : decode cX2_allows 42 = .ok (.ifCond .ne 20, 3) := by decide +kernel
theorem dX2_allows_45 : decode cX2_allows 45 = .ok (.aload_n 0, 1) := by decide +kernel
theorem dX2_allows_46 : decode cX2_allows 46 = .ok (.lload_n 1, 1) := by decide +kernel
theorem dX2_allows_47 : decode cX2_allows 47 = .ok (.iload_n 3, 1) := by decide +kernel
theorem dX2_allows_48 : decode cX2_allows 48 = .ok (.iload 4, 2) := by decide +kernel
theorem dX2_allows_50 : decode cX2_allows 50 = .ok (.iload 5, 2) := by decide +kernel
theorem dX2_allows_52 : decode cX2_allows 52 = .ok (.invokevirtual 95, 3) := by decide +kernel
theorem dX2_allows_55 : decode cX2_allows 55 = .ok (.ifCond .eq 7, 3) := by decide +kernel
theorem dX2_allows_58 : decode cX2_allows 58 = .ok (.iconst 1, 1) := by decide +kernel
theorem dX2_allows_59 : decode cX2_allows 59 = .ok (.goto 4, 3) := by decide +kernel
theorem dX2_allows_62 : decode cX2_allows 62 = .ok (.iconst 0, 1) := by decide +kernel
theorem dX2_allows_63 : decode cX2_allows 63 = .ok (.ireturn, 1) := by decide +kernel
theorem dX2_isAccess_0 : decode cX2_isAccess 0 = .ok (.iload_n 2, 1) := by decide +kernel
theorem dX2_isAccess_1 : decode cX2_isAccess 1 = .ok (.iconst 1, 1) := by decide +kernel
theorem dX2_isAccess_2 : decode cX2_isAccess 2 = .ok (.if_icmp .eq 19, 3) := by decide +kernel
theorem dX2_isAccess_5 : decode cX2_isAccess 5 = .ok (.iload_n 2, 1) := by decide +kernel
theorem dX2_isAccess_6 : decode cX2_isAccess 6 = .ok (.iconst 2, 1) := by decide +kernel
theorem dX2_isAccess_7 : decode cX2_isAccess 7 = .ok (.if_icmp .eq 14, 3) := by decide +kernel
theorem dX2_isAccess_10 : decode cX2_isAccess 10 = .ok (.iload_n 2, 1) := by decide +kernel
theorem dX2_isAccess_11 : decode cX2_isAccess 11 = .ok (.iconst 4, 1) := by decide +kernel
theorem dX2_isAccess_12 : decode cX2_isAccess 12 = .ok (.if_icmp .eq 9, 3) := by decide +kernel
theorem dX2_isAccess_15 : decode cX2_isAccess 15 = .ok (.iload_n 2, 1) := by decide +kernel
theorem dX2_isAccess_16 : decode cX2_isAccess 16 = .ok (.bipush 8, 2) := by decide +kernel
theorem dX2_isAccess_18 : decode cX2_isAccess 18 = .ok (.if_icmp .ne 7, 3) := by decide +kernel
theorem dX2_isAccess_21 : decode cX2_isAccess 21 = .ok (.iconst 1, 1) := by decide +kernel
theorem dX2_isAccess_22 : decode cX2_isAccess 22 = .ok (.goto 4, 3) := by decide +kernel
theorem dX2_isAccess_25 : decode cX2_isAccess 25 = .ok (.iconst 0, 1) := by decide +kernel
theorem dX2_isAccess_26 : decode cX2_isAccess 26 = .ok (.istore_n 3, 1) := by decide +kernel
theorem dX2_isAccess_27 : decode cX2_isAccess 27 = .ok (.iload_n 0, 1) := by decide +kernel
theorem dX2_isAccess_28 : decode cX2_isAccess 28 = .ok (.ifCond .lt 30, 3) := by decide +kernel
theorem dX2_isAccess_31 : decode cX2_isAccess 31 = .ok (.iload_n 0, 1) := by decide +kernel
theorem dX2_isAccess_32 : decode cX2_isAccess 32 = .ok (.iconst 3, 1) := by decide +kernel
theorem dX2_isAccess_33 : decode cX2_isAccess 33 = .ok (.if_icmp .ge 25, 3) := by decide +kernel
theorem dX2_isAccess_36 : decode cX2_isAccess 36 = .ok (.iload_n 1, 1) := by decide +kernel
theorem dX2_isAccess_37 : decode cX2_isAccess 37 = .ok (.ifCond .eq 13, 3) := by decide +kernel
theorem dX2_isAccess_40 : decode cX2_isAccess 40 = .ok (.iload_n 1, 1) := by decide +kernel
theorem dX2_isAccess_41 : decode cX2_isAccess 41 = .ok (.iconst 1, 1) := by decide +kernel
theorem dX2_isAccess_42 : decode cX2_isAccess 42 = .ok (.if_icmp .eq 8, 3) := by decide +kernel
theorem dX2_isAccess_45 : decode cX2_isAccess 45 = .ok (.iload_n 1, 1) := by decide +kernel
theorem dX2_isAccess_46 : decode cX2_isAccess 46 = .ok (.iconst 3, 1) := by decide +kernel
theorem dX2_isAccess_47 : decode cX2_isAccess 47 = .ok (.if_icmp .ne 11, 3) := by decide +kernel
theorem dX2_isAccess_50 : decode cX2_isAccess 50 = .ok (.iload_n 3, 1) := by decide +kernel
theorem dX2_isAccess_51 : decode cX2_isAccess 51 = .ok (.ifCond .eq 7, 3) := by decide +kernel
theorem dX2_isAccess_54 : decode cX2_isAccess 54 = .ok (.iconst 1, 1) := by decide +kernel
theorem dX2_isAccess_55 : decode cX2_isAccess 55 = .ok (.goto 4, 3) := by decide +kernel
theorem dX2_isAccess_58 : decode cX2_isAccess 58 = .ok (.iconst 0, 1) := by decide +kernel
theorem dX2_isAccess_59 : decode cX2_isAccess 59 = .ok (.ireturn, 1) := by decide +kernel
theorem dX2_isWithin_0 : decode cX2_isWithin 0 = .ok (.lload_n 0, 1) := by decide +kernel
theorem dX2_isWithin_1 : decode cX2_isWithin 1 = .ok (.ldc2_w 83, 3) := by decide +kernel
theorem dX2_isWithin_4 : decode cX2_isWithin 4 = .ok (.land, 1) := by decide +kernel
theorem dX2_isWithin_5 : decode cX2_isWithin 5 = .ok (.iload_n 2, 1) := by decide +kernel
theorem dX2_isWithin_6 : decode cX2_isWithin 6 = .ok (.i2l, 1) := by decide +kernel
theorem dX2_isWithin_7 : decode cX2_isWithin 7 = .ok (.ladd, 1) := by decide +kernel
theorem dX2_isWithin_8 : decode cX2_isWithin 8 = .ok (.ldc2_w 85, 3) := by decide +kernel
theorem dX2_isWithin_11 : decode cX2_isWithin 11 = .ok (.lcmp, 1) := by decide +kernel
theorem dX2_isWithin_12 : decode cX2_isWithin 12 = .ok (.ifCond .gt 7, 3) := by decide +kernel
theorem dX2_isWithin_15 : decode cX2_isWithin 15 = .ok (.iconst 1, 1) := by decide +kernel
theorem dX2_isWithin_16 : decode cX2_isWithin 16 = .ok (.goto 4, 3) := by decide +kernel
theorem dX2_isWithin_19 : decode cX2_isWithin 19 = .ok (.iconst 0, 1) := by decide +kernel
theorem dX2_isWithin_20 : decode cX2_isWithin 20 = .ok (.ireturn, 1) := by decide +kernel
theorem dX2_isLet_0 : decode cX2_isLet 0 = .ok (.iconst 0, 1) := by decide +kernel
theorem dX2_isLet_1 : decode cX2_isLet 1 = .ok (.istore 6, 2) := by decide +kernel
theorem dX2_isLet_3 : decode cX2_isLet 3 = .ok (.iload 6, 2) := by decide +kernel
theorem dX2_isLet_5 : decode cX2_isLet 5 = .ok (.bipush 8, 2) := by decide +kernel
theorem dX2_isLet_7 : decode cX2_isLet 7 = .ok (.if_icmp .ge 137, 3) := by decide +kernel
theorem dX2_isLet_10 : decode cX2_isLet 10 = .ok (.aload_n 0, 1) := by decide +kernel
theorem dX2_isLet_11 : decode cX2_isLet 11 = .ok (.iload 6, 2) := by decide +kernel
theorem dX2_isLet_13 : decode cX2_isLet 13 = .ok (.invokevirtual 79, 3) := by decide +kernel
theorem dX2_isLet_16 : decode cX2_isLet 16 = .ok (.iconst 0, 1) := by decide +kernel
theorem dX2_isLet_17 : decode cX2_isLet 17 = .ok (.istore 7, 2) := by decide +kernel
theorem dX2_isLet_19 : decode cX2_isLet 19 = .ok (.iconst 0, 1) := by decide +kernel
theorem dX2_isLet_20 : decode cX2_isLet 20 = .ok (.istore 8, 2) := by decide +kernel
theorem dX2_isLet_22 : decode cX2_isLet 22 = .ok (.iload 8, 2) := by decide +kernel
theorem dX2_isLet_24 : decode cX2_isLet 24 = .ok (.iload 5, 2) := by decide +kernel
theorem dX2_isLet_26 : decode cX2_isLet 26 = .ok (.if_icmp .ge 46, 3) := by decide +kernel
theorem dX2_isLet_29 : decode cX2_isLet 29 = .ok (.lload_n 1, 1) := by decide +kernel
theorem dX2_isLet_30 : decode cX2_isLet 30 = .ok (.iload 8, 2) := by decide +kernel
theorem dX2_isLet_32 : decode cX2_isLet 32 = .ok (.i2l, 1) := by decide +kernel
theorem dX2_isLet_33 : decode cX2_isLet 33 = .ok (.ladd, 1) := by decide +kernel
theorem dX2_isLet_34 : decode cX2_isLet 34 = .ok (.aload_n 0, 1) := by decide +kernel
theorem dX2_isLet_35 : decode cX2_isLet 35 = .ok (.getfield 67, 3) := by decide +kernel
theorem dX2_isLet_38 : decode cX2_isLet 38 = .ok (.lcmp, 1) := by decide +kernel
theorem dX2_isLet_39 : decode cX2_isLet 39 = .ok (.ifCond .lt 23, 3) := by decide +kernel
theorem dX2_isLet_42 : decode cX2_isLet 42 = .ok (.lload_n 1, 1) := by decide +kernel
theorem dX2_isLet_43 : decode cX2_isLet 43 = .ok (.iload 8, 2) := by decide +kernel
theorem dX2_isLet_45 : decode cX2_isLet 45 = .ok (.i2l, 1) := by decide +kernel
theorem dX2_isLet_46 : decode cX2_isLet 46 = .ok (.ladd, 1) := by decide +kernel
theorem dX2_isLet_47 : decode cX2_isLet 47 = .ok (.aload_n 0, 1) := by decide +kernel
theorem dX2_isLet_48 : decode cX2_isLet 48 = .ok (.getfield 70, 3) := by decide +kernel
theorem dX2_isLet_51 : decode cX2_isLet 51 = .ok (.lcmp, 1) := by decide +kernel
theorem dX2_isLet_52 : decode cX2_isLet 52 = .ok (.ifCond .ge 10, 3) := by decide +kernel
theorem dX2_isLet_55 : decode cX2_isLet 55 = .ok (.iload 7, 2) := by decide +kernel
theorem dX2_isLet_57 : decode cX2_isLet 57 = .ok (.iconst 1, 1) := by decide +kernel
theorem dX2_isLet_58 : decode cX2_isLet 58 = .ok (.iadd, 1) := by decide +kernel
theorem dX2_isLet_59 : decode cX2_isLet 59 = .ok (.goto 5, 3) := by decide +kernel
theorem dX2_isLet_62 : decode cX2_isLet 62 = .ok (.iload 7, 2) := by decide +kernel
theorem dX2_isLet_64 : decode cX2_isLet 64 = .ok (.istore 7, 2) := by decide +kernel
theorem dX2_isLet_66 : decode cX2_isLet 66 = .ok (.iinc 8 1, 3) := by decide +kernel
theorem dX2_isLet_69 : decode cX2_isLet 69 = .ok (.goto (-47), 3) := by decide +kernel
theorem dX2_isLet_72 : decode cX2_isLet 72 = .ok (.iload 7, 2) := by decide +kernel
theorem dX2_isLet_74 : decode cX2_isLet 74 = .ok (.ifCond .le 64, 3) := by decide +kernel
theorem dX2_isLet_77 : decode cX2_isLet 77 = .ok (.iload_n 3, 1) := by decide +kernel
theorem dX2_isLet_78 : decode cX2_isLet 78 = .ok (.ifCond .ne 7, 3) := by decide +kernel
theorem dX2_isLet_81 : decode cX2_isLet 81 = .ok (.iconst 2, 1) := by decide +kernel
theorem dX2_isLet_82 : decode cX2_isLet 82 = .ok (.goto 13, 3) := by decide +kernel
theorem dX2_isLet_85 : decode cX2_isLet 85 = .ok (.iload_n 3, 1) := by decide +kernel
theorem dX2_isLet_86 : decode cX2_isLet 86 = .ok (.iconst 1, 1) := by decide +kernel
theorem dX2_isLet_87 : decode cX2_isLet 87 = .ok (.if_icmp .ne 7, 3) := by decide +kernel
theorem dX2_isLet_90 : decode cX2_isLet 90 = .ok (.iconst 0, 1) := by decide +kernel
theorem dX2_isLet_91 : decode cX2_isLet 91 = .ok (.goto 4, 3) := by decide +kernel
theorem dX2_isLet_94 : decode cX2_isLet 94 = .ok (.iconst 1, 1) := by decide +kernel
theorem dX2_isLet_95 : decode cX2_isLet 95 = .ok (.istore 8, 2) := by decide +kernel
theorem dX2_isLet_97 : decode cX2_isLet 97 = .ok (.iload 7, 2) := by decide +kernel
theorem dX2_isLet_99 : decode cX2_isLet 99 = .ok (.iload 5, 2) := by decide +kernel
theorem dX2_isLet_101 : decode cX2_isLet 101 = .ok (.if_icmp .ne 35, 3) := by decide +kernel
theorem dX2_isLet_104 : decode cX2_isLet 104 = .ok (.iload 4, 2) := by decide +kernel
theorem dX2_isLet_106 : decode cX2_isLet 106 = .ok (.iconst 3, 1) := by decide +kernel
theorem dX2_isLet_107 : decode cX2_isLet 107 = .ok (.if_icmp .ne 14, 3) := by decide +kernel
theorem dX2_isLet_110 : decode cX2_isLet 110 = .ok (.aload_n 0, 1) := by decide +kernel
theorem dX2_isLet_111 : decode cX2_isLet 111 = .ok (.iload 6, 2) := by decide +kernel
theorem dX2_isLet_113 : decode cX2_isLet 113 = .ok (.bipush 7, 2) := by decide +kernel
theorem dX2_isLet_115 : decode cX2_isLet 115 = .ok (.invokevirtual 57, 3) := by decide +kernel
theorem dX2_isLet_118 : decode cX2_isLet 118 = .ok (.ifCond .eq 14, 3) := by decide +kernel
theorem dX2_isLet_121 : decode cX2_isLet 121 = .ok (.aload_n 0, 1) := by decide +kernel
theorem dX2_isLet_122 : decode cX2_isLet 122 = .ok (.iload 6, 2) := by decide +kernel
theorem dX2_isLet_124 : decode cX2_isLet 124 = .ok (.iload 8, 2) := by decide +kernel
theorem dX2_isLet_126 : decode cX2_isLet 126 = .ok (.invokevirtual 57, 3) := by decide +kernel
theorem dX2_isLet_129 : decode cX2_isLet 129 = .ok (.ifCond .eq 7, 3) := by decide +kernel
theorem dX2_isLet_132 : decode cX2_isLet 132 = .ok (.iconst 1, 1) := by decide +kernel
theorem dX2_isLet_133 : decode cX2_isLet 133 = .ok (.goto 4, 3) := by decide +kernel
theorem dX2_isLet_136 : decode cX2_isLet 136 = .ok (.iconst 0, 1) := by decide +kernel
theorem dX2_isLet_137 : decode cX2_isLet 137 = .ok (.ireturn, 1) := by decide +kernel
theorem dX2_isLet_138 : decode cX2_isLet 138 = .ok (.iinc 6 1, 3) := by decide +kernel
theorem dX2_isLet_141 : decode cX2_isLet 141 = .ok (.goto (-138), 3) := by decide +kernel
theorem dX2_isLet_144 : decode cX2_isLet 144 = .ok (.iload 4, 2) := by decide +kernel
theorem dX2_isLet_146 : decode cX2_isLet 146 = .ok (.iconst 3, 1) := by decide +kernel
theorem dX2_isLet_147 : decode cX2_isLet 147 = .ok (.if_icmp .ne 7, 3) := by decide +kernel
theorem dX2_isLet_150 : decode cX2_isLet 150 = .ok (.iconst 1, 1) := by decide +kernel
theorem dX2_isLet_151 : decode cX2_isLet 151 = .ok (.goto 4, 3) := by decide +kernel
theorem dX2_isLet_154 : decode cX2_isLet 154 = .ok (.iconst 0, 1) := by decide +kernel
theorem dX2_isLet_155 : decode cX2_isLet 155 = .ok (.ireturn, 1) := by decide +kernel
theorem dX2_cover_0 : decode cX2_cover 0 = .ok (.aload_n 0, 1) := by decide +kernel
theorem dX2_cover_1 : decode cX2_cover 1 = .ok (.iload_n 1, 1) := by decide +kernel
theorem dX2_cover_2 : decode cX2_cover 2 = .ok (.invokevirtual 61, 3) := by decide +kernel
theorem dX2_cover_5 : decode cX2_cover 5 = .ok (.istore_n 2, 1) := by decide +kernel
theorem dX2_cover_6 : decode cX2_cover 6 = .ok (.aload_n 0, 1) := by decide +kernel
theorem dX2_cover_7 : decode cX2_cover 7 = .ok (.lconst 0, 1) := by decide +kernel
theorem dX2_cover_8 : decode cX2_cover 8 = .ok (.putfield 67, 3) := by decide +kernel
theorem dX2_cover_11 : decode cX2_cover 11 = .ok (.aload_n 0, 1) := by decide +kernel
theorem dX2_cover_12 : decode cX2_cover 12 = .ok (.lconst 0, 1) := by decide +kernel
theorem dX2_cover_13 : decode cX2_cover 13 = .ok (.putfield 70, 3) := by decide +kernel
theorem dX2_cover_16 : decode cX2_cover 16 = .ok (.iload_n 2, 1) := by decide +kernel
theorem dX2_cover_17 : decode cX2_cover 17 = .ok (.iconst 1, 1) := by decide +kernel
theorem dX2_cover_18 : decode cX2_cover 18 = .ok (.if_icmp .ne 44, 3) := by decide +kernel
theorem dX2_cover_21 : decode cX2_cover 21 = .ok (.aload_n 0, 1) := by decide +kernel
theorem dX2_cover_22 : decode cX2_cover 22 = .ok (.iload_n 1, 1) := by decide +kernel
theorem dX2_cover_23 : decode cX2_cover 23 = .ok (.ifCond .ne 7, 3) := by decide +kernel
theorem dX2_cover_26 : decode cX2_cover 26 = .ok (.lconst 0, 1) := by decide +kernel
theorem dX2_cover_27 : decode cX2_cover 27 = .ok (.goto 15, 3) := by decide +kernel
theorem dX2_cover_30 : decode cX2_cover 30 = .ok (.ldc2_w 73, 3) := by decide +kernel
theorem dX2_cover_33 : decode cX2_cover 33 = .ok (.aload_n 0, 1) := by decide +kernel
theorem dX2_cover_34 : decode cX2_cover 34 = .ok (.getfield 17, 3) := by decide +kernel
theorem dX2_cover_37 : decode cX2_cover 37 = .ok (.iload_n 1, 1) := by decide +kernel
theorem dX2_cover_38 : decode cX2_cover 38 = .ok (.iconst 1, 1) := by decide +kernel
theorem dX2_cover_39 : decode cX2_cover 39 = .ok (.isub, 1) := by decide +kernel
theorem dX2_cover_40 : decode cX2_cover 40 = .ok (.laload, 1) := by decide +kernel
theorem dX2_cover_41 : decode cX2_cover 41 = .ok (.lmul, 1) := by decide +kernel
theorem dX2_cover_42 : decode cX2_cover 42 = .ok (.putfield 67, 3) := by decide +kernel
theorem dX2_cover_45 : decode cX2_cover 45 = .ok (.aload_n 0, 1) := by decide +kernel
theorem dX2_cover_46 : decode cX2_cover 46 = .ok (.ldc2_w 73, 3) := by decide +kernel
theorem dX2_cover_49 : decode cX2_cover 49 = .ok (.aload_n 0, 1) := by decide +kernel
theorem dX2_cover_50 : decode cX2_cover 50 = .ok (.getfield 17, 3) := by decide +kernel
theorem dX2_cover_53 : decode cX2_cover 53 = .ok (.iload_n 1, 1) := by decide +kernel
theorem dX2_cover_54 : decode cX2_cover 54 = .ok (.laload, 1) := by decide +kernel
theorem dX2_cover_55 : decode cX2_cover 55 = .ok (.lmul, 1) := by decide +kernel
theorem dX2_cover_56 : decode cX2_cover 56 = .ok (.putfield 70, 3) := by decide +kernel
theorem dX2_cover_59 : decode cX2_cover 59 = .ok (.goto 95, 3) := by decide +kernel
theorem dX2_cover_62 : decode cX2_cover 62 = .ok (.iload_n 2, 1) := by decide +kernel
theorem dX2_cover_63 : decode cX2_cover 63 = .ok (.iconst 1, 1) := by decide +kernel
theorem dX2_cover_64 : decode cX2_cover 64 = .ok (.if_icmp .le 90, 3) := by decide +kernel
theorem dX2_cover_67 : decode cX2_cover 67 = .ok (.ldc2_w 73, 3) := by decide +kernel
theorem dX2_cover_70 : decode cX2_cover 70 = .ok (.lstore_n 3, 1) := by decide +kernel
theorem dX2_cover_71 : decode cX2_cover 71 = .ok (.aload_n 0, 1) := by decide +kernel
theorem dX2_cover_72 : decode cX2_cover 72 = .ok (.getfield 17, 3) := by decide +kernel
theorem dX2_cover_75 : decode cX2_cover 75 = .ok (.iload_n 1, 1) := by decide +kernel
theorem dX2_cover_76 : decode cX2_cover 76 = .ok (.laload, 1) := by decide +kernel
theorem dX2_cover_77 : decode cX2_cover 77 = .ok (.lstore 5, 2) := by decide +kernel
theorem dX2_cover_79 : decode cX2_cover 79 = .ok (.iload_n 2, 1) := by decide +kernel
theorem dX2_cover_80 : decode cX2_cover 80 = .ok (.iconst 3, 1) := by decide +kernel
theorem dX2_cover_81 : decode cX2_cover 81 = .ok (.if_icmp .ne 53, 3) := by decide +kernel
theorem dX2_cover_84 : decode cX2_cover 84 = .ok (.lconst 1, 1) := by decide +kernel
theorem dX2_cover_85 : decode cX2_cover 85 = .ok (.lstore 7, 2) := by decide +kernel
theorem dX2_cover_87 : decode cX2_cover 87 = .ok (.ldc2_w 28, 3) := by decide +kernel
theorem dX2_cover_90 : decode cX2_cover 90 = .ok (.lstore_n 3, 1) := by decide +kernel
theorem dX2_cover_91 : decode cX2_cover 91 = .ok (.lload 7, 2) := by decide +kernel
theorem dX2_cover_93 : decode cX2_cover 93 = .ok (.ldc2_w 75, 3) := by decide +kernel
theorem dX2_cover_96 : decode cX2_cover 96 = .ok (.lcmp, 1) := by decide +kernel
theorem dX2_cover_97 : decode cX2_cover 97 = .ok (.ifCond .ge 37, 3) := by decide +kernel
theorem dX2_cover_100 : decode cX2_cover 100 = .ok (.lload 5, 2) := by decide +kernel
theorem dX2_cover_102 : decode cX2_cover 102 = .ok (.lload 7, 2) := by decide +kernel
theorem dX2_cover_104 : decode cX2_cover 104 = .ok (.land, 1) := by decide +kernel
theorem dX2_cover_105 : decode cX2_cover 105 = .ok (.lconst 0, 1) := by decide +kernel
theorem dX2_cover_106 : decode cX2_cover 106 = .ok (.lcmp, 1) := by decide +kernel
theorem dX2_cover_107 : decode cX2_cover 107 = .ok (.ifCond .eq 27, 3) := by decide +kernel
theorem dX2_cover_110 : decode cX2_cover 110 = .ok (.lload 5, 2) := by decide +kernel
theorem dX2_cover_112 : decode cX2_cover 112 = .ok (.lload 7, 2) := by decide +kernel
theorem dX2_cover_114 : decode cX2_cover 114 = .ok (.lsub, 1) := by decide +kernel
theorem dX2_cover_115 : decode cX2_cover 115 = .ok (.lstore 5, 2) := by decide +kernel
theorem dX2_cover_117 : decode cX2_cover 117 = .ok (.ldc2_w 77, 3) := by decide +kernel
theorem dX2_cover_120 : decode cX2_cover 120 = .ok (.lload 7, 2) := by decide +kernel
theorem dX2_cover_122 : decode cX2_cover 122 = .ok (.lmul, 1) := by decide +kernel
theorem dX2_cover_123 : decode cX2_cover 123 = .ok (.lstore 7, 2) := by decide +kernel
theorem dX2_cover_125 : decode cX2_cover 125 = .ok (.ldc2_w 77, 3) := by decide +kernel
theorem dX2_cover_128 : decode cX2_cover 128 = .ok (.lload_n 3, 1) := by decide +kernel
theorem dX2_cover_129 : decode cX2_cover 129 = .ok (.lmul, 1) := by decide +kernel
theorem dX2_cover_130 : decode cX2_cover 130 = .ok (.lstore_n 3, 1) := by decide +kernel
theorem dX2_cover_131 : decode cX2_cover 131 = .ok (.goto (-40), 3) := by decide +kernel
theorem dX2_cover_134 : decode cX2_cover 134 = .ok (.aload_n 0, 1) := by decide +kernel
theorem dX2_cover_135 : decode cX2_cover 135 = .ok (.ldc2_w 73, 3) := by decide +kernel
theorem dX2_cover_138 : decode cX2_cover 138 = .ok (.lload 5, 2) := by decide +kernel
theorem dX2_cover_140 : decode cX2_cover 140 = .ok (.lmul, 1) := by decide +kernel
theorem dX2_cover_141 : decode cX2_cover 141 = .ok (.putfield 67, 3) := by decide +kernel
theorem dX2_cover_144 : decode cX2_cover 144 = .ok (.aload_n 0, 1) := by decide +kernel
theorem dX2_cover_145 : decode cX2_cover 145 = .ok (.aload_n 0, 1) := by decide +kernel
theorem dX2_cover_146 : decode cX2_cover 146 = .ok (.getfield 67, 3) := by decide +kernel
theorem dX2_cover_149 : decode cX2_cover 149 = .ok (.lload_n 3, 1) := by decide +kernel
theorem dX2_cover_150 : decode cX2_cover 150 = .ok (.ladd, 1) := by decide +kernel
theorem dX2_cover_151 : decode cX2_cover 151 = .ok (.putfield 70, 3) := by decide +kernel
theorem dX2_cover_154 : decode cX2_cover 154 = .ok (.return_, 1) := by decide +kernel
theorem dX2_find_0 : decode cX2_find 0 = .ok (.aload_n 0, 1) := by decide +kernel
theorem dX2_find_1 : decode cX2_find 1 = .ok (.iload_n 3, 1) := by decide +kernel
theorem dX2_find_2 : decode cX2_find 2 = .ok (.iload 4, 2) := by decide +kernel
theorem dX2_find_4 : decode cX2_find 4 = .ok (.iload 5, 2) := by decide +kernel
theorem dX2_find_6 : decode cX2_find 6 = .ok (.invokestatic 87, 3) := by decide +kernel
theorem dX2_find_9 : decode cX2_find 9 = .ok (.ifCond .eq 16, 3) := by decide +kernel
theorem dX2_find_12 : decode cX2_find 12 = .ok (.lload_n 1, 1) := by decide +kernel
theorem dX2_find_13 : decode cX2_find 13 = .ok (.iload 5, 2) := by decide +kernel
theorem dX2_find_15 : decode cX2_find 15 = .ok (.invokestatic 91, 3) := by decide +kernel
theorem dX2_find_18 : decode cX2_find 18 = .ok (.ifCond .eq 7, 3) := by decide +kernel
theorem dX2_find_21 : decode cX2_find 21 = .ok (.iconst 0, 1) := by decide +kernel
theorem dX2_find_22 : decode cX2_find 22 = .ok (.goto 4, 3) := by decide +kernel
theorem dX2_find_25 : decode cX2_find 25 = .ok (.iconst 1, 1) := by decide +kernel
theorem dX2_find_26 : decode cX2_find 26 = .ok (.putfield 20, 3) := by decide +kernel
theorem dX2_find_29 : decode cX2_find 29 = .ok (.aload_n 0, 1) := by decide +kernel
theorem dX2_find_30 : decode cX2_find 30 = .ok (.getfield 20, 3) := by decide +kernel
theorem dX2_find_33 : decode cX2_find 33 = .ok (.ifCond .le 5, 3) := by decide +kernel
theorem dX2_find_36 : decode cX2_find 36 = .ok (.lconst 0, 1) := by decide +kernel
theorem dX2_find_37 : decode cX2_find 37 = .ok (.lreturn, 1) := by decide +kernel
theorem dX2_find_38 : decode cX2_find 38 = .ok (.iload 4, 2) := by decide +kernel
theorem dX2_find_40 : decode cX2_find 40 = .ok (.iconst 3, 1) := by decide +kernel
theorem dX2_find_41 : decode cX2_find 41 = .ok (.if_icmp .eq 15, 3) := by decide +kernel
theorem dX2_find_44 : decode cX2_find 44 = .ok (.aload_n 0, 1) := by decide +kernel
theorem dX2_find_45 : decode cX2_find 45 = .ok (.getfield 38, 3) := by decide +kernel
theorem dX2_find_48 : decode cX2_find 48 = .ok (.invokestatic 42, 3) := by decide +kernel
theorem dX2_find_51 : decode cX2_find 51 = .ok (.lconst 0, 1) := by decide +kernel
theorem dX2_find_52 : decode cX2_find 52 = .ok (.lcmp, 1) := by decide +kernel
theorem dX2_find_53 : decode cX2_find 53 = .ok (.ifCond .ne 7, 3) := by decide +kernel
theorem dX2_find_56 : decode cX2_find 56 = .ok (.iconst 1, 1) := by decide +kernel
theorem dX2_find_57 : decode cX2_find 57 = .ok (.goto 4, 3) := by decide +kernel
theorem dX2_find_60 : decode cX2_find 60 = .ok (.iconst 0, 1) := by decide +kernel
theorem dX2_find_61 : decode cX2_find 61 = .ok (.istore 6, 2) := by decide +kernel
theorem dX2_find_63 : decode cX2_find 63 = .ok (.iload 6, 2) := by decide +kernel
theorem dX2_find_65 : decode cX2_find 65 = .ok (.ifCond .eq 17, 3) := by decide +kernel
theorem dX2_find_68 : decode cX2_find 68 = .ok (.lload_n 1, 1) := by decide +kernel
theorem dX2_find_69 : decode cX2_find 69 = .ok (.bipush 56, 2) := by decide +kernel
theorem dX2_find_71 : decode cX2_find 71 = .ok (.lushr, 1) := by decide +kernel
theorem dX2_find_72 : decode cX2_find 72 = .ok (.lconst 0, 1) := by decide +kernel
theorem dX2_find_73 : decode cX2_find 73 = .ok (.lcmp, 1) := by decide +kernel
theorem dX2_find_74 : decode cX2_find 74 = .ok (.ifCond .eq 8, 3) := by decide +kernel
theorem dX2_find_77 : decode cX2_find 77 = .ok (.iload_n 3, 1) := by decide +kernel
theorem dX2_find_78 : decode cX2_find 78 = .ok (.invokestatic 122, 3) := by decide +kernel
theorem dX2_find_81 : decode cX2_find 81 = .ok (.lreturn, 1) := by decide +kernel
theorem dX2_find_82 : decode cX2_find 82 = .ok (.iload 6, 2) := by decide +kernel
theorem dX2_find_84 : decode cX2_find 84 = .ok (.ifCond .eq 7, 3) := by decide +kernel
theorem dX2_find_87 : decode cX2_find 87 = .ok (.lload_n 1, 1) := by decide +kernel
theorem dX2_find_88 : decode cX2_find 88 = .ok (.goto 11, 3) := by decide +kernel
theorem dX2_find_91 : decode cX2_find 91 = .ok (.aload_n 0, 1) := by decide +kernel
theorem dX2_find_92 : decode cX2_find 92 = .ok (.lload_n 1, 1) := by decide +kernel
theorem dX2_find_93 : decode cX2_find 93 = .ok (.iload_n 3, 1) := by decide +kernel
theorem dX2_find_94 : decode cX2_find 94 = .ok (.iload 4, 2) := by decide +kernel
theorem dX2_find_96 : decode cX2_find 96 = .ok (.invokevirtual 143, 3) := by decide +kernel
theorem dX2_find_99 : decode cX2_find 99 = .ok (.lstore 7, 2) := by decide +kernel
theorem dX2_find_101 : decode cX2_find 101 = .ok (.lload 7, 2) := by decide +kernel
theorem dX2_find_103 : decode cX2_find 103 = .ok (.lconst 0, 1) := by decide +kernel
theorem dX2_find_104 : decode cX2_find 104 = .ok (.lcmp, 1) := by decide +kernel
theorem dX2_find_105 : decode cX2_find 105 = .ok (.ifCond .lt 17, 3) := by decide +kernel
theorem dX2_find_108 : decode cX2_find 108 = .ok (.aload_n 0, 1) := by decide +kernel
theorem dX2_find_109 : decode cX2_find 109 = .ok (.lload 7, 2) := by decide +kernel
theorem dX2_find_111 : decode cX2_find 111 = .ok (.iload_n 3, 1) := by decide +kernel
theorem dX2_find_112 : decode cX2_find 112 = .ok (.iload 4, 2) := by decide +kernel
theorem dX2_find_114 : decode cX2_find 114 = .ok (.iload 5, 2) := by decide +kernel
theorem dX2_find_116 : decode cX2_find 116 = .ok (.invokevirtual 95, 3) := by decide +kernel
theorem dX2_find_119 : decode cX2_find 119 = .ok (.ifCond .eq 8, 3) := by decide +kernel
theorem dX2_find_122 : decode cX2_find 122 = .ok (.lload 7, 2) := by decide +kernel
theorem dX2_find_124 : decode cX2_find 124 = .ok (.goto 7, 3) := by decide +kernel
theorem dX2_find_127 : decode cX2_find 127 = .ok (.iload_n 3, 1) := by decide +kernel
theorem dX2_find_128 : decode cX2_find 128 = .ok (.invokestatic 122, 3) := by decide +kernel
theorem dX2_find_131 : decode cX2_find 131 = .ok (.lreturn, 1) := by decide +kernel
theorem dX2_accessFault_0 : decode cX2_accessFault 0 = .ok (.iload_n 0, 1) := by decide +kernel
theorem dX2_accessFault_1 : decode cX2_accessFault 1 = .ok (.ifCond .ne 9, 3) := by decide +kernel
theorem dX2_accessFault_4 : decode cX2_accessFault 4 = .ok (.ldc2_w 99, 3) := by decide +kernel
theorem dX2_accessFault_7 : decode cX2_accessFault 7 = .ok (.goto 17, 3) := by decide +kernel
theorem dX2_accessFault_10 : decode cX2_accessFault 10 = .ok (.iload_n 0, 1) := by decide +kernel
theorem dX2_accessFault_11 : decode cX2_accessFault 11 = .ok (.iconst 1, 1) := by decide +kernel
theorem dX2_accessFault_12 : decode cX2_accessFault 12 = .ok (.if_icmp .ne 9, 3) := by decide +kernel
theorem dX2_accessFault_15 : decode cX2_accessFault 15 = .ok (.ldc2_w 101, 3) := by decide +kernel
theorem dX2_accessFault_18 : decode cX2_accessFault 18 = .ok (.goto 6, 3) := by decide +kernel
theorem dX2_accessFault_21 : decode cX2_accessFault 21 = .ok (.ldc2_w 103, 3) := by decide +kernel
theorem dX2_accessFault_24 : decode cX2_accessFault 24 = .ok (.lreturn, 1) := by decide +kernel
theorem dX2_walk_0 : decode cX2_walk 0 = .ok (.aload_n 0, 1) := by decide +kernel
theorem dX2_walk_1 : decode cX2_walk 1 = .ok (.getfield 38, 3) := by decide +kernel
theorem dX2_walk_4 : decode cX2_walk 4 = .ok (.invokestatic 42, 3) := by decide +kernel
theorem dX2_walk_7 : decode cX2_walk 7 = .ok (.ldc2_w 28, 3) := by decide +kernel
theorem dX2_walk_10 : decode cX2_walk 10 = .ok (.lcmp, 1) := by decide +kernel
theorem dX2_walk_11 : decode cX2_walk 11 = .ok (.ifCond .ne 7, 3) := by decide +kernel
theorem dX2_walk_14 : decode cX2_walk 14 = .ok (.iconst 3, 1) := by decide +kernel
theorem dX2_walk_15 : decode cX2_walk 15 = .ok (.goto 4, 3) := by decide +kernel
theorem dX2_walk_18 : decode cX2_walk 18 = .ok (.iconst 4, 1) := by decide +kernel
theorem dX2_walk_19 : decode cX2_walk 19 = .ok (.istore 5, 2) := by decide +kernel
theorem dX2_walk_21 : decode cX2_walk 21 = .ok (.lload_n 1, 1) := by decide +kernel
theorem dX2_walk_22 : decode cX2_walk 22 = .ok (.bipush 9, 2) := by decide +kernel
theorem dX2_walk_24 : decode cX2_walk 24 = .ok (.iload 5, 2) := by decide +kernel
theorem dX2_walk_26 : decode cX2_walk 26 = .ok (.imul, 1) := by decide +kernel
theorem dX2_walk_27 : decode cX2_walk 27 = .ok (.bipush 11, 2) := by decide +kernel
theorem dX2_walk_29 : decode cX2_walk 29 = .ok (.iadd, 1) := by decide +kernel
theorem dX2_walk_30 : decode cX2_walk 30 = .ok (.lshr, 1) := by decide +kernel
theorem dX2_walk_31 : decode cX2_walk 31 = .ok (.lstore 6, 2) := by decide +kernel
theorem dX2_walk_33 : decode cX2_walk 33 = .ok (.lload 6, 2) := by decide +kernel
theorem dX2_walk_35 : decode cX2_walk 35 = .ok (.lconst 0, 1) := by decide +kernel
theorem dX2_walk_36 : decode cX2_walk 36 = .ok (.lcmp, 1) := by decide +kernel
theorem dX2_walk_37 : decode cX2_walk 37 = .ok (.ifCond .eq 17, 3) := by decide +kernel
theorem dX2_walk_40 : decode cX2_walk 40 = .ok (.lload 6, 2) := by decide +kernel
theorem dX2_walk_42 : decode cX2_walk 42 = .ok (.ldc2_w 99, 3) := by decide +kernel
theorem dX2_walk_45 : decode cX2_walk 45 = .ok (.lcmp, 1) := by decide +kernel
theorem dX2_walk_46 : decode cX2_walk 46 = .ok (.ifCond .eq 8, 3) := by decide +kernel
theorem dX2_walk_49 : decode cX2_walk 49 = .ok (.iload_n 3, 1) := by decide +kernel
theorem dX2_walk_50 : decode cX2_walk 50 = .ok (.invokestatic 116, 3) := by decide +kernel
theorem dX2_walk_53 : decode cX2_walk 53 = .ok (.lreturn, 1) := by decide +kernel
theorem dX2_walk_54 : decode cX2_walk 54 = .ok (.aload_n 0, 1) := by decide +kernel
theorem dX2_walk_55 : decode cX2_walk 55 = .ok (.getfield 38, 3) := by decide +kernel
theorem dX2_walk_58 : decode cX2_walk 58 = .ok (.ldc2_w 111, 3) := by decide +kernel
theorem dX2_walk_61 : decode cX2_walk 61 = .ok (.land, 1) := by decide +kernel
theorem dX2_walk_62 : decode cX2_walk 62 = .ok (.lstore 8, 2) := by decide +kernel
theorem dX2_walk_64 : decode cX2_walk 64 = .ok (.iload 5, 2) := by decide +kernel
theorem dX2_walk_66 : decode cX2_walk 66 = .ok (.iconst 1, 1) := by decide +kernel
theorem dX2_walk_67 : decode cX2_walk 67 = .ok (.isub, 1) := by decide +kernel
theorem dX2_walk_68 : decode cX2_walk 68 = .ok (.istore 10, 2) := by decide +kernel
theorem dX2_walk_70 : decode cX2_walk 70 = .ok (.iload 10, 2) := by decide +kernel
theorem dX2_walk_72 : decode cX2_walk 72 = .ok (.ifCond .lt 164, 3) := by decide +kernel
theorem dX2_walk_75 : decode cX2_walk 75 = .ok (.ldc2_w 85, 3) := by decide +kernel
theorem dX2_walk_78 : decode cX2_walk 78 = .ok (.lload 8, 2) := by decide +kernel
theorem dX2_walk_80 : decode cX2_walk 80 = .ok (.lmul, 1) := by decide +kernel
theorem dX2_walk_81 : decode cX2_walk 81 = .ok (.ldc2_w 28, 3) := by decide +kernel
theorem dX2_walk_84 : decode cX2_walk 84 = .ok (.lload_n 1, 1) := by decide +kernel
theorem dX2_walk_85 : decode cX2_walk 85 = .ok (.bipush 12, 2) := by decide +kernel
theorem dX2_walk_87 : decode cX2_walk 87 = .ok (.bipush 9, 2) := by decide +kernel
theorem dX2_walk_89 : decode cX2_walk 89 = .ok (.iload 10, 2) := by decide +kernel
theorem dX2_walk_91 : decode cX2_walk 91 = .ok (.imul, 1) := by decide +kernel
theorem dX2_walk_92 : decode cX2_walk 92 = .ok (.iadd, 1) := by decide +kernel
theorem dX2_walk_93 : decode cX2_walk 93 = .ok (.lushr, 1) := by decide +kernel
theorem dX2_walk_94 : decode cX2_walk 94 = .ok (.ldc2_w 120, 3) := by decide +kernel
theorem dX2_walk_97 : decode cX2_walk 97 = .ok (.land, 1) := by decide +kernel
theorem dX2_walk_98 : decode cX2_walk 98 = .ok (.lmul, 1) := by decide +kernel
theorem dX2_walk_99 : decode cX2_walk 99 = .ok (.ladd, 1) := by decide +kernel
theorem dX2_walk_100 : decode cX2_walk 100 = .ok (.lstore 11, 2) := by decide +kernel
theorem dX2_walk_102 : decode cX2_walk 102 = .ok (.lload 11, 2) := by decide +kernel
theorem dX2_walk_104 : decode cX2_walk 104 = .ok (.invokestatic 30, 3) := by decide +kernel
theorem dX2_walk_107 : decode cX2_walk 107 = .ok (.ifCond .eq 16, 3) := by decide +kernel
theorem dX2_walk_110 : decode cX2_walk 110 = .ok (.aload_n 0, 1) := by decide +kernel
theorem dX2_walk_111 : decode cX2_walk 111 = .ok (.lload 11, 2) := by decide +kernel
theorem dX2_walk_113 : decode cX2_walk 113 = .ok (.iconst 1, 1) := by decide +kernel
theorem dX2_walk_114 : decode cX2_walk 114 = .ok (.iconst 1, 1) := by decide +kernel
theorem dX2_walk_115 : decode cX2_walk 115 = .ok (.bipush 8, 2) := by decide +kernel
theorem dX2_walk_117 : decode cX2_walk 117 = .ok (.invokevirtual 95, 3) := by decide +kernel
theorem dX2_walk_120 : decode cX2_walk 120 = .ok (.ifCond .ne 8, 3) := by decide +kernel
theorem dX2_walk_123 : decode cX2_walk 123 = .ok (.iload_n 3, 1) := by decide +kernel
theorem dX2_walk_124 : decode cX2_walk 124 = .ok (.invokestatic 122, 3) := by decide +kernel
theorem dX2_walk_127 : decode cX2_walk 127 = .ok (.lreturn, 1) := by decide +kernel
theorem dX2_walk_128 : decode cX2_walk 128 = .ok (.aload_n 0, 1) := by decide +kernel
theorem dX2_walk_129 : decode cX2_walk 129 = .ok (.getfield 7, 3) := by decide +kernel
theorem dX2_walk_132 : decode cX2_walk 132 = .ok (.lload 11, 2) := by decide +kernel
theorem dX2_walk_134 : decode cX2_walk 134 = .ok (.invokestatic 34, 3) := by decide +kernel
theorem dX2_walk_137 : decode cX2_walk 137 = .ok (.laload, 1) := by decide +kernel
theorem dX2_walk_138 : decode cX2_walk 138 = .ok (.lstore 13, 2) := by decide +kernel
theorem dX2_walk_140 : decode cX2_walk 140 = .ok (.lload 13, 2) := by decide +kernel
theorem dX2_walk_142 : decode cX2_walk 142 = .ok (.invokestatic 125, 3) := by decide +kernel
theorem dX2_walk_145 : decode cX2_walk 145 = .ok (.ifCond .eq 8, 3) := by decide +kernel
theorem dX2_walk_148 : decode cX2_walk 148 = .ok (.iload_n 3, 1) := by decide +kernel
theorem dX2_walk_149 : decode cX2_walk 149 = .ok (.invokestatic 116, 3) := by decide +kernel
theorem dX2_walk_152 : decode cX2_walk 152 = .ok (.lreturn, 1) := by decide +kernel
theorem dX2_walk_153 : decode cX2_walk 153 = .ok (.lload 13, 2) := by decide +kernel
theorem dX2_walk_155 : decode cX2_walk 155 = .ok (.iconst 1, 1) := by decide +kernel
theorem dX2_walk_156 : decode cX2_walk 156 = .ok (.invokestatic 113, 3) := by decide +kernel
theorem dX2_walk_159 : decode cX2_walk 159 = .ok (.ifCond .ne 12, 3) := by decide +kernel
theorem dX2_walk_162 : decode cX2_walk 162 = .ok (.lload 13, 2) := by decide +kernel
theorem dX2_walk_164 : decode cX2_walk 164 = .ok (.iconst 3, 1) := by decide +kernel
theorem dX2_walk_165 : decode cX2_walk 165 = .ok (.invokestatic 113, 3) := by decide +kernel
theorem dX2_walk_168 : decode cX2_walk 168 = .ok (.ifCond .eq 16, 3) := by decide +kernel
theorem dX2_walk_171 : decode cX2_walk 171 = .ok (.aload_n 0, 1) := by decide +kernel
theorem dX2_walk_172 : decode cX2_walk 172 = .ok (.lload_n 1, 1) := by decide +kernel
theorem dX2_walk_173 : decode cX2_walk 173 = .ok (.iload_n 3, 1) := by decide +kernel
theorem dX2_walk_174 : decode cX2_walk 174 = .ok (.iload 4, 2) := by decide +kernel
theorem dX2_walk_176 : decode cX2_walk 176 = .ok (.lload 11, 2) := by decide +kernel
theorem dX2_walk_178 : decode cX2_walk 178 = .ok (.iload 10, 2) := by decide +kernel
theorem dX2_walk_180 : decode cX2_walk 180 = .ok (.invokevirtual 128, 3) := by decide +kernel
theorem dX2_walk_183 : decode cX2_walk 183 = .ok (.lreturn, 1) := by decide +kernel
theorem dX2_walk_184 : decode cX2_walk 184 = .ok (.iload 10, 2) := by decide +kernel
theorem dX2_walk_186 : decode cX2_walk 186 = .ok (.ifCond .eq 32, 3) := by decide +kernel
theorem dX2_walk_189 : decode cX2_walk 189 = .ok (.lload 13, 2) := by decide +kernel
theorem dX2_walk_191 : decode cX2_walk 191 = .ok (.iconst 4, 1) := by decide +kernel
theorem dX2_walk_192 : decode cX2_walk 192 = .ok (.invokestatic 113, 3) := by decide +kernel
theorem dX2_walk_195 : decode cX2_walk 195 = .ok (.ifCond .ne 23, 3) := by decide +kernel
theorem dX2_walk_198 : decode cX2_walk 198 = .ok (.lload 13, 2) := by decide +kernel
theorem dX2_walk_200 : decode cX2_walk 200 = .ok (.bipush 6, 2) := by decide +kernel
theorem dX2_walk_202 : decode cX2_walk 202 = .ok (.invokestatic 113, 3) := by decide +kernel
theorem dX2_walk_205 : decode cX2_walk 205 = .ok (.ifCond .ne 13, 3) := by decide +kernel
theorem dX2_walk_208 : decode cX2_walk 208 = .ok (.lload 13, 2) := by decide +kernel
theorem dX2_walk_210 : decode cX2_walk 210 = .ok (.bipush 7, 2) := by decide +kernel
theorem dX2_walk_212 : decode cX2_walk 212 = .ok (.invokestatic 113, 3) := by decide +kernel
theorem dX2_walk_215 : decode cX2_walk 215 = .ok (.ifCond .eq 8, 3) := by decide +kernel
theorem dX2_walk_218 : decode cX2_walk 218 = .ok (.iload_n 3, 1) := by decide +kernel
theorem dX2_walk_219 : decode cX2_walk 219 = .ok (.invokestatic 116, 3) := by decide +kernel
theorem dX2_walk_222 : decode cX2_walk 222 = .ok (.lreturn, 1) := by decide +kernel
theorem dX2_walk_223 : decode cX2_walk 223 = .ok (.lload 13, 2) := by decide +kernel
theorem dX2_walk_225 : decode cX2_walk 225 = .ok (.invokestatic 132, 3) := by decide +kernel
theorem dX2_walk_228 : decode cX2_walk 228 = .ok (.lstore 8, 2) := by decide +kernel
theorem dX2_walk_230 : decode cX2_walk 230 = .ok (.iinc 10 (-1), 3) := by decide +kernel
theorem dX2_walk_233 : decode cX2_walk 233 = .ok (.goto (-163), 3) := by decide +kernel
theorem dX2_walk_236 : decode cX2_walk 236 = .ok (.iload_n 3, 1) := by decide +kernel
theorem dX2_walk_237 : decode cX2_walk 237 = .ok (.invokestatic 116, 3) := by decide +kernel
theorem dX2_walk_240 : decode cX2_walk 240 = .ok (.lreturn, 1) := by decide +kernel
theorem dX2_pageFault_0 : decode cX2_pageFault 0 = .ok (.iload_n 0, 1) := by decide +kernel
theorem dX2_pageFault_1 : decode cX2_pageFault 1 = .ok (.ifCond .ne 9, 3) := by decide +kernel
theorem dX2_pageFault_4 : decode cX2_pageFault 4 = .ok (.ldc2_w 105, 3) := by decide +kernel
theorem dX2_pageFault_7 : decode cX2_pageFault 7 = .ok (.goto 17, 3) := by decide +kernel
theorem dX2_pageFault_10 : decode cX2_pageFault 10 = .ok (.iload_n 0, 1) := by decide +kernel
theorem dX2_pageFault_11 : decode cX2_pageFault 11 = .ok (.iconst 1, 1) := by decide +kernel
theorem dX2_pageFault_12 : decode cX2_pageFault 12 = .ok (.if_icmp .ne 9, 3) := by decide +kernel
theorem dX2_pageFault_15 : decode cX2_pageFault 15 = .ok (.ldc2_w 107, 3) := by decide +kernel
theorem dX2_pageFault_18 : decode cX2_pageFault 18 = .ok (.goto 6, 3) := by decide +kernel
theorem dX2_pageFault_21 : decode cX2_pageFault 21 = .ok (.ldc2_w 109, 3) := by decide +kernel
theorem dX2_pageFault_24 : decode cX2_pageFault 24 = .ok (.lreturn, 1) := by decide +kernel
theorem dX2_isBroken_0 : decode cX2_isBroken 0 = .ok (.lload_n 0, 1) := by decide +kernel
theorem dX2_isBroken_1 : decode cX2_isBroken 1 = .ok (.iconst 0, 1) := by decide +kernel
theorem dX2_isBroken_2 : decode cX2_isBroken 2 = .ok (.invokestatic 113, 3) := by decide +kernel
theorem dX2_isBroken_5 : decode cX2_isBroken 5 = .ok (.ifCond .eq 28, 3) := by decide +kernel
theorem dX2_isBroken_8 : decode cX2_isBroken 8 = .ok (.lload_n 0, 1) := by decide +kernel
theorem dX2_isBroken_9 : decode cX2_isBroken 9 = .ok (.iconst 2, 1) := by decide +kernel
theorem dX2_isBroken_10 : decode cX2_isBroken 10 = .ok (.invokestatic 113, 3) := by decide +kernel
theorem dX2_isBroken_13 : decode cX2_isBroken 13 = .ok (.ifCond .eq 11, 3) := by decide +kernel
theorem dX2_isBroken_16 : decode cX2_isBroken 16 = .ok (.lload_n 0, 1) := by decide +kernel
theorem dX2_isBroken_17 : decode cX2_isBroken 17 = .ok (.iconst 1, 1) := by decide +kernel
theorem dX2_isBroken_18 : decode cX2_isBroken 18 = .ok (.invokestatic 113, 3) := by decide +kernel
theorem dX2_isBroken_21 : decode cX2_isBroken 21 = .ok (.ifCond .eq 12, 3) := by decide +kernel
theorem dX2_isBroken_24 : decode cX2_isBroken 24 = .ok (.lload_n 0, 1) := by decide +kernel
theorem dX2_isBroken_25 : decode cX2_isBroken 25 = .ok (.bipush 54, 2) := by decide +kernel
theorem dX2_isBroken_27 : decode cX2_isBroken 27 = .ok (.lushr, 1) := by decide +kernel
theorem dX2_isBroken_28 : decode cX2_isBroken 28 = .ok (.lconst 0, 1) := by decide +kernel
theorem dX2_isBroken_29 : decode cX2_isBroken 29 = .ok (.lcmp, 1) := by decide +kernel
theorem dX2_isBroken_30 : decode cX2_isBroken 30 = .ok (.ifCond .eq 7, 3) := by decide +kernel
theorem dX2_isBroken_33 : decode cX2_isBroken 33 = .ok (.iconst 1, 1) := by decide +kernel
theorem dX2_isBroken_34 : decode cX2_isBroken 34 = .ok (.goto 4, 3) := by decide +kernel
theorem dX2_isBroken_37 : decode cX2_isBroken 37 = .ok (.iconst 0, 1) := by decide +kernel
theorem dX2_isBroken_38 : decode cX2_isBroken 38 = .ok (.ireturn, 1) := by decide +kernel
theorem dX2_bit_0 : decode cX2_bit 0 = .ok (.lload_n 0, 1) := by decide +kernel
theorem dX2_bit_1 : decode cX2_bit 1 = .ok (.iload_n 2, 1) := by decide +kernel
theorem dX2_bit_2 : decode cX2_bit 2 = .ok (.lushr, 1) := by decide +kernel
theorem dX2_bit_3 : decode cX2_bit 3 = .ok (.lconst 1, 1) := by decide +kernel
theorem dX2_bit_4 : decode cX2_bit 4 = .ok (.land, 1) := by decide +kernel
theorem dX2_bit_5 : decode cX2_bit 5 = .ok (.lconst 1, 1) := by decide +kernel
theorem dX2_bit_6 : decode cX2_bit 6 = .ok (.lcmp, 1) := by decide +kernel
theorem dX2_bit_7 : decode cX2_bit 7 = .ok (.ifCond .ne 7, 3) := by decide +kernel
theorem dX2_bit_10 : decode cX2_bit 10 = .ok (.iconst 1, 1) := by decide +kernel
theorem dX2_bit_11 : decode cX2_bit 11 = .ok (.goto 4, 3) := by decide +kernel
theorem dX2_bit_14 : decode cX2_bit 14 = .ok (.iconst 0, 1) := by decide +kernel
theorem dX2_bit_15 : decode cX2_bit 15 = .ok (.ireturn, 1) := by decide +kernel
theorem dX2_last_0 : decode cX2_last 0 = .ok (.aload_n 0, 1) := by decide +kernel
theorem dX2_last_1 : decode cX2_last 1 = .ok (.getfield 7, 3) := by decide +kernel
theorem dX2_last_4 : decode cX2_last 4 = .ok (.lload 5, 2) := by decide +kernel
theorem dX2_last_6 : decode cX2_last 6 = .ok (.invokestatic 34, 3) := by decide +kernel
theorem dX2_last_9 : decode cX2_last 9 = .ok (.laload, 1) := by decide +kernel
theorem dX2_last_10 : decode cX2_last 10 = .ok (.lstore 8, 2) := by decide +kernel
theorem dX2_last_12 : decode cX2_last 12 = .ok (.lconst 1, 1) := by decide +kernel
theorem dX2_last_13 : decode cX2_last 13 = .ok (.bipush 9, 2) := by decide +kernel
theorem dX2_last_15 : decode cX2_last 15 = .ok (.iload 7, 2) := by decide +kernel
theorem dX2_last_17 : decode cX2_last 17 = .ok (.imul, 1) := by decide +kernel
theorem dX2_last_18 : decode cX2_last 18 = .ok (.lshl, 1) := by decide +kernel
theorem dX2_last_19 : decode cX2_last 19 = .ok (.lconst 1, 1) := by decide +kernel
theorem dX2_last_20 : decode cX2_last 20 = .ok (.lsub, 1) := by decide +kernel
theorem dX2_last_21 : decode cX2_last 21 = .ok (.lstore 10, 2) := by decide +kernel
theorem dX2_last_23 : decode cX2_last 23 = .ok (.lload 8, 2) := by decide +kernel
theorem dX2_last_25 : decode cX2_last 25 = .ok (.invokestatic 132, 3) := by decide +kernel
theorem dX2_last_28 : decode cX2_last 28 = .ok (.lload 10, 2) := by decide +kernel
theorem dX2_last_30 : decode cX2_last 30 = .ok (.land, 1) := by decide +kernel
theorem dX2_last_31 : decode cX2_last 31 = .ok (.lconst 0, 1) := by decide +kernel
theorem dX2_last_32 : decode cX2_last 32 = .ok (.lcmp, 1) := by decide +kernel
theorem dX2_last_33 : decode cX2_last 33 = .ok (.ifCond .ne 15, 3) := by decide +kernel
theorem dX2_last_36 : decode cX2_last 36 = .ok (.aload_n 0, 1) := by decide +kernel
theorem dX2_last_37 : decode cX2_last 37 = .ok (.lload 8, 2) := by decide +kernel
theorem dX2_last_39 : decode cX2_last 39 = .ok (.iload_n 3, 1) := by decide +kernel
theorem dX2_last_40 : decode cX2_last 40 = .ok (.iload 4, 2) := by decide +kernel
theorem dX2_last_42 : decode cX2_last 42 = .ok (.invokevirtual 135, 3) := by decide +kernel
theorem dX2_last_45 : decode cX2_last 45 = .ok (.ifCond .eq 8, 3) := by decide +kernel
theorem dX2_last_48 : decode cX2_last 48 = .ok (.iload_n 3, 1) := by decide +kernel
theorem dX2_last_49 : decode cX2_last 49 = .ok (.invokestatic 116, 3) := by decide +kernel
theorem dX2_last_52 : decode cX2_last 52 = .ok (.lreturn, 1) := by decide +kernel
theorem dX2_last_53 : decode cX2_last 53 = .ok (.lload 8, 2) := by decide +kernel
theorem dX2_last_55 : decode cX2_last 55 = .ok (.bipush 6, 2) := by decide +kernel
theorem dX2_last_57 : decode cX2_last 57 = .ok (.invokestatic 113, 3) := by decide +kernel
theorem dX2_last_60 : decode cX2_last 60 = .ok (.ifCond .eq 18, 3) := by decide +kernel
theorem dX2_last_63 : decode cX2_last 63 = .ok (.iload_n 3, 1) := by decide +kernel
theorem dX2_last_64 : decode cX2_last 64 = .ok (.iconst 2, 1) := by decide +kernel
theorem dX2_last_65 : decode cX2_last 65 = .ok (.if_icmp .ne 58, 3) := by decide +kernel
theorem dX2_last_68 : decode cX2_last 68 = .ok (.lload 8, 2) := by decide +kernel
theorem dX2_last_70 : decode cX2_last 70 = .ok (.bipush 7, 2) := by decide +kernel
theorem dX2_last_72 : decode cX2_last 72 = .ok (.invokestatic 113, 3) := by decide +kernel
theorem dX2_last_75 : decode cX2_last 75 = .ok (.ifCond .ne 48, 3) := by decide +kernel
theorem dX2_last_78 : decode cX2_last 78 = .ok (.aload_n 0, 1) := by decide +kernel
theorem dX2_last_79 : decode cX2_last 79 = .ok (.lload 5, 2) := by decide +kernel
theorem dX2_last_81 : decode cX2_last 81 = .ok (.iconst 2, 1) := by decide +kernel
theorem dX2_last_82 : decode cX2_last 82 = .ok (.iconst 1, 1) := by decide +kernel
theorem dX2_last_83 : decode cX2_last 83 = .ok (.bipush 8, 2) := by decide +kernel
theorem dX2_last_85 : decode cX2_last 85 = .ok (.invokevirtual 95, 3) := by decide +kernel
theorem dX2_last_88 : decode cX2_last 88 = .ok (.ifCond .ne 8, 3) := by decide +kernel
theorem dX2_last_91 : decode cX2_last 91 = .ok (.iload_n 3, 1) := by decide +kernel
theorem dX2_last_92 : decode cX2_last 92 = .ok (.invokestatic 122, 3) := by decide +kernel
theorem dX2_last_95 : decode cX2_last 95 = .ok (.lreturn, 1) := by decide +kernel
theorem dX2_last_96 : decode cX2_last 96 = .ok (.aload_n 0, 1) := by decide +kernel
theorem dX2_last_97 : decode cX2_last 97 = .ok (.getfield 7, 3) := by decide +kernel
theorem dX2_last_100 : decode cX2_last 100 = .ok (.lload 5, 2) := by decide +kernel
theorem dX2_last_102 : decode cX2_last 102 = .ok (.invokestatic 34, 3) := by decide +kernel
theorem dX2_last_105 : decode cX2_last 105 = .ok (.lload 8, 2) := by decide +kernel
theorem dX2_last_107 : decode cX2_last 107 = .ok (.iload_n 3, 1) := by decide +kernel
theorem dX2_last_108 : decode cX2_last 108 = .ok (.iconst 2, 1) := by decide +kernel
theorem dX2_last_109 : decode cX2_last 109 = .ok (.if_icmp .ne 9, 3) := by decide +kernel
theorem dX2_last_112 : decode cX2_last 112 = .ok (.ldc2_w 139, 3) := by decide +kernel
theorem dX2_last_115 : decode cX2_last 115 = .ok (.goto 6, 3) := by decide +kernel
theorem dX2_last_118 : decode cX2_last 118 = .ok (.ldc2_w 141, 3) := by decide +kernel
theorem dX2_last_121 : decode cX2_last 121 = .ok (.lor, 1) := by decide +kernel
theorem dX2_last_122 : decode cX2_last 122 = .ok (.lastore, 1) := by decide +kernel
theorem dX2_last_123 : decode cX2_last 123 = .ok (.ldc2_w 85, 3) := by decide +kernel
theorem dX2_last_126 : decode cX2_last 126 = .ok (.lload 8, 2) := by decide +kernel
theorem dX2_last_128 : decode cX2_last 128 = .ok (.invokestatic 132, 3) := by decide +kernel
theorem dX2_last_131 : decode cX2_last 131 = .ok (.lmul, 1) := by decide +kernel
theorem dX2_last_132 : decode cX2_last 132 = .ok (.lload_n 1, 1) := by decide +kernel
theorem dX2_last_133 : decode cX2_last 133 = .ok (.ldc2_w 85, 3) := by decide +kernel
theorem dX2_last_136 : decode cX2_last 136 = .ok (.lload 10, 2) := by decide +kernel
theorem dX2_last_138 : decode cX2_last 138 = .ok (.lmul, 1) := by decide +kernel
theorem dX2_last_139 : decode cX2_last 139 = .ok (.ldc2_w 83, 3) := by decide +kernel
theorem dX2_last_142 : decode cX2_last 142 = .ok (.ladd, 1) := by decide +kernel
theorem dX2_last_143 : decode cX2_last 143 = .ok (.land, 1) := by decide +kernel
theorem dX2_last_144 : decode cX2_last 144 = .ok (.ladd, 1) := by decide +kernel
theorem dX2_last_145 : decode cX2_last 145 = .ok (.lreturn, 1) := by decide +kernel
theorem dX2_numberIn_0 : decode cX2_numberIn 0 = .ok (.lload_n 0, 1) := by decide +kernel
theorem dX2_numberIn_1 : decode cX2_numberIn 1 = .ok (.bipush 10, 2) := by decide +kernel
theorem dX2_numberIn_3 : decode cX2_numberIn 3 = .ok (.lushr, 1) := by decide +kernel
theorem dX2_numberIn_4 : decode cX2_numberIn 4 = .ok (.ldc2_w 111, 3) := by decide +kernel
theorem dX2_numberIn_7 : decode cX2_numberIn 7 = .ok (.land, 1) := by decide +kernel
theorem dX2_numberIn_8 : decode cX2_numberIn 8 = .ok (.lreturn, 1) := by decide +kernel
theorem dX2_refuses_0 : decode cX2_refuses 0 = .ok (.lload_n 1, 1) := by decide +kernel
theorem dX2_refuses_1 : decode cX2_refuses 1 = .ok (.iconst 4, 1) := by decide +kernel
theorem dX2_refuses_2 : decode cX2_refuses 2 = .ok (.invokestatic 113, 3) := by decide +kernel
theorem dX2_refuses_5 : decode cX2_refuses 5 = .ok (.istore 5, 2) := by decide +kernel
theorem dX2_refuses_7 : decode cX2_refuses 7 = .ok (.iload 4, 2) := by decide +kernel
theorem dX2_refuses_9 : decode cX2_refuses 9 = .ok (.ifCond .ne 8, 3) := by decide +kernel
theorem dX2_refuses_12 : decode cX2_refuses 12 = .ok (.iload 5, 2) := by decide +kernel
theorem dX2_refuses_14 : decode cX2_refuses 14 = .ok (.ifCond .eq 25, 3) := by decide +kernel
theorem dX2_refuses_17 : decode cX2_refuses 17 = .ok (.iload 4, 2) := by decide +kernel
theorem dX2_refuses_19 : decode cX2_refuses 19 = .ok (.iconst 1, 1) := by decide +kernel
theorem dX2_refuses_20 : decode cX2_refuses 20 = .ok (.if_icmp .ne 21, 3) := by decide +kernel
theorem dX2_refuses_23 : decode cX2_refuses 23 = .ok (.iload 5, 2) := by decide +kernel
theorem dX2_refuses_25 : decode cX2_refuses 25 = .ok (.ifCond .eq 16, 3) := by decide +kernel
theorem dX2_refuses_28 : decode cX2_refuses 28 = .ok (.iload_n 3, 1) := by decide +kernel
theorem dX2_refuses_29 : decode cX2_refuses 29 = .ok (.ifCond .eq 10, 3) := by decide +kernel
theorem dX2_refuses_32 : decode cX2_refuses 32 = .ok (.aload_n 0, 1) := by decide +kernel
theorem dX2_refuses_33 : decode cX2_refuses 33 = .ok (.getfield 48, 3) := by decide +kernel
theorem dX2_refuses_36 : decode cX2_refuses 36 = .ok (.ifCond .ne 5, 3) := by decide +kernel
theorem dX2_refuses_39 : decode cX2_refuses 39 = .ok (.iconst 1, 1) := by decide +kernel
theorem dX2_refuses_40 : decode cX2_refuses 40 = .ok (.ireturn, 1) := by decide +kernel
theorem dX2_refuses_41 : decode cX2_refuses 41 = .ok (.iload_n 3, 1) := by decide +kernel
theorem dX2_refuses_42 : decode cX2_refuses 42 = .ok (.ifCond .ne 17, 3) := by decide +kernel
theorem dX2_refuses_45 : decode cX2_refuses 45 = .ok (.lload_n 1, 1) := by decide +kernel
theorem dX2_refuses_46 : decode cX2_refuses 46 = .ok (.iconst 3, 1) := by decide +kernel
theorem dX2_refuses_47 : decode cX2_refuses 47 = .ok (.invokestatic 113, 3) := by decide +kernel
theorem dX2_refuses_50 : decode cX2_refuses 50 = .ok (.ifCond .ne 7, 3) := by decide +kernel
theorem dX2_refuses_53 : decode cX2_refuses 53 = .ok (.iconst 1, 1) := by decide +kernel
theorem dX2_refuses_54 : decode cX2_refuses 54 = .ok (.goto 4, 3) := by decide +kernel
theorem dX2_refuses_57 : decode cX2_refuses 57 = .ok (.iconst 0, 1) := by decide +kernel
theorem dX2_refuses_58 : decode cX2_refuses 58 = .ok (.ireturn, 1) := by decide +kernel
theorem dX2_refuses_59 : decode cX2_refuses 59 = .ok (.iload_n 3, 1) := by decide +kernel
theorem dX2_refuses_60 : decode cX2_refuses 60 = .ok (.iconst 1, 1) := by decide +kernel
theorem dX2_refuses_61 : decode cX2_refuses 61 = .ok (.if_icmp .ne 34, 3) := by decide +kernel
theorem dX2_refuses_64 : decode cX2_refuses 64 = .ok (.lload_n 1, 1) := by decide +kernel
theorem dX2_refuses_65 : decode cX2_refuses 65 = .ok (.iconst 1, 1) := by decide +kernel
theorem dX2_refuses_66 : decode cX2_refuses 66 = .ok (.invokestatic 113, 3) := by decide +kernel
theorem dX2_refuses_69 : decode cX2_refuses 69 = .ok (.ifCond .ne 22, 3) := by decide +kernel
theorem dX2_refuses_72 : decode cX2_refuses 72 = .ok (.aload_n 0, 1) := by decide +kernel
theorem dX2_refuses_73 : decode cX2_refuses 73 = .ok (.getfield 52, 3) := by decide +kernel
theorem dX2_refuses_76 : decode cX2_refuses 76 = .ok (.ifCond .eq 11, 3) := by decide +kernel
theorem dX2_refuses_79 : decode cX2_refuses 79 = .ok (.lload_n 1, 1) := by decide +kernel
theorem dX2_refuses_80 : decode cX2_refuses 80 = .ok (.iconst 3, 1) := by decide +kernel
theorem dX2_refuses_81 : decode cX2_refuses 81 = .ok (.invokestatic 113, 3) := by decide +kernel
theorem dX2_refuses_84 : decode cX2_refuses 84 = .ok (.ifCond .ne 7, 3) := by decide +kernel
theorem dX2_refuses_87 : decode cX2_refuses 87 = .ok (.iconst 1, 1) := by decide +kernel
theorem dX2_refuses_88 : decode cX2_refuses 88 = .ok (.goto 20, 3) := by decide +kernel
theorem dX2_refuses_91 : decode cX2_refuses 91 = .ok (.iconst 0, 1) := by decide +kernel
theorem dX2_refuses_92 : decode cX2_refuses 92 = .ok (.goto 16, 3) := by decide +kernel
theorem dX2_refuses_95 : decode cX2_refuses 95 = .ok (.lload_n 1, 1) := by decide +kernel
theorem dX2_refuses_96 : decode cX2_refuses 96 = .ok (.iconst 2, 1) := by decide +kernel
theorem dX2_refuses_97 : decode cX2_refuses 97 = .ok (.invokestatic 113, 3) := by decide +kernel
theorem dX2_refuses_100 : decode cX2_refuses 100 = .ok (.ifCond .ne 7, 3) := by decide +kernel
theorem dX2_refuses_103 : decode cX2_refuses 103 = .ok (.iconst 1, 1) := by decide +kernel
theorem dX2_refuses_104 : decode cX2_refuses 104 = .ok (.goto 4, 3) := by decide +kernel
theorem dX2_refuses_107 : decode cX2_refuses 107 = .ok (.iconst 0, 1) := by decide +kernel
theorem dX2_refuses_108 : decode cX2_refuses 108 = .ok (.ireturn, 1) := by decide +kernel
theorem dX2_fence_0 : decode cX2_fence 0 = .ok (.aload_n 0, 1) := by decide +kernel
theorem dX2_fence_1 : decode cX2_fence 1 = .ok (.iconst 0, 1) := by decide +kernel
theorem dX2_fence_2 : decode cX2_fence 2 = .ok (.putfield 20, 3) := by decide +kernel
theorem dX2_fence_5 : decode cX2_fence 5 = .ok (.return_, 1) := by decide +kernel
