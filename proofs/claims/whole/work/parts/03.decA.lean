theorem dX1_init_0 : decode cX1_init 0 = .ok (.aload_n 0, 1) := by decide +kernel
theorem dX1_init_1 : decode cX1_init 1 = .ok (.invokespecial 3, 3) := by decide +kernel
theorem dX1_init_4 : decode cX1_init 4 = .ok (.aload_n 0, 1) := by decide +kernel
theorem dX1_init_5 : decode cX1_init 5 = .ok (.iconst 3, 1) := by decide +kernel
theorem dX1_init_6 : decode cX1_init 6 = .ok (.newarray .int, 2) := by decide +kernel
theorem dX1_init_8 : decode cX1_init 8 = .ok (.putfield 9, 3) := by decide +kernel
theorem dX1_init_11 : decode cX1_init 11 = .ok (.aload_n 0, 1) := by decide +kernel
theorem dX1_init_12 : decode cX1_init 12 = .ok (.iconst 3, 1) := by decide +kernel
theorem dX1_init_13 : decode cX1_init 13 = .ok (.newarray .int, 2) := by decide +kernel
theorem dX1_init_15 : decode cX1_init 15 = .ok (.putfield 15, 3) := by decide +kernel
theorem dX1_init_18 : decode cX1_init 18 = .ok (.aload_n 0, 1) := by decide +kernel
theorem dX1_init_19 : decode cX1_init 19 = .ok (.iconst 4, 1) := by decide +kernel
theorem dX1_init_20 : decode cX1_init 20 = .ok (.bipush 7, 2) := by decide +kernel
theorem dX1_init_22 : decode cX1_init 22 = .ok (.multianewarray 18 2, 4) := by decide +kernel
theorem dX1_init_26 : decode cX1_init 26 = .ok (.putfield 20, 3) := by decide +kernel
theorem dX1_init_29 : decode cX1_init 29 = .ok (.return_, 1) := by decide +kernel
theorem dX1_hasVan_0 : decode cX1_hasVan 0 = .ok (.iload_n 1, 1) := by decide +kernel
theorem dX1_hasVan_1 : decode cX1_hasVan 1 = .ok (.iconst 0, 1) := by decide +kernel
theorem dX1_hasVan_2 : decode cX1_hasVan 2 = .ok (.aload_n 0, 1) := by decide +kernel
theorem dX1_hasVan_3 : decode cX1_hasVan 3 = .ok (.getfield 23, 3) := by decide +kernel
theorem dX1_hasVan_6 : decode cX1_hasVan 6 = .ok (.iconst 1, 1) := by decide +kernel
theorem dX1_hasVan_7 : decode cX1_hasVan 7 = .ok (.isub, 1) := by decide +kernel
theorem dX1_hasVan_8 : decode cX1_hasVan 8 = .ok (.invokestatic 27, 3) := by decide +kernel
theorem dX1_hasVan_11 : decode cX1_hasVan 11 = .ok (.ireturn, 1) := by decide +kernel
theorem dX1_hasPrint_0 : decode cX1_hasPrint 0 = .ok (.iload_n 1, 1) := by decide +kernel
theorem dX1_hasPrint_1 : decode cX1_hasPrint 1 = .ok (.iconst 0, 1) := by decide +kernel
theorem dX1_hasPrint_2 : decode cX1_hasPrint 2 = .ok (.aload_n 0, 1) := by decide +kernel
theorem dX1_hasPrint_3 : decode cX1_hasPrint 3 = .ok (.getfield 31, 3) := by decide +kernel
theorem dX1_hasPrint_6 : decode cX1_hasPrint 6 = .ok (.iconst 1, 1) := by decide +kernel
theorem dX1_hasPrint_7 : decode cX1_hasPrint 7 = .ok (.isub, 1) := by decide +kernel
theorem dX1_hasPrint_8 : decode cX1_hasPrint 8 = .ok (.invokestatic 27, 3) := by decide +kernel
theorem dX1_hasPrint_11 : decode cX1_hasPrint 11 = .ok (.ireturn, 1) := by decide +kernel
theorem dX1_isBroken_0 : decode cX1_isBroken 0 = .ok (.aload_n 0, 1) := by decide +kernel
theorem dX1_isBroken_1 : decode cX1_isBroken 1 = .ok (.getfield 15, 3) := by decide +kernel
theorem dX1_isBroken_4 : decode cX1_isBroken 4 = .ok (.iload_n 1, 1) := by decide +kernel
theorem dX1_isBroken_5 : decode cX1_isBroken 5 = .ok (.iaload, 1) := by decide +kernel
theorem dX1_isBroken_6 : decode cX1_isBroken 6 = .ok (.iload_n 2, 1) := by decide +kernel
theorem dX1_isBroken_7 : decode cX1_isBroken 7 = .ok (.ishr, 1) := by decide +kernel
theorem dX1_isBroken_8 : decode cX1_isBroken 8 = .ok (.iconst 1, 1) := by decide +kernel
theorem dX1_isBroken_9 : decode cX1_isBroken 9 = .ok (.iand, 1) := by decide +kernel
theorem dX1_isBroken_10 : decode cX1_isBroken 10 = .ok (.iconst 1, 1) := by decide +kernel
theorem dX1_isBroken_11 : decode cX1_isBroken 11 = .ok (.if_icmp .ne 7, 3) := by decide +kernel
theorem dX1_isBroken_14 : decode cX1_isBroken 14 = .ok (.iconst 1, 1) := by decide +kernel
theorem dX1_isBroken_15 : decode cX1_isBroken 15 = .ok (.goto 4, 3) := by decide +kernel
theorem dX1_isBroken_18 : decode cX1_isBroken 18 = .ok (.iconst 0, 1) := by decide +kernel
theorem dX1_isBroken_19 : decode cX1_isBroken 19 = .ok (.ireturn, 1) := by decide +kernel
theorem dX1_addVan_0 : decode cX1_addVan 0 = .ok (.aload_n 0, 1) := by decide +kernel
theorem dX1_addVan_1 : decode cX1_addVan 1 = .ok (.getfield 9, 3) := by decide +kernel
theorem dX1_addVan_4 : decode cX1_addVan 4 = .ok (.aload_n 0, 1) := by decide +kernel
theorem dX1_addVan_5 : decode cX1_addVan 5 = .ok (.getfield 23, 3) := by decide +kernel
theorem dX1_addVan_8 : decode cX1_addVan 8 = .ok (.iload_n 1, 1) := by decide +kernel
theorem dX1_addVan_9 : decode cX1_addVan 9 = .ok (.iastore, 1) := by decide +kernel
theorem dX1_addVan_10 : decode cX1_addVan 10 = .ok (.aload_n 0, 1) := by decide +kernel
theorem dX1_addVan_11 : decode cX1_addVan 11 = .ok (.dup, 1) := by decide +kernel
theorem dX1_addVan_12 : decode cX1_addVan 12 = .ok (.getfield 23, 3) := by decide +kernel
theorem dX1_addVan_15 : decode cX1_addVan 15 = .ok (.iconst 1, 1) := by decide +kernel
theorem dX1_addVan_16 : decode cX1_addVan 16 = .ok (.iadd, 1) := by decide +kernel
theorem dX1_addVan_17 : decode cX1_addVan 17 = .ok (.putfield 23, 3) := by decide +kernel
theorem dX1_addVan_20 : decode cX1_addVan 20 = .ok (.aload_n 0, 1) := by decide +kernel
theorem dX1_addVan_21 : decode cX1_addVan 21 = .ok (.getfield 23, 3) := by decide +kernel
theorem dX1_addVan_24 : decode cX1_addVan 24 = .ok (.iconst 1, 1) := by decide +kernel
theorem dX1_addVan_25 : decode cX1_addVan 25 = .ok (.isub, 1) := by decide +kernel
theorem dX1_addVan_26 : decode cX1_addVan 26 = .ok (.ireturn, 1) := by decide +kernel
theorem dX1_addPrint_0 : decode cX1_addPrint 0 = .ok (.aload_n 0, 1) := by decide +kernel
theorem dX1_addPrint_1 : decode cX1_addPrint 1 = .ok (.getfield 20, 3) := by decide +kernel
theorem dX1_addPrint_4 : decode cX1_addPrint 4 = .ok (.aload_n 0, 1) := by decide +kernel
theorem dX1_addPrint_5 : decode cX1_addPrint 5 = .ok (.getfield 31, 3) := by decide +kernel
theorem dX1_addPrint_8 : decode cX1_addPrint 8 = .ok (.aaload, 1) := by decide +kernel
theorem dX1_addPrint_9 : decode cX1_addPrint 9 = .ok (.astore 8, 2) := by decide +kernel
theorem dX1_addPrint_11 : decode cX1_addPrint 11 = .ok (.aload 8, 2) := by decide +kernel
theorem dX1_addPrint_13 : decode cX1_addPrint 13 = .ok (.iconst 0, 1) := by decide +kernel
theorem dX1_addPrint_14 : decode cX1_addPrint 14 = .ok (.iload_n 1, 1) := by decide +kernel
theorem dX1_addPrint_15 : decode cX1_addPrint 15 = .ok (.iastore, 1) := by decide +kernel
theorem dX1_addPrint_16 : decode cX1_addPrint 16 = .ok (.aload 8, 2) := by decide +kernel
theorem dX1_addPrint_18 : decode cX1_addPrint 18 = .ok (.iconst 1, 1) := by decide +kernel
theorem dX1_addPrint_19 : decode cX1_addPrint 19 = .ok (.iload_n 2, 1) := by decide +kernel
theorem dX1_addPrint_20 : decode cX1_addPrint 20 = .ok (.iastore, 1) := by decide +kernel
theorem dX1_addPrint_21 : decode cX1_addPrint 21 = .ok (.aload 8, 2) := by decide +kernel
theorem dX1_addPrint_23 : decode cX1_addPrint 23 = .ok (.iconst 2, 1) := by decide +kernel
theorem dX1_addPrint_24 : decode cX1_addPrint 24 = .ok (.iload_n 3, 1) := by decide +kernel
theorem dX1_addPrint_25 : decode cX1_addPrint 25 = .ok (.iastore, 1) := by decide +kernel
theorem dX1_addPrint_26 : decode cX1_addPrint 26 = .ok (.aload 8, 2) := by decide +kernel
theorem dX1_addPrint_28 : decode cX1_addPrint 28 = .ok (.iconst 3, 1) := by decide +kernel
theorem dX1_addPrint_29 : decode cX1_addPrint 29 = .ok (.iload 4, 2) := by decide +kernel
theorem dX1_addPrint_31 : decode cX1_addPrint 31 = .ok (.iastore, 1) := by decide +kernel
theorem dX1_addPrint_32 : decode cX1_addPrint 32 = .ok (.aload 8, 2) := by decide +kernel
theorem dX1_addPrint_34 : decode cX1_addPrint 34 = .ok (.iconst 4, 1) := by decide +kernel
theorem dX1_addPrint_35 : decode cX1_addPrint 35 = .ok (.iload 5, 2) := by decide +kernel
theorem dX1_addPrint_37 : decode cX1_addPrint 37 = .ok (.iastore, 1) := by decide +kernel
theorem dX1_addPrint_38 : decode cX1_addPrint 38 = .ok (.aload 8, 2) := by decide +kernel
theorem dX1_addPrint_40 : decode cX1_addPrint 40 = .ok (.iconst 5, 1) := by decide +kernel
theorem dX1_addPrint_41 : decode cX1_addPrint 41 = .ok (.iload 6, 2) := by decide +kernel
theorem dX1_addPrint_43 : decode cX1_addPrint 43 = .ok (.iastore, 1) := by decide +kernel
theorem dX1_addPrint_44 : decode cX1_addPrint 44 = .ok (.aload 8, 2) := by decide +kernel
theorem dX1_addPrint_46 : decode cX1_addPrint 46 = .ok (.bipush 6, 2) := by decide +kernel
theorem dX1_addPrint_48 : decode cX1_addPrint 48 = .ok (.iload 7, 2) := by decide +kernel
theorem dX1_addPrint_50 : decode cX1_addPrint 50 = .ok (.iastore, 1) := by decide +kernel
theorem dX1_addPrint_51 : decode cX1_addPrint 51 = .ok (.aload_n 0, 1) := by decide +kernel
theorem dX1_addPrint_52 : decode cX1_addPrint 52 = .ok (.dup, 1) := by decide +kernel
theorem dX1_addPrint_53 : decode cX1_addPrint 53 = .ok (.getfield 31, 3) := by decide +kernel
theorem dX1_addPrint_56 : decode cX1_addPrint 56 = .ok (.iconst 1, 1) := by decide +kernel
theorem dX1_addPrint_57 : decode cX1_addPrint 57 = .ok (.iadd, 1) := by decide +kernel
theorem dX1_addPrint_58 : decode cX1_addPrint 58 = .ok (.putfield 31, 3) := by decide +kernel
theorem dX1_addPrint_61 : decode cX1_addPrint 61 = .ok (.aload_n 0, 1) := by decide +kernel
theorem dX1_addPrint_62 : decode cX1_addPrint 62 = .ok (.getfield 31, 3) := by decide +kernel
theorem dX1_addPrint_65 : decode cX1_addPrint 65 = .ok (.iconst 1, 1) := by decide +kernel
theorem dX1_addPrint_66 : decode cX1_addPrint 66 = .ok (.isub, 1) := by decide +kernel
theorem dX1_addPrint_67 : decode cX1_addPrint 67 = .ok (.ireturn, 1) := by decide +kernel
theorem dX2_rank_0 : decode cX2_rank 0 = .ok (.iload_n 0, 1) := by decide +kernel
theorem dX2_rank_1 : decode cX2_rank 1 = .ok (.bipush 7, 2) := by decide +kernel
theorem dX2_rank_3 : decode cX2_rank 3 = .ok (.if_icmp .gt 5, 3) := by decide +kernel
theorem dX2_rank_6 : decode cX2_rank 6 = .ok (.iconst 0, 1) := by decide +kernel
theorem dX2_rank_7 : decode cX2_rank 7 = .ok (.ireturn, 1) := by decide +kernel
theorem dX2_rank_8 : decode cX2_rank 8 = .ok (.iload_n 0, 1) := by decide +kernel
theorem dX2_rank_9 : decode cX2_rank 9 = .ok (.bipush 10, 2) := by decide +kernel
theorem dX2_rank_11 : decode cX2_rank 11 = .ok (.if_icmp .gt 8, 3) := by decide +kernel
theorem dX2_rank_14 : decode cX2_rank 14 = .ok (.iload_n 0, 1) := by decide +kernel
theorem dX2_rank_15 : decode cX2_rank 15 = .ok (.bipush 7, 2) := by decide +kernel
theorem dX2_rank_17 : decode cX2_rank 17 = .ok (.isub, 1) := by decide +kernel
theorem dX2_rank_18 : decode cX2_rank 18 = .ok (.ireturn, 1) := by decide +kernel
theorem dX2_rank_19 : decode cX2_rank 19 = .ok (.iload_n 0, 1) := by decide +kernel
theorem dX2_rank_20 : decode cX2_rank 20 = .ok (.bipush 16, 2) := by decide +kernel
theorem dX2_rank_22 : decode cX2_rank 22 = .ok (.if_icmp .gt 5, 3) := by decide +kernel
theorem dX2_rank_25 : decode cX2_rank 25 = .ok (.iconst 4, 1) := by decide +kernel
theorem dX2_rank_26 : decode cX2_rank 26 = .ok (.ireturn, 1) := by decide +kernel
theorem dX2_rank_27 : decode cX2_rank 27 = .ok (.iload_n 0, 1) := by decide +kernel
theorem dX2_rank_28 : decode cX2_rank 28 = .ok (.bipush 18, 2) := by decide +kernel
theorem dX2_rank_30 : decode cX2_rank 30 = .ok (.if_icmp .gt 5, 3) := by decide +kernel
theorem dX2_rank_33 : decode cX2_rank 33 = .ok (.iconst 5, 1) := by decide +kernel
theorem dX2_rank_34 : decode cX2_rank 34 = .ok (.ireturn, 1) := by decide +kernel
theorem dX2_rank_35 : decode cX2_rank 35 = .ok (.iload_n 0, 1) := by decide +kernel
theorem dX2_rank_36 : decode cX2_rank 36 = .ok (.bipush 21, 2) := by decide +kernel
theorem dX2_rank_38 : decode cX2_rank 38 = .ok (.if_icmp .gt 8, 3) := by decide +kernel
theorem dX2_rank_41 : decode cX2_rank 41 = .ok (.bipush 6, 2) := by decide +kernel
theorem dX2_rank_43 : decode cX2_rank 43 = .ok (.goto 5, 3) := by decide +kernel
theorem dX2_rank_46 : decode cX2_rank 46 = .ok (.bipush 7, 2) := by decide +kernel
theorem dX2_rank_48 : decode cX2_rank 48 = .ok (.ireturn, 1) := by decide +kernel
theorem dX2_joinsTwo_0 : decode cX2_joinsTwo 0 = .ok (.iload_n 0, 1) := by decide +kernel
theorem dX2_joinsTwo_1 : decode cX2_joinsTwo 1 = .ok (.bipush 8, 2) := by decide +kernel
theorem dX2_joinsTwo_3 : decode cX2_joinsTwo 3 = .ok (.if_icmp .lt 19, 3) := by decide +kernel
theorem dX2_joinsTwo_6 : decode cX2_joinsTwo 6 = .ok (.iload_n 0, 1) := by decide +kernel
theorem dX2_joinsTwo_7 : decode cX2_joinsTwo 7 = .ok (.bipush 21, 2) := by decide +kernel
theorem dX2_joinsTwo_9 : decode cX2_joinsTwo 9 = .ok (.if_icmp .gt 13, 3) := by decide +kernel
theorem dX2_joinsTwo_12 : decode cX2_joinsTwo 12 = .ok (.iload_n 0, 1) := by decide +kernel
theorem dX2_joinsTwo_13 : decode cX2_joinsTwo 13 = .ok (.bipush 10, 2) := by decide +kernel
theorem dX2_joinsTwo_15 : decode cX2_joinsTwo 15 = .ok (.if_icmp .eq 7, 3) := by decide +kernel
theorem dX2_joinsTwo_18 : decode cX2_joinsTwo 18 = .ok (.iconst 1, 1) := by decide +kernel
theorem dX2_joinsTwo_19 : decode cX2_joinsTwo 19 = .ok (.goto 4, 3) := by decide +kernel
theorem dX2_joinsTwo_22 : decode cX2_joinsTwo 22 = .ok (.iconst 0, 1) := by decide +kernel
theorem dX2_joinsTwo_23 : decode cX2_joinsTwo 23 = .ok (.ireturn, 1) := by decide +kernel
theorem dX2_ofSign_0 : decode cX2_ofSign 0 = .ok (.iload_n 0, 1) := by decide +kernel
theorem dX2_ofSign_1 : decode cX2_ofSign 1 = .ok (.tableswitch 151 37 62 #[148, 151, 151, 121, 124, 142, 136, 151, 139, 151, 145, 151, 151, 151, 151, 151, 151, 151, 151, 151, 151, 151, 119, 127, 130, 133], 119) := by decide +kernel
theorem dX2_ofSign_120 : decode cX2_ofSign 120 = .ok (.iconst 5, 1) := by decide +kernel
theorem dX2_ofSign_121 : decode cX2_ofSign 121 = .ok (.ireturn, 1) := by decide +kernel
theorem dX2_ofSign_122 : decode cX2_ofSign 122 = .ok (.bipush 7, 2) := by decide +kernel
theorem dX2_ofSign_124 : decode cX2_ofSign 124 = .ok (.ireturn, 1) := by decide +kernel
theorem dX2_ofSign_125 : decode cX2_ofSign 125 = .ok (.bipush 6, 2) := by decide +kernel
theorem dX2_ofSign_127 : decode cX2_ofSign 127 = .ok (.ireturn, 1) := by decide +kernel
theorem dX2_ofSign_128 : decode cX2_ofSign 128 = .ok (.bipush 11, 2) := by decide +kernel
theorem dX2_ofSign_130 : decode cX2_ofSign 130 = .ok (.ireturn, 1) := by decide +kernel
theorem dX2_ofSign_131 : decode cX2_ofSign 131 = .ok (.bipush 13, 2) := by decide +kernel
theorem dX2_ofSign_133 : decode cX2_ofSign 133 = .ok (.ireturn, 1) := by decide +kernel
theorem dX2_ofSign_134 : decode cX2_ofSign 134 = .ok (.bipush 16, 2) := by decide +kernel
theorem dX2_ofSign_136 : decode cX2_ofSign 136 = .ok (.ireturn, 1) := by decide +kernel
theorem dX2_ofSign_137 : decode cX2_ofSign 137 = .ok (.bipush 17, 2) := by decide +kernel
theorem dX2_ofSign_139 : decode cX2_ofSign 139 = .ok (.ireturn, 1) := by decide +kernel
theorem dX2_ofSign_140 : decode cX2_ofSign 140 = .ok (.bipush 18, 2) := by decide +kernel
theorem dX2_ofSign_142 : decode cX2_ofSign 142 = .ok (.ireturn, 1) := by decide +kernel
theorem dX2_ofSign_143 : decode cX2_ofSign 143 = .ok (.bipush 19, 2) := by decide +kernel
theorem dX2_ofSign_145 : decode cX2_ofSign 145 = .ok (.ireturn, 1) := by decide +kernel
theorem dX2_ofSign_146 : decode cX2_ofSign 146 = .ok (.bipush 20, 2) := by decide +kernel
theorem dX2_ofSign_148 : decode cX2_ofSign 148 = .ok (.ireturn, 1) := by decide +kernel
theorem dX2_ofSign_149 : decode cX2_ofSign 149 = .ok (.bipush 21, 2) := by decide +kernel
theorem dX2_ofSign_151 : decode cX2_ofSign 151 = .ok (.ireturn, 1) := by decide +kernel
theorem dX2_ofSign_152 : decode cX2_ofSign 152 = .ok (.iconst 1, 1) := by decide +kernel
theorem dX2_ofSign_153 : decode cX2_ofSign 153 = .ok (.ireturn, 1) := by decide +kernel
theorem dX3_init_0 : decode cX3_init 0 = .ok (.aload_n 0, 1) := by decide +kernel
theorem dX3_init_1 : decode cX3_init 1 = .ok (.invokespecial 3, 3) := by decide +kernel
theorem dX3_init_4 : decode cX3_init 4 = .ok (.aload_n 0, 1) := by decide +kernel
theorem dX3_init_5 : decode cX3_init 5 = .ok (.bipush 8, 2) := by decide +kernel
theorem dX3_init_7 : decode cX3_init 7 = .ok (.bipush 8, 2) := by decide +kernel
theorem dX3_init_9 : decode cX3_init 9 = .ok (.multianewarray 9 2, 4) := by decide +kernel
theorem dX3_init_13 : decode cX3_init 13 = .ok (.putfield 11, 3) := by decide +kernel
theorem dX3_init_16 : decode cX3_init 16 = .ok (.aload_n 0, 1) := by decide +kernel
theorem dX3_init_17 : decode cX3_init 17 = .ok (.iconst 4, 1) := by decide +kernel
theorem dX3_init_18 : decode cX3_init 18 = .ok (.bipush 64, 2) := by decide +kernel
theorem dX3_init_20 : decode cX3_init 20 = .ok (.multianewarray 9 2, 4) := by decide +kernel
theorem dX3_init_24 : decode cX3_init 24 = .ok (.putfield 16, 3) := by decide +kernel
theorem dX3_init_27 : decode cX3_init 27 = .ok (.aload_n 0, 1) := by decide +kernel
theorem dX3_init_28 : decode cX3_init 28 = .ok (.iconst 2, 1) := by decide +kernel
theorem dX3_init_29 : decode cX3_init 29 = .ok (.newarray .int, 2) := by decide +kernel
theorem dX3_init_31 : decode cX3_init 31 = .ok (.putfield 19, 3) := by decide +kernel
theorem dX3_init_34 : decode cX3_init 34 = .ok (.iconst 0, 1) := by decide +kernel
theorem dX3_init_35 : decode cX3_init 35 = .ok (.istore_n 1, 1) := by decide +kernel
theorem dX3_init_36 : decode cX3_init 36 = .ok (.iload_n 1, 1) := by decide +kernel
theorem dX3_init_37 : decode cX3_init 37 = .ok (.iconst 4, 1) := by decide +kernel
theorem dX3_init_38 : decode cX3_init 38 = .ok (.if_icmp .ge 48, 3) := by decide +kernel
theorem dX3_init_41 : decode cX3_init 41 = .ok (.aload_n 0, 1) := by decide +kernel
theorem dX3_init_42 : decode cX3_init 42 = .ok (.getfield 16, 3) := by decide +kernel
theorem dX3_init_45 : decode cX3_init 45 = .ok (.iload_n 1, 1) := by decide +kernel
theorem dX3_init_46 : decode cX3_init 46 = .ok (.aaload, 1) := by decide +kernel
theorem dX3_init_47 : decode cX3_init 47 = .ok (.ldc 23, 2) := by decide +kernel
theorem dX3_init_49 : decode cX3_init 49 = .ok (.invokestatic 24, 3) := by decide +kernel
theorem dX3_init_52 : decode cX3_init 52 = .ok (.iconst 0, 1) := by decide +kernel
theorem dX3_init_53 : decode cX3_init 53 = .ok (.istore_n 2, 1) := by decide +kernel
theorem dX3_init_54 : decode cX3_init 54 = .ok (.iload_n 2, 1) := by decide +kernel
theorem dX3_init_55 : decode cX3_init 55 = .ok (.bipush 8, 2) := by decide +kernel
theorem dX3_init_57 : decode cX3_init 57 = .ok (.if_icmp .ge 23, 3) := by decide +kernel
theorem dX3_init_60 : decode cX3_init 60 = .ok (.aload_n 0, 1) := by decide +kernel
theorem dX3_init_61 : decode cX3_init 61 = .ok (.getfield 16, 3) := by decide +kernel
theorem dX3_init_64 : decode cX3_init 64 = .ok (.iload_n 1, 1) := by decide +kernel
theorem dX3_init_65 : decode cX3_init 65 = .ok (.aaload, 1) := by decide +kernel
theorem dX3_init_66 : decode cX3_init 66 = .ok (.iload_n 2, 1) := by decide +kernel
theorem dX3_init_67 : decode cX3_init 67 = .ok (.bipush 8, 2) := by decide +kernel
theorem dX3_init_69 : decode cX3_init 69 = .ok (.imul, 1) := by decide +kernel
theorem dX3_init_70 : decode cX3_init 70 = .ok (.iload_n 2, 1) := by decide +kernel
theorem dX3_init_71 : decode cX3_init 71 = .ok (.iadd, 1) := by decide +kernel
theorem dX3_init_72 : decode cX3_init 72 = .ok (.iconst 0, 1) := by decide +kernel
theorem dX3_init_73 : decode cX3_init 73 = .ok (.iastore, 1) := by decide +kernel
theorem dX3_init_74 : decode cX3_init 74 = .ok (.iinc 2 1, 3) := by decide +kernel
theorem dX3_init_77 : decode cX3_init 77 = .ok (.goto (-23), 3) := by decide +kernel
theorem dX3_init_80 : decode cX3_init 80 = .ok (.iinc 1 1, 3) := by decide +kernel
theorem dX3_init_83 : decode cX3_init 83 = .ok (.goto (-47), 3) := by decide +kernel
theorem dX3_init_86 : decode cX3_init 86 = .ok (.return_, 1) := by decide +kernel
theorem dX3_hasVillage_0 : decode cX3_hasVillage 0 = .ok (.iload_n 1, 1) := by decide +kernel
theorem dX3_hasVillage_1 : decode cX3_hasVillage 1 = .ok (.iconst 0, 1) := by decide +kernel
theorem dX3_hasVillage_2 : decode cX3_hasVillage 2 = .ok (.aload_n 0, 1) := by decide +kernel
theorem dX3_hasVillage_3 : decode cX3_hasVillage 3 = .ok (.getfield 30, 3) := by decide +kernel
theorem dX3_hasVillage_6 : decode cX3_hasVillage 6 = .ok (.iconst 1, 1) := by decide +kernel
theorem dX3_hasVillage_7 : decode cX3_hasVillage 7 = .ok (.isub, 1) := by decide +kernel
theorem dX3_hasVillage_8 : decode cX3_hasVillage 8 = .ok (.invokestatic 34, 3) := by decide +kernel
theorem dX3_hasVillage_11 : decode cX3_hasVillage 11 = .ok (.ireturn, 1) := by decide +kernel
theorem dX3_addVillage_0 : decode cX3_addVillage 0 = .ok (.aload_n 0, 1) := by decide +kernel
theorem dX3_addVillage_1 : decode cX3_addVillage 1 = .ok (.getfield 11, 3) := by decide +kernel
theorem dX3_addVillage_4 : decode cX3_addVillage 4 = .ok (.aload_n 0, 1) := by decide +kernel
theorem dX3_addVillage_5 : decode cX3_addVillage 5 = .ok (.getfield 30, 3) := by decide +kernel
theorem dX3_addVillage_8 : decode cX3_addVillage 8 = .ok (.aaload, 1) := by decide +kernel
theorem dX3_addVillage_9 : decode cX3_addVillage 9 = .ok (.astore 5, 2) := by decide +kernel
theorem dX3_addVillage_11 : decode cX3_addVillage 11 = .ok (.aload 5, 2) := by decide +kernel
theorem dX3_addVillage_13 : decode cX3_addVillage 13 = .ok (.iconst 0, 1) := by decide +kernel
theorem dX3_addVillage_14 : decode cX3_addVillage 14 = .ok (.iload_n 1, 1) := by decide +kernel
theorem dX3_addVillage_15 : decode cX3_addVillage 15 = .ok (.iastore, 1) := by decide +kernel
theorem dX3_addVillage_16 : decode cX3_addVillage 16 = .ok (.aload 5, 2) := by decide +kernel
theorem dX3_addVillage_18 : decode cX3_addVillage 18 = .ok (.iconst 1, 1) := by decide +kernel
theorem dX3_addVillage_19 : decode cX3_addVillage 19 = .ok (.iload_n 2, 1) := by decide +kernel
theorem dX3_addVillage_20 : decode cX3_addVillage 20 = .ok (.iastore, 1) := by decide +kernel
theorem dX3_addVillage_21 : decode cX3_addVillage 21 = .ok (.aload 5, 2) := by decide +kernel
theorem dX3_addVillage_23 : decode cX3_addVillage 23 = .ok (.iconst 2, 1) := by decide +kernel
theorem dX3_addVillage_24 : decode cX3_addVillage 24 = .ok (.iload_n 3, 1) := by decide +kernel
theorem dX3_addVillage_25 : decode cX3_addVillage 25 = .ok (.iastore, 1) := by decide +kernel
theorem dX3_addVillage_26 : decode cX3_addVillage 26 = .ok (.aload 5, 2) := by decide +kernel
theorem dX3_addVillage_28 : decode cX3_addVillage 28 = .ok (.iconst 3, 1) := by decide +kernel
theorem dX3_addVillage_29 : decode cX3_addVillage 29 = .ok (.iload 4, 2) := by decide +kernel
theorem dX3_addVillage_31 : decode cX3_addVillage 31 = .ok (.iastore, 1) := by decide +kernel
theorem dX3_addVillage_32 : decode cX3_addVillage 32 = .ok (.iconst 0, 1) := by decide +kernel
theorem dX3_addVillage_33 : decode cX3_addVillage 33 = .ok (.istore 6, 2) := by decide +kernel
theorem dX3_addVillage_35 : decode cX3_addVillage 35 = .ok (.iload 6, 2) := by decide +kernel
theorem dX3_addVillage_37 : decode cX3_addVillage 37 = .ok (.iconst 4, 1) := by decide +kernel
theorem dX3_addVillage_38 : decode cX3_addVillage 38 = .ok (.if_icmp .ge 18, 3) := by decide +kernel
theorem dX3_addVillage_41 : decode cX3_addVillage 41 = .ok (.aload 5, 2) := by decide +kernel
theorem dX3_addVillage_43 : decode cX3_addVillage 43 = .ok (.iconst 4, 1) := by decide +kernel
theorem dX3_addVillage_44 : decode cX3_addVillage 44 = .ok (.iload 6, 2) := by decide +kernel
theorem dX3_addVillage_46 : decode cX3_addVillage 46 = .ok (.iadd, 1) := by decide +kernel
theorem dX3_addVillage_47 : decode cX3_addVillage 47 = .ok (.bipush 50, 2) := by decide +kernel
theorem dX3_addVillage_49 : decode cX3_addVillage 49 = .ok (.iastore, 1) := by decide +kernel
theorem dX3_addVillage_50 : decode cX3_addVillage 50 = .ok (.iinc 6 1, 3) := by decide +kernel
theorem dX3_addVillage_53 : decode cX3_addVillage 53 = .ok (.goto (-18), 3) := by decide +kernel
theorem dX3_addVillage_56 : decode cX3_addVillage 56 = .ok (.aload_n 0, 1) := by decide +kernel
theorem dX3_addVillage_57 : decode cX3_addVillage 57 = .ok (.dup, 1) := by decide +kernel
theorem dX3_addVillage_58 : decode cX3_addVillage 58 = .ok (.getfield 30, 3) := by decide +kernel
theorem dX3_addVillage_61 : decode cX3_addVillage 61 = .ok (.iconst 1, 1) := by decide +kernel
theorem dX3_addVillage_62 : decode cX3_addVillage 62 = .ok (.iadd, 1) := by decide +kernel
theorem dX3_addVillage_63 : decode cX3_addVillage 63 = .ok (.putfield 30, 3) := by decide +kernel
theorem dX3_addVillage_66 : decode cX3_addVillage 66 = .ok (.aload_n 0, 1) := by decide +kernel
theorem dX3_addVillage_67 : decode cX3_addVillage 67 = .ok (.getfield 30, 3) := by decide +kernel
theorem dX3_addVillage_70 : decode cX3_addVillage 70 = .ok (.iconst 1, 1) := by decide +kernel
theorem dX3_addVillage_71 : decode cX3_addVillage 71 = .ok (.isub, 1) := by decide +kernel
theorem dX3_addVillage_72 : decode cX3_addVillage 72 = .ok (.ireturn, 1) := by decide +kernel
theorem dX3_addRoad_0 : decode cX3_addRoad 0 = .ok (.iconst 0, 1) := by decide +kernel
theorem dX3_addRoad_1 : decode cX3_addRoad 1 = .ok (.istore 5, 2) := by decide +kernel
theorem dX3_addRoad_3 : decode cX3_addRoad 3 = .ok (.iload 4, 2) := by decide +kernel
theorem dX3_addRoad_5 : decode cX3_addRoad 5 = .ok (.ifCond .le 32, 3) := by decide +kernel
theorem dX3_addRoad_8 : decode cX3_addRoad 8 = .ok (.iconst 1, 1) := by decide +kernel
theorem dX3_addRoad_9 : decode cX3_addRoad 9 = .ok (.aload_n 0, 1) := by decide +kernel
theorem dX3_addRoad_10 : decode cX3_addRoad 10 = .ok (.getfield 38, 3) := by decide +kernel
theorem dX3_addRoad_13 : decode cX3_addRoad 13 = .ok (.ishl, 1) := by decide +kernel
theorem dX3_addRoad_14 : decode cX3_addRoad 14 = .ok (.istore 5, 2) := by decide +kernel
theorem dX3_addRoad_16 : decode cX3_addRoad 16 = .ok (.aload_n 0, 1) := by decide +kernel
theorem dX3_addRoad_17 : decode cX3_addRoad 17 = .ok (.getfield 19, 3) := by decide +kernel
theorem dX3_addRoad_20 : decode cX3_addRoad 20 = .ok (.aload_n 0, 1) := by decide +kernel
theorem dX3_addRoad_21 : decode cX3_addRoad 21 = .ok (.getfield 38, 3) := by decide +kernel
theorem dX3_addRoad_24 : decode cX3_addRoad 24 = .ok (.iload 4, 2) := by decide +kernel
theorem dX3_addRoad_26 : decode cX3_addRoad 26 = .ok (.iastore, 1) := by decide +kernel
theorem dX3_addRoad_27 : decode cX3_addRoad 27 = .ok (.aload_n 0, 1) := by decide +kernel
theorem dX3_addRoad_28 : decode cX3_addRoad 28 = .ok (.dup, 1) := by decide +kernel
theorem dX3_addRoad_29 : decode cX3_addRoad 29 = .ok (.getfield 38, 3) := by decide +kernel
theorem dX3_addRoad_32 : decode cX3_addRoad 32 = .ok (.iconst 1, 1) := by decide +kernel
theorem dX3_addRoad_33 : decode cX3_addRoad 33 = .ok (.iadd, 1) := by decide +kernel
theorem dX3_addRoad_34 : decode cX3_addRoad 34 = .ok (.putfield 38, 3) := by decide +kernel
theorem dX3_addRoad_37 : decode cX3_addRoad 37 = .ok (.iconst 0, 1) := by decide +kernel
theorem dX3_addRoad_38 : decode cX3_addRoad 38 = .ok (.istore 6, 2) := by decide +kernel
theorem dX3_addRoad_40 : decode cX3_addRoad 40 = .ok (.iload 6, 2) := by decide +kernel
theorem dX3_addRoad_42 : decode cX3_addRoad 42 = .ok (.iconst 4, 1) := by decide +kernel
theorem dX3_addRoad_43 : decode cX3_addRoad 43 = .ok (.if_icmp .ge 30, 3) := by decide +kernel
theorem dX3_addRoad_46 : decode cX3_addRoad 46 = .ok (.iload 6, 2) := by decide +kernel
theorem dX3_addRoad_48 : decode cX3_addRoad 48 = .ok (.iload 5, 2) := by decide +kernel
theorem dX3_addRoad_50 : decode cX3_addRoad 50 = .ok (.iand, 1) := by decide +kernel
theorem dX3_addRoad_51 : decode cX3_addRoad 51 = .ok (.ifCond .ne 16, 3) := by decide +kernel
theorem dX3_addRoad_54 : decode cX3_addRoad 54 = .ok (.aload_n 0, 1) := by decide +kernel
theorem dX3_addRoad_55 : decode cX3_addRoad 55 = .ok (.getfield 16, 3) := by decide +kernel
theorem dX3_addRoad_58 : decode cX3_addRoad 58 = .ok (.iload 6, 2) := by decide +kernel
theorem dX3_addRoad_60 : decode cX3_addRoad 60 = .ok (.aaload, 1) := by decide +kernel
theorem dX3_addRoad_61 : decode cX3_addRoad 61 = .ok (.iload_n 1, 1) := by decide +kernel
theorem dX3_addRoad_62 : decode cX3_addRoad 62 = .ok (.iload_n 2, 1) := by decide +kernel
theorem dX3_addRoad_63 : decode cX3_addRoad 63 = .ok (.iload_n 3, 1) := by decide +kernel
theorem dX3_addRoad_64 : decode cX3_addRoad 64 = .ok (.invokestatic 41, 3) := by decide +kernel
theorem dX3_addRoad_67 : decode cX3_addRoad 67 = .ok (.iinc 6 1, 3) := by decide +kernel
theorem dX3_addRoad_70 : decode cX3_addRoad 70 = .ok (.goto (-30), 3) := by decide +kernel
theorem dX3_addRoad_73 : decode cX3_addRoad 73 = .ok (.aload_n 0, 1) := by decide +kernel
theorem dX3_addRoad_74 : decode cX3_addRoad 74 = .ok (.dup, 1) := by decide +kernel
theorem dX3_addRoad_75 : decode cX3_addRoad 75 = .ok (.getfield 45, 3) := by decide +kernel
theorem dX3_addRoad_78 : decode cX3_addRoad 78 = .ok (.iconst 1, 1) := by decide +kernel
theorem dX3_addRoad_79 : decode cX3_addRoad 79 = .ok (.iadd, 1) := by decide +kernel
theorem dX3_addRoad_80 : decode cX3_addRoad 80 = .ok (.putfield 45, 3) := by decide +kernel
theorem dX3_addRoad_83 : decode cX3_addRoad 83 = .ok (.aload_n 0, 1) := by decide +kernel
theorem dX3_addRoad_84 : decode cX3_addRoad 84 = .ok (.getfield 45, 3) := by decide +kernel
theorem dX3_addRoad_87 : decode cX3_addRoad 87 = .ok (.iconst 1, 1) := by decide +kernel
theorem dX3_addRoad_88 : decode cX3_addRoad 88 = .ok (.isub, 1) := by decide +kernel
theorem dX3_addRoad_89 : decode cX3_addRoad 89 = .ok (.ireturn, 1) := by decide +kernel
theorem dX3_shorten_0 : decode cX3_shorten 0 = .ok (.iconst 0, 1) := by decide +kernel
theorem dX3_shorten_1 : decode cX3_shorten 1 = .ok (.istore 4, 2) := by decide +kernel
theorem dX3_shorten_3 : decode cX3_shorten 3 = .ok (.iload 4, 2) := by decide +kernel
theorem dX3_shorten_5 : decode cX3_shorten 5 = .ok (.bipush 8, 2) := by decide +kernel
theorem dX3_shorten_7 : decode cX3_shorten 7 = .ok (.if_icmp .ge 105, 3) := by decide +kernel
theorem dX3_shorten_10 : decode cX3_shorten 10 = .ok (.iconst 0, 1) := by decide +kernel
theorem dX3_shorten_11 : decode cX3_shorten 11 = .ok (.istore 5, 2) := by decide +kernel
theorem dX3_shorten_13 : decode cX3_shorten 13 = .ok (.iload 5, 2) := by decide +kernel
theorem dX3_shorten_15 : decode cX3_shorten 15 = .ok (.bipush 8, 2) := by decide +kernel
theorem dX3_shorten_17 : decode cX3_shorten 17 = .ok (.if_icmp .ge 89, 3) := by decide +kernel
theorem dX3_shorten_20 : decode cX3_shorten 20 = .ok (.aload_n 0, 1) := by decide +kernel
theorem dX3_shorten_21 : decode cX3_shorten 21 = .ok (.iload 4, 2) := by decide +kernel
theorem dX3_shorten_23 : decode cX3_shorten 23 = .ok (.bipush 8, 2) := by decide +kernel
theorem dX3_shorten_25 : decode cX3_shorten 25 = .ok (.imul, 1) := by decide +kernel
theorem dX3_shorten_26 : decode cX3_shorten 26 = .ok (.iload_n 1, 1) := by decide +kernel
theorem dX3_shorten_27 : decode cX3_shorten 27 = .ok (.iadd, 1) := by decide +kernel
theorem dX3_shorten_28 : decode cX3_shorten 28 = .ok (.iaload, 1) := by decide +kernel
theorem dX3_shorten_29 : decode cX3_shorten 29 = .ok (.aload_n 0, 1) := by decide +kernel
theorem dX3_shorten_30 : decode cX3_shorten 30 = .ok (.iload_n 2, 1) := by decide +kernel
theorem dX3_shorten_31 : decode cX3_shorten 31 = .ok (.bipush 8, 2) := by decide +kernel
theorem dX3_shorten_33 : decode cX3_shorten 33 = .ok (.imul, 1) := by decide +kernel
theorem dX3_shorten_34 : decode cX3_shorten 34 = .ok (.iload 5, 2) := by decide +kernel
theorem dX3_shorten_36 : decode cX3_shorten 36 = .ok (.iadd, 1) := by decide +kernel
theorem dX3_shorten_37 : decode cX3_shorten 37 = .ok (.iaload, 1) := by decide +kernel
theorem dX3_shorten_38 : decode cX3_shorten 38 = .ok (.iadd, 1) := by decide +kernel
theorem dX3_shorten_39 : decode cX3_shorten 39 = .ok (.istore 6, 2) := by decide +kernel
theorem dX3_shorten_41 : decode cX3_shorten 41 = .ok (.aload_n 0, 1) := by decide +kernel
theorem dX3_shorten_42 : decode cX3_shorten 42 = .ok (.iload 4, 2) := by decide +kernel
theorem dX3_shorten_44 : decode cX3_shorten 44 = .ok (.bipush 8, 2) := by decide +kernel
theorem dX3_shorten_46 : decode cX3_shorten 46 = .ok (.imul, 1) := by decide +kernel
theorem dX3_shorten_47 : decode cX3_shorten 47 = .ok (.iload_n 2, 1) := by decide +kernel
theorem dX3_shorten_48 : decode cX3_shorten 48 = .ok (.iadd, 1) := by decide +kernel
theorem dX3_shorten_49 : decode cX3_shorten 49 = .ok (.iaload, 1) := by decide +kernel
theorem dX3_shorten_50 : decode cX3_shorten 50 = .ok (.aload_n 0, 1) := by decide +kernel
theorem dX3_shorten_51 : decode cX3_shorten 51 = .ok (.iload_n 1, 1) := by decide +kernel
theorem dX3_shorten_52 : decode cX3_shorten 52 = .ok (.bipush 8, 2) := by decide +kernel
theorem dX3_shorten_54 : decode cX3_shorten 54 = .ok (.imul, 1) := by decide +kernel
theorem dX3_shorten_55 : decode cX3_shorten 55 = .ok (.iload 5, 2) := by decide +kernel
theorem dX3_shorten_57 : decode cX3_shorten 57 = .ok (.iadd, 1) := by decide +kernel
theorem dX3_shorten_58 : decode cX3_shorten 58 = .ok (.iaload, 1) := by decide +kernel
theorem dX3_shorten_59 : decode cX3_shorten 59 = .ok (.iadd, 1) := by decide +kernel
theorem dX3_shorten_60 : decode cX3_shorten 60 = .ok (.istore 7, 2) := by decide +kernel
theorem dX3_shorten_62 : decode cX3_shorten 62 = .ok (.iload 6, 2) := by decide +kernel
theorem dX3_shorten_64 : decode cX3_shorten 64 = .ok (.iload 7, 2) := by decide +kernel
theorem dX3_shorten_66 : decode cX3_shorten 66 = .ok (.invokestatic 48, 3) := by decide +kernel
theorem dX3_shorten_69 : decode cX3_shorten 69 = .ok (.iload_n 3, 1) := by decide +kernel
theorem dX3_shorten_70 : decode cX3_shorten 70 = .ok (.iadd, 1) := by decide +kernel
theorem dX3_shorten_71 : decode cX3_shorten 71 = .ok (.istore 8, 2) := by decide +kernel
theorem dX3_shorten_73 : decode cX3_shorten 73 = .ok (.iload 8, 2) := by decide +kernel
theorem dX3_shorten_75 : decode cX3_shorten 75 = .ok (.aload_n 0, 1) := by decide +kernel
theorem dX3_shorten_76 : decode cX3_shorten 76 = .ok (.iload 4, 2) := by decide +kernel
theorem dX3_shorten_78 : decode cX3_shorten 78 = .ok (.bipush 8, 2) := by decide +kernel
theorem dX3_shorten_80 : decode cX3_shorten 80 = .ok (.imul, 1) := by decide +kernel
theorem dX3_shorten_81 : decode cX3_shorten 81 = .ok (.iload 5, 2) := by decide +kernel
theorem dX3_shorten_83 : decode cX3_shorten 83 = .ok (.iadd, 1) := by decide +kernel
theorem dX3_shorten_84 : decode cX3_shorten 84 = .ok (.iaload, 1) := by decide +kernel
theorem dX3_shorten_85 : decode cX3_shorten 85 = .ok (.if_icmp .ge 15, 3) := by decide +kernel
theorem dX3_shorten_88 : decode cX3_shorten 88 = .ok (.aload_n 0, 1) := by decide +kernel
theorem dX3_shorten_89 : decode cX3_shorten 89 = .ok (.iload 4, 2) := by decide +kernel
theorem dX3_shorten_91 : decode cX3_shorten 91 = .ok (.bipush 8, 2) := by decide +kernel
theorem dX3_shorten_93 : decode cX3_shorten 93 = .ok (.imul, 1) := by decide +kernel
theorem dX3_shorten_94 : decode cX3_shorten 94 = .ok (.iload 5, 2) := by decide +kernel
theorem dX3_shorten_96 : decode cX3_shorten 96 = .ok (.iadd, 1) := by decide +kernel
theorem dX3_shorten_97 : decode cX3_shorten 97 = .ok (.iload 8, 2) := by decide +kernel
theorem dX3_shorten_99 : decode cX3_shorten 99 = .ok (.iastore, 1) := by decide +kernel
theorem dX3_shorten_100 : decode cX3_shorten 100 = .ok (.iinc 5 1, 3) := by decide +kernel
theorem dX3_shorten_103 : decode cX3_shorten 103 = .ok (.goto (-90), 3) := by decide +kernel
theorem dX3_shorten_106 : decode cX3_shorten 106 = .ok (.iinc 4 1, 3) := by decide +kernel
theorem dX3_shorten_109 : decode cX3_shorten 109 = .ok (.goto (-106), 3) := by decide +kernel
theorem dX3_shorten_112 : decode cX3_shorten 112 = .ok (.return_, 1) := by decide +kernel
theorem dX3_fewestMinutes_0 : decode cX3_fewestMinutes 0 = .ok (.aload_n 0, 1) := by decide +kernel
theorem dX3_fewestMinutes_1 : decode cX3_fewestMinutes 1 = .ok (.getfield 16, 3) := by decide +kernel
theorem dX3_fewestMinutes_4 : decode cX3_fewestMinutes 4 = .ok (.iload_n 3, 1) := by decide +kernel
theorem dX3_fewestMinutes_5 : decode cX3_fewestMinutes 5 = .ok (.aaload, 1) := by decide +kernel
theorem dX3_fewestMinutes_6 : decode cX3_fewestMinutes 6 = .ok (.iload_n 1, 1) := by decide +kernel
theorem dX3_fewestMinutes_7 : decode cX3_fewestMinutes 7 = .ok (.bipush 8, 2) := by decide +kernel
theorem dX3_fewestMinutes_9 : decode cX3_fewestMinutes 9 = .ok (.imul, 1) := by decide +kernel
theorem dX3_fewestMinutes_10 : decode cX3_fewestMinutes 10 = .ok (.iload_n 2, 1) := by decide +kernel
theorem dX3_fewestMinutes_11 : decode cX3_fewestMinutes 11 = .ok (.iadd, 1) := by decide +kernel
theorem dX3_fewestMinutes_12 : decode cX3_fewestMinutes 12 = .ok (.iaload, 1) := by decide +kernel
theorem dX3_fewestMinutes_13 : decode cX3_fewestMinutes 13 = .ok (.istore 4, 2) := by decide +kernel
theorem dX3_fewestMinutes_15 : decode cX3_fewestMinutes 15 = .ok (.iload 4, 2) := by decide +kernel
theorem dX3_fewestMinutes_17 : decode cX3_fewestMinutes 17 = .ok (.ldc 23, 2) := by decide +kernel
theorem dX3_fewestMinutes_19 : decode cX3_fewestMinutes 19 = .ok (.if_icmp .lt 7, 3) := by decide +kernel
theorem dX3_fewestMinutes_22 : decode cX3_fewestMinutes 22 = .ok (.iconst (-1), 1) := by decide +kernel
theorem dX3_fewestMinutes_23 : decode cX3_fewestMinutes 23 = .ok (.goto 5, 3) := by decide +kernel
theorem dX3_fewestMinutes_26 : decode cX3_fewestMinutes 26 = .ok (.iload 4, 2) := by decide +kernel
theorem dX3_fewestMinutes_28 : decode cX3_fewestMinutes 28 = .ok (.ireturn, 1) := by decide +kernel
theorem dX3_canBeShut_0 : decode cX3_canBeShut 0 = .ok (.iconst 1, 1) := by decide +kernel
theorem dX3_canBeShut_1 : decode cX3_canBeShut 1 = .ok (.aload_n 0, 1) := by decide +kernel
theorem dX3_canBeShut_2 : decode cX3_canBeShut 2 = .ok (.getfield 38, 3) := by decide +kernel
theorem dX3_canBeShut_5 : decode cX3_canBeShut 5 = .ok (.ishl, 1) := by decide +kernel
theorem dX3_canBeShut_6 : decode cX3_canBeShut 6 = .ok (.iconst 1, 1) := by decide +kernel
theorem dX3_canBeShut_7 : decode cX3_canBeShut 7 = .ok (.isub, 1) := by decide +kernel
theorem dX3_canBeShut_8 : decode cX3_canBeShut 8 = .ok (.istore_n 2, 1) := by decide +kernel
theorem dX3_canBeShut_9 : decode cX3_canBeShut 9 = .ok (.iconst 0, 1) := by decide +kernel
theorem dX3_canBeShut_10 : decode cX3_canBeShut 10 = .ok (.istore_n 3, 1) := by decide +kernel
theorem dX3_canBeShut_11 : decode cX3_canBeShut 11 = .ok (.iconst 0, 1) := by decide +kernel
theorem dX3_canBeShut_12 : decode cX3_canBeShut 12 = .ok (.istore 4, 2) := by decide +kernel
theorem dX3_canBeShut_14 : decode cX3_canBeShut 14 = .ok (.iload 4, 2) := by decide +kernel
theorem dX3_canBeShut_16 : decode cX3_canBeShut 16 = .ok (.iconst 4, 1) := by decide +kernel
theorem dX3_canBeShut_17 : decode cX3_canBeShut 17 = .ok (.if_icmp .ge 18, 3) := by decide +kernel
theorem dX3_canBeShut_20 : decode cX3_canBeShut 20 = .ok (.iload_n 3, 1) := by decide +kernel
theorem dX3_canBeShut_21 : decode cX3_canBeShut 21 = .ok (.iload_n 2, 1) := by decide +kernel
theorem dX3_canBeShut_22 : decode cX3_canBeShut 22 = .ok (.iconst 2, 1) := by decide +kernel
theorem dX3_canBeShut_23 : decode cX3_canBeShut 23 = .ok (.iload 4, 2) := by decide +kernel
theorem dX3_canBeShut_25 : decode cX3_canBeShut 25 = .ok (.imul, 1) := by decide +kernel
theorem dX3_canBeShut_26 : decode cX3_canBeShut 26 = .ok (.ishl, 1) := by decide +kernel
theorem dX3_canBeShut_27 : decode cX3_canBeShut 27 = .ok (.ior, 1) := by decide +kernel
theorem dX3_canBeShut_28 : decode cX3_canBeShut 28 = .ok (.istore_n 3, 1) := by decide +kernel
theorem dX3_canBeShut_29 : decode cX3_canBeShut 29 = .ok (.iinc 4 1, 3) := by decide +kernel
theorem dX3_canBeShut_32 : decode cX3_canBeShut 32 = .ok (.goto (-18), 3) := by decide +kernel
theorem dX3_canBeShut_35 : decode cX3_canBeShut 35 = .ok (.iload_n 1, 1) := by decide +kernel
theorem dX3_canBeShut_36 : decode cX3_canBeShut 36 = .ok (.iload_n 3, 1) := by decide +kernel
theorem dX3_canBeShut_37 : decode cX3_canBeShut 37 = .ok (.iconst (-1), 1) := by decide +kernel
theorem dX3_canBeShut_38 : decode cX3_canBeShut 38 = .ok (.ixor, 1) := by decide +kernel
theorem dX3_canBeShut_39 : decode cX3_canBeShut 39 = .ok (.iand, 1) := by decide +kernel
theorem dX3_canBeShut_40 : decode cX3_canBeShut 40 = .ok (.ifCond .ne 7, 3) := by decide +kernel
theorem dX3_canBeShut_43 : decode cX3_canBeShut 43 = .ok (.iconst 1, 1) := by decide +kernel
theorem dX3_canBeShut_44 : decode cX3_canBeShut 44 = .ok (.goto 4, 3) := by decide +kernel
theorem dX3_canBeShut_47 : decode cX3_canBeShut 47 = .ok (.iconst 0, 1) := by decide +kernel
theorem dX3_canBeShut_48 : decode cX3_canBeShut 48 = .ok (.ireturn, 1) := by decide +kernel
theorem dX3_chanceOf_0 : decode cX3_chanceOf 0 = .ok (.lconst 1, 1) := by decide +kernel
theorem dX3_chanceOf_1 : decode cX3_chanceOf 1 = .ok (.lstore_n 2, 1) := by decide +kernel
theorem dX3_chanceOf_2 : decode cX3_chanceOf 2 = .ok (.iconst 0, 1) := by decide +kernel
theorem dX3_chanceOf_3 : decode cX3_chanceOf 3 = .ok (.istore 4, 2) := by decide +kernel
theorem dX3_chanceOf_5 : decode cX3_chanceOf 5 = .ok (.iload 4, 2) := by decide +kernel
theorem dX3_chanceOf_7 : decode cX3_chanceOf 7 = .ok (.iconst 4, 1) := by decide +kernel
theorem dX3_chanceOf_8 : decode cX3_chanceOf 8 = .ok (.if_icmp .ge 79, 3) := by decide +kernel
theorem dX3_chanceOf_11 : decode cX3_chanceOf 11 = .ok (.iconst 0, 1) := by decide +kernel
theorem dX3_chanceOf_12 : decode cX3_chanceOf 12 = .ok (.istore 5, 2) := by decide +kernel
theorem dX3_chanceOf_14 : decode cX3_chanceOf 14 = .ok (.iload 5, 2) := by decide +kernel
theorem dX3_chanceOf_16 : decode cX3_chanceOf 16 = .ok (.aload_n 0, 1) := by decide +kernel
theorem dX3_chanceOf_17 : decode cX3_chanceOf 17 = .ok (.getfield 38, 3) := by decide +kernel
theorem dX3_chanceOf_20 : decode cX3_chanceOf 20 = .ok (.if_icmp .ge 61, 3) := by decide +kernel
theorem dX3_chanceOf_23 : decode cX3_chanceOf 23 = .ok (.iload_n 1, 1) := by decide +kernel
theorem dX3_chanceOf_24 : decode cX3_chanceOf 24 = .ok (.iconst 2, 1) := by decide +kernel
theorem dX3_chanceOf_25 : decode cX3_chanceOf 25 = .ok (.iload 4, 2) := by decide +kernel
theorem dX3_chanceOf_27 : decode cX3_chanceOf 27 = .ok (.imul, 1) := by decide +kernel
theorem dX3_chanceOf_28 : decode cX3_chanceOf 28 = .ok (.iload 5, 2) := by decide +kernel
theorem dX3_chanceOf_30 : decode cX3_chanceOf 30 = .ok (.iadd, 1) := by decide +kernel
theorem dX3_chanceOf_31 : decode cX3_chanceOf 31 = .ok (.ishr, 1) := by decide +kernel
theorem dX3_chanceOf_32 : decode cX3_chanceOf 32 = .ok (.iconst 1, 1) := by decide +kernel
theorem dX3_chanceOf_33 : decode cX3_chanceOf 33 = .ok (.iand, 1) := by decide +kernel
theorem dX3_chanceOf_34 : decode cX3_chanceOf 34 = .ok (.iconst 1, 1) := by decide +kernel
theorem dX3_chanceOf_35 : decode cX3_chanceOf 35 = .ok (.if_icmp .ne 7, 3) := by decide +kernel
theorem dX3_chanceOf_38 : decode cX3_chanceOf 38 = .ok (.iconst 1, 1) := by decide +kernel
theorem dX3_chanceOf_39 : decode cX3_chanceOf 39 = .ok (.goto 4, 3) := by decide +kernel
theorem dX3_chanceOf_42 : decode cX3_chanceOf 42 = .ok (.iconst 0, 1) := by decide +kernel
theorem dX3_chanceOf_43 : decode cX3_chanceOf 43 = .ok (.istore 6, 2) := by decide +kernel
theorem dX3_chanceOf_45 : decode cX3_chanceOf 45 = .ok (.lload_n 2, 1) := by decide +kernel
theorem dX3_chanceOf_46 : decode cX3_chanceOf 46 = .ok (.iload 6, 2) := by decide +kernel
theorem dX3_chanceOf_48 : decode cX3_chanceOf 48 = .ok (.ifCond .eq 14, 3) := by decide +kernel
theorem dX3_chanceOf_51 : decode cX3_chanceOf 51 = .ok (.aload_n 0, 1) := by decide +kernel
theorem dX3_chanceOf_52 : decode cX3_chanceOf 52 = .ok (.getfield 19, 3) := by decide +kernel
theorem dX3_chanceOf_55 : decode cX3_chanceOf 55 = .ok (.iload 5, 2) := by decide +kernel
theorem dX3_chanceOf_57 : decode cX3_chanceOf 57 = .ok (.iaload, 1) := by decide +kernel
theorem dX3_chanceOf_58 : decode cX3_chanceOf 58 = .ok (.i2l, 1) := by decide +kernel
theorem dX3_chanceOf_59 : decode cX3_chanceOf 59 = .ok (.goto 14, 3) := by decide +kernel
theorem dX3_chanceOf_62 : decode cX3_chanceOf 62 = .ok (.bipush 16, 2) := by decide +kernel
theorem dX3_chanceOf_64 : decode cX3_chanceOf 64 = .ok (.aload_n 0, 1) := by decide +kernel
theorem dX3_chanceOf_65 : decode cX3_chanceOf 65 = .ok (.getfield 19, 3) := by decide +kernel
theorem dX3_chanceOf_68 : decode cX3_chanceOf 68 = .ok (.iload 5, 2) := by decide +kernel
theorem dX3_chanceOf_70 : decode cX3_chanceOf 70 = .ok (.iaload, 1) := by decide +kernel
theorem dX3_chanceOf_71 : decode cX3_chanceOf 71 = .ok (.isub, 1) := by decide +kernel
theorem dX3_chanceOf_72 : decode cX3_chanceOf 72 = .ok (.i2l, 1) := by decide +kernel
theorem dX3_chanceOf_73 : decode cX3_chanceOf 73 = .ok (.lmul, 1) := by decide +kernel
theorem dX3_chanceOf_74 : decode cX3_chanceOf 74 = .ok (.lstore_n 2, 1) := by decide +kernel
theorem dX3_chanceOf_75 : decode cX3_chanceOf 75 = .ok (.iinc 5 1, 3) := by decide +kernel
theorem dX3_chanceOf_78 : decode cX3_chanceOf 78 = .ok (.goto (-64), 3) := by decide +kernel
theorem dX3_chanceOf_81 : decode cX3_chanceOf 81 = .ok (.iinc 4 1, 3) := by decide +kernel
theorem dX3_chanceOf_84 : decode cX3_chanceOf 84 = .ok (.goto (-79), 3) := by decide +kernel
theorem dX3_chanceOf_87 : decode cX3_chanceOf 87 = .ok (.lload_n 2, 1) := by decide +kernel
theorem dX3_chanceOf_88 : decode cX3_chanceOf 88 = .ok (.lreturn, 1) := by decide +kernel
theorem dX4_init_0 : decode cX4_init 0 = .ok (.aload_n 0, 1) := by decide +kernel
theorem dX4_init_1 : decode cX4_init 1 = .ok (.invokespecial 5, 3) := by decide +kernel
theorem dX4_init_4 : decode cX4_init 4 = .ok (.aload_n 0, 1) := by decide +kernel
theorem dX4_init_5 : decode cX4_init 5 = .ok (.bipush 64, 2) := by decide +kernel
theorem dX4_init_7 : decode cX4_init 7 = .ok (.newarray .int, 2) := by decide +kernel
theorem dX4_init_9 : decode cX4_init 9 = .ok (.putfield 13, 3) := by decide +kernel
theorem dX4_init_12 : decode cX4_init 12 = .ok (.aload_n 0, 1) := by decide +kernel
theorem dX4_init_13 : decode cX4_init 13 = .ok (.bipush 64, 2) := by decide +kernel
theorem dX4_init_15 : decode cX4_init 15 = .ok (.newarray .int, 2) := by decide +kernel
theorem dX4_init_17 : decode cX4_init 17 = .ok (.putfield 17, 3) := by decide +kernel
theorem dX4_init_20 : decode cX4_init 20 = .ok (.aload_n 0, 1) := by decide +kernel
theorem dX4_init_21 : decode cX4_init 21 = .ok (.iconst 5, 1) := by decide +kernel
theorem dX4_init_22 : decode cX4_init 22 = .ok (.newarray .int, 2) := by decide +kernel
theorem dX4_init_24 : decode cX4_init 24 = .ok (.putfield 20, 3) := by decide +kernel
theorem dX4_init_27 : decode cX4_init 27 = .ok (.aload_n 0, 1) := by decide +kernel
theorem dX4_init_28 : decode cX4_init 28 = .ok (.iconst 5, 1) := by decide +kernel
theorem dX4_init_29 : decode cX4_init 29 = .ok (.newarray .int, 2) := by decide +kernel
theorem dX4_init_31 : decode cX4_init 31 = .ok (.putfield 23, 3) := by decide +kernel
theorem dX4_init_34 : decode cX4_init 34 = .ok (.aload_n 0, 1) := by decide +kernel
theorem dX4_init_35 : decode cX4_init 35 = .ok (.bipush 64, 2) := by decide +kernel
theorem dX4_init_37 : decode cX4_init 37 = .ok (.newarray .long, 2) := by decide +kernel
theorem dX4_init_39 : decode cX4_init 39 = .ok (.putfield 26, 3) := by decide +kernel
theorem dX4_init_42 : decode cX4_init 42 = .ok (.aload_n 0, 1) := by decide +kernel
theorem dX4_init_43 : decode cX4_init 43 = .ok (.sipush 600, 3) := by decide +kernel
theorem dX4_init_46 : decode cX4_init 46 = .ok (.putfield 30, 3) := by decide +kernel
theorem dX4_init_49 : decode cX4_init 49 = .ok (.aload_n 0, 1) := by decide +kernel
theorem dX4_init_50 : decode cX4_init 50 = .ok (.iconst 5, 1) := by decide +kernel
theorem dX4_init_51 : decode cX4_init 51 = .ok (.putfield 34, 3) := by decide +kernel
theorem dX4_init_54 : decode cX4_init 54 = .ok (.return_, 1) := by decide +kernel
theorem dX4_reset_0 : decode cX4_reset 0 = .ok (.aload_n 0, 1) := by decide +kernel
theorem dX4_reset_1 : decode cX4_reset 1 = .ok (.getfield 20, 3) := by decide +kernel
theorem dX4_reset_4 : decode cX4_reset 4 = .ok (.iconst 0, 1) := by decide +kernel
theorem dX4_reset_5 : decode cX4_reset 5 = .ok (.invokestatic 37, 3) := by decide +kernel
theorem dX4_reset_8 : decode cX4_reset 8 = .ok (.aload_n 0, 1) := by decide +kernel
theorem dX4_reset_9 : decode cX4_reset 9 = .ok (.getfield 23, 3) := by decide +kernel
theorem dX4_reset_12 : decode cX4_reset 12 = .ok (.iconst 0, 1) := by decide +kernel
theorem dX4_reset_13 : decode cX4_reset 13 = .ok (.invokestatic 37, 3) := by decide +kernel
theorem dX4_reset_16 : decode cX4_reset 16 = .ok (.aload_n 0, 1) := by decide +kernel
theorem dX4_reset_17 : decode cX4_reset 17 = .ok (.sipush 600, 3) := by decide +kernel
theorem dX4_reset_20 : decode cX4_reset 20 = .ok (.putfield 30, 3) := by decide +kernel
theorem dX4_reset_23 : decode cX4_reset 23 = .ok (.aload_n 0, 1) := by decide +kernel
theorem dX4_reset_24 : decode cX4_reset 24 = .ok (.iconst 5, 1) := by decide +kernel
theorem dX4_reset_25 : decode cX4_reset 25 = .ok (.putfield 34, 3) := by decide +kernel
theorem dX4_reset_28 : decode cX4_reset 28 = .ok (.aload_n 0, 1) := by decide +kernel
theorem dX4_reset_29 : decode cX4_reset 29 = .ok (.iconst 0, 1) := by decide +kernel
theorem dX4_reset_30 : decode cX4_reset 30 = .ok (.putfield 43, 3) := by decide +kernel
theorem dX4_reset_33 : decode cX4_reset 33 = .ok (.aload_n 0, 1) := by decide +kernel
theorem dX4_reset_34 : decode cX4_reset 34 = .ok (.iconst 0, 1) := by decide +kernel
theorem dX4_reset_35 : decode cX4_reset 35 = .ok (.putfield 46, 3) := by decide +kernel
theorem dX4_reset_38 : decode cX4_reset 38 = .ok (.return_, 1) := by decide +kernel
theorem dX4_copyFrom_0 : decode cX4_copyFrom 0 = .ok (.aload_n 1, 1) := by decide +kernel
theorem dX4_copyFrom_1 : decode cX4_copyFrom 1 = .ok (.getfield 13, 3) := by decide +kernel
theorem dX4_copyFrom_4 : decode cX4_copyFrom 4 = .ok (.iconst 0, 1) := by decide +kernel
theorem dX4_copyFrom_5 : decode cX4_copyFrom 5 = .ok (.aload_n 0, 1) := by decide +kernel
theorem dX4_copyFrom_6 : decode cX4_copyFrom 6 = .ok (.getfield 13, 3) := by decide +kernel
theorem dX4_copyFrom_9 : decode cX4_copyFrom 9 = .ok (.iconst 0, 1) := by decide +kernel
theorem dX4_copyFrom_10 : decode cX4_copyFrom 10 = .ok (.bipush 64, 2) := by decide +kernel
theorem dX4_copyFrom_12 : decode cX4_copyFrom 12 = .ok (.invokestatic 49, 3) := by decide +kernel
theorem dX4_copyFrom_15 : decode cX4_copyFrom 15 = .ok (.aload_n 1, 1) := by decide +kernel
theorem dX4_copyFrom_16 : decode cX4_copyFrom 16 = .ok (.getfield 17, 3) := by decide +kernel
theorem dX4_copyFrom_19 : decode cX4_copyFrom 19 = .ok (.iconst 0, 1) := by decide +kernel
theorem dX4_copyFrom_20 : decode cX4_copyFrom 20 = .ok (.aload_n 0, 1) := by decide +kernel
theorem dX4_copyFrom_21 : decode cX4_copyFrom 21 = .ok (.getfield 17, 3) := by decide +kernel
theorem dX4_copyFrom_24 : decode cX4_copyFrom 24 = .ok (.iconst 0, 1) := by decide +kernel
theorem dX4_copyFrom_25 : decode cX4_copyFrom 25 = .ok (.bipush 64, 2) := by decide +kernel
theorem dX4_copyFrom_27 : decode cX4_copyFrom 27 = .ok (.invokestatic 49, 3) := by decide +kernel
theorem dX4_copyFrom_30 : decode cX4_copyFrom 30 = .ok (.aload_n 1, 1) := by decide +kernel
theorem dX4_copyFrom_31 : decode cX4_copyFrom 31 = .ok (.getfield 20, 3) := by decide +kernel
theorem dX4_copyFrom_34 : decode cX4_copyFrom 34 = .ok (.iconst 0, 1) := by decide +kernel
theorem dX4_copyFrom_35 : decode cX4_copyFrom 35 = .ok (.aload_n 0, 1) := by decide +kernel
theorem dX4_copyFrom_36 : decode cX4_copyFrom 36 = .ok (.getfield 20, 3) := by decide +kernel
theorem dX4_copyFrom_39 : decode cX4_copyFrom 39 = .ok (.iconst 0, 1) := by decide +kernel
theorem dX4_copyFrom_40 : decode cX4_copyFrom 40 = .ok (.iconst 5, 1) := by decide +kernel
theorem dX4_copyFrom_41 : decode cX4_copyFrom 41 = .ok (.invokestatic 49, 3) := by decide +kernel
theorem dX4_copyFrom_44 : decode cX4_copyFrom 44 = .ok (.aload_n 1, 1) := by decide +kernel
theorem dX4_copyFrom_45 : decode cX4_copyFrom 45 = .ok (.getfield 23, 3) := by decide +kernel
theorem dX4_copyFrom_48 : decode cX4_copyFrom 48 = .ok (.iconst 0, 1) := by decide +kernel
theorem dX4_copyFrom_49 : decode cX4_copyFrom 49 = .ok (.aload_n 0, 1) := by decide +kernel
theorem dX4_copyFrom_50 : decode cX4_copyFrom 50 = .ok (.getfield 23, 3) := by decide +kernel
theorem dX4_copyFrom_53 : decode cX4_copyFrom 53 = .ok (.iconst 0, 1) := by decide +kernel
theorem dX4_copyFrom_54 : decode cX4_copyFrom 54 = .ok (.iconst 5, 1) := by decide +kernel
theorem dX4_copyFrom_55 : decode cX4_copyFrom 55 = .ok (.invokestatic 49, 3) := by decide +kernel
theorem dX4_copyFrom_58 : decode cX4_copyFrom 58 = .ok (.aload_n 0, 1) := by decide +kernel
theorem dX4_copyFrom_59 : decode cX4_copyFrom 59 = .ok (.aload_n 1, 1) := by decide +kernel
theorem dX4_copyFrom_60 : decode cX4_copyFrom 60 = .ok (.getfield 30, 3) := by decide +kernel
theorem dX4_copyFrom_63 : decode cX4_copyFrom 63 = .ok (.putfield 30, 3) := by decide +kernel
theorem dX4_copyFrom_66 : decode cX4_copyFrom 66 = .ok (.aload_n 0, 1) := by decide +kernel
theorem dX4_copyFrom_67 : decode cX4_copyFrom 67 = .ok (.aload_n 1, 1) := by decide +kernel
theorem dX4_copyFrom_68 : decode cX4_copyFrom 68 = .ok (.getfield 34, 3) := by decide +kernel
theorem dX4_copyFrom_71 : decode cX4_copyFrom 71 = .ok (.putfield 34, 3) := by decide +kernel
theorem dX4_copyFrom_74 : decode cX4_copyFrom 74 = .ok (.aload_n 0, 1) := by decide +kernel
theorem dX4_copyFrom_75 : decode cX4_copyFrom 75 = .ok (.aload_n 1, 1) := by decide +kernel
theorem dX4_copyFrom_76 : decode cX4_copyFrom 76 = .ok (.getfield 43, 3) := by decide +kernel
theorem dX4_copyFrom_79 : decode cX4_copyFrom 79 = .ok (.putfield 43, 3) := by decide +kernel
theorem dX4_copyFrom_82 : decode cX4_copyFrom 82 = .ok (.aload_n 0, 1) := by decide +kernel
theorem dX4_copyFrom_83 : decode cX4_copyFrom 83 = .ok (.aload_n 1, 1) := by decide +kernel
theorem dX4_copyFrom_84 : decode cX4_copyFrom 84 = .ok (.getfield 46, 3) := by decide +kernel
theorem dX4_copyFrom_87 : decode cX4_copyFrom 87 = .ok (.putfield 46, 3) := by decide +kernel
theorem dX4_copyFrom_90 : decode cX4_copyFrom 90 = .ok (.return_, 1) := by decide +kernel
theorem dX4_worth_0 : decode cX4_worth 0 = .ok (.aload_n 0, 1) := by decide +kernel
theorem dX4_worth_1 : decode cX4_worth 1 = .ok (.getfield 20, 3) := by decide +kernel
theorem dX4_worth_4 : decode cX4_worth 4 = .ok (.iload_n 1, 1) := by decide +kernel
theorem dX4_worth_5 : decode cX4_worth 5 = .ok (.iaload, 1) := by decide +kernel
theorem dX4_worth_6 : decode cX4_worth 6 = .ok (.aload_n 0, 1) := by decide +kernel
theorem dX4_worth_7 : decode cX4_worth 7 = .ok (.getfield 23, 3) := by decide +kernel
theorem dX4_worth_10 : decode cX4_worth 10 = .ok (.iload_n 1, 1) := by decide +kernel
theorem dX4_worth_11 : decode cX4_worth 11 = .ok (.iaload, 1) := by decide +kernel
theorem dX4_worth_12 : decode cX4_worth 12 = .ok (.if_icmp .ne 10, 3) := by decide +kernel
theorem dX4_worth_15 : decode cX4_worth 15 = .ok (.getstatic 55, 3) := by decide +kernel
theorem dX4_worth_18 : decode cX4_worth 18 = .ok (.iload_n 1, 1) := by decide +kernel
theorem dX4_worth_19 : decode cX4_worth 19 = .ok (.iaload, 1) := by decide +kernel
theorem dX4_worth_20 : decode cX4_worth 20 = .ok (.i2l, 1) := by decide +kernel
theorem dX4_worth_21 : decode cX4_worth 21 = .ok (.lreturn, 1) := by decide +kernel
theorem dX4_worth_22 : decode cX4_worth 22 = .ok (.iconst 0, 1) := by decide +kernel
theorem dX4_worth_23 : decode cX4_worth 23 = .ok (.istore_n 3, 1) := by decide +kernel
theorem dX4_worth_24 : decode cX4_worth 24 = .ok (.aload_n 0, 1) := by decide +kernel
theorem dX4_worth_25 : decode cX4_worth 25 = .ok (.getfield 20, 3) := by decide +kernel
theorem dX4_worth_28 : decode cX4_worth 28 = .ok (.iload_n 1, 1) := by decide +kernel
theorem dX4_worth_29 : decode cX4_worth 29 = .ok (.iaload, 1) := by decide +kernel
theorem dX4_worth_30 : decode cX4_worth 30 = .ok (.istore 4, 2) := by decide +kernel
theorem dX4_worth_32 : decode cX4_worth 32 = .ok (.iload 4, 2) := by decide +kernel
theorem dX4_worth_34 : decode cX4_worth 34 = .ok (.aload_n 0, 1) := by decide +kernel
theorem dX4_worth_35 : decode cX4_worth 35 = .ok (.getfield 23, 3) := by decide +kernel
theorem dX4_worth_38 : decode cX4_worth 38 = .ok (.iload_n 1, 1) := by decide +kernel
theorem dX4_worth_39 : decode cX4_worth 39 = .ok (.iaload, 1) := by decide +kernel
theorem dX4_worth_40 : decode cX4_worth 40 = .ok (.if_icmp .ge 209, 3) := by decide +kernel
theorem dX4_worth_43 : decode cX4_worth 43 = .ok (.aload_n 0, 1) := by decide +kernel
theorem dX4_worth_44 : decode cX4_worth 44 = .ok (.getfield 13, 3) := by decide +kernel
theorem dX4_worth_47 : decode cX4_worth 47 = .ok (.iload 4, 2) := by decide +kernel
theorem dX4_worth_49 : decode cX4_worth 49 = .ok (.iaload, 1) := by decide +kernel
theorem dX4_worth_50 : decode cX4_worth 50 = .ok (.istore 5, 2) := by decide +kernel
theorem dX4_worth_52 : decode cX4_worth 52 = .ok (.iload 5, 2) := by decide +kernel
theorem dX4_worth_54 : decode cX4_worth 54 = .ok (.iconst 3, 1) := by decide +kernel
theorem dX4_worth_55 : decode cX4_worth 55 = .ok (.if_icmp .eq 9, 3) := by decide +kernel
theorem dX4_worth_58 : decode cX4_worth 58 = .ok (.iload 5, 2) := by decide +kernel
theorem dX4_worth_60 : decode cX4_worth 60 = .ok (.iconst 4, 1) := by decide +kernel
theorem dX4_worth_61 : decode cX4_worth 61 = .ok (.if_icmp .ne 41, 3) := by decide +kernel
theorem dX4_worth_64 : decode cX4_worth 64 = .ok (.aload_n 0, 1) := by decide +kernel
theorem dX4_worth_65 : decode cX4_worth 65 = .ok (.getfield 26, 3) := by decide +kernel
theorem dX4_worth_68 : decode cX4_worth 68 = .ok (.iload_n 3, 1) := by decide +kernel
theorem dX4_worth_69 : decode cX4_worth 69 = .ok (.iload 5, 2) := by decide +kernel
theorem dX4_worth_71 : decode cX4_worth 71 = .ok (.iconst 3, 1) := by decide +kernel
theorem dX4_worth_72 : decode cX4_worth 72 = .ok (.if_icmp .ne 14, 3) := by decide +kernel
theorem dX4_worth_75 : decode cX4_worth 75 = .ok (.aload_n 0, 1) := by decide +kernel
theorem dX4_worth_76 : decode cX4_worth 76 = .ok (.getfield 17, 3) := by decide +kernel
theorem dX4_worth_79 : decode cX4_worth 79 = .ok (.iload 4, 2) := by decide +kernel
theorem dX4_worth_81 : decode cX4_worth 81 = .ok (.iaload, 1) := by decide +kernel
theorem dX4_worth_82 : decode cX4_worth 82 = .ok (.i2l, 1) := by decide +kernel
theorem dX4_worth_83 : decode cX4_worth 83 = .ok (.goto 12, 3) := by decide +kernel
theorem dX4_worth_86 : decode cX4_worth 86 = .ok (.aload_n 2, 1) := by decide +kernel
theorem dX4_worth_87 : decode cX4_worth 87 = .ok (.aload_n 0, 1) := by decide +kernel
theorem dX4_worth_88 : decode cX4_worth 88 = .ok (.getfield 17, 3) := by decide +kernel
theorem dX4_worth_91 : decode cX4_worth 91 = .ok (.iload 4, 2) := by decide +kernel
theorem dX4_worth_93 : decode cX4_worth 93 = .ok (.iaload, 1) := by decide +kernel
theorem dX4_worth_94 : decode cX4_worth 94 = .ok (.laload, 1) := by decide +kernel
theorem dX4_worth_95 : decode cX4_worth 95 = .ok (.lastore, 1) := by decide +kernel
theorem dX4_worth_96 : decode cX4_worth 96 = .ok (.iinc 3 1, 3) := by decide +kernel
theorem dX4_worth_99 : decode cX4_worth 99 = .ok (.goto 144, 3) := by decide +kernel
theorem dX4_worth_102 : decode cX4_worth 102 = .ok (.iload_n 3, 1) := by decide +kernel
theorem dX4_worth_103 : decode cX4_worth 103 = .ok (.iconst 1, 1) := by decide +kernel
theorem dX4_worth_104 : decode cX4_worth 104 = .ok (.if_icmp .lt 16, 3) := by decide +kernel
theorem dX4_worth_107 : decode cX4_worth 107 = .ok (.iload_n 3, 1) := by decide +kernel
theorem dX4_worth_108 : decode cX4_worth 108 = .ok (.iconst 2, 1) := by decide +kernel
theorem dX4_worth_109 : decode cX4_worth 109 = .ok (.if_icmp .ge 15, 3) := by decide +kernel
theorem dX4_worth_112 : decode cX4_worth 112 = .ok (.iload 5, 2) := by decide +kernel
theorem dX4_worth_114 : decode cX4_worth 114 = .ok (.invokestatic 60, 3) := by decide +kernel
theorem dX4_worth_117 : decode cX4_worth 117 = .ok (.ifCond .eq 7, 3) := by decide +kernel
theorem dX4_worth_120 : decode cX4_worth 120 = .ok (.ldc2_w 64, 3) := by decide +kernel
theorem dX4_worth_123 : decode cX4_worth 123 = .ok (.lreturn, 1) := by decide +kernel
theorem dX4_worth_124 : decode cX4_worth 124 = .ok (.iload 5, 2) := by decide +kernel
theorem dX4_worth_126 : decode cX4_worth 126 = .ok (.bipush 10, 2) := by decide +kernel
theorem dX4_worth_128 : decode cX4_worth 128 = .ok (.if_icmp .ne 32, 3) := by decide +kernel
theorem dX4_worth_131 : decode cX4_worth 131 = .ok (.aload_n 0, 1) := by decide +kernel
theorem dX4_worth_132 : decode cX4_worth 132 = .ok (.getfield 26, 3) := by decide +kernel
theorem dX4_worth_135 : decode cX4_worth 135 = .ok (.iload_n 3, 1) := by decide +kernel
theorem dX4_worth_136 : decode cX4_worth 136 = .ok (.iconst 1, 1) := by decide +kernel
theorem dX4_worth_137 : decode cX4_worth 137 = .ok (.isub, 1) := by decide +kernel
theorem dX4_worth_138 : decode cX4_worth 138 = .ok (.aload_n 0, 1) := by decide +kernel
theorem dX4_worth_139 : decode cX4_worth 139 = .ok (.getfield 26, 3) := by decide +kernel
theorem dX4_worth_142 : decode cX4_worth 142 = .ok (.iload_n 3, 1) := by decide +kernel
theorem dX4_worth_143 : decode cX4_worth 143 = .ok (.iconst 1, 1) := by decide +kernel
theorem dX4_worth_144 : decode cX4_worth 144 = .ok (.isub, 1) := by decide +kernel
theorem dX4_worth_145 : decode cX4_worth 145 = .ok (.laload, 1) := by decide +kernel
theorem dX4_worth_146 : decode cX4_worth 146 = .ok (.lconst 0, 1) := by decide +kernel
theorem dX4_worth_147 : decode cX4_worth 147 = .ok (.lcmp, 1) := by decide +kernel
theorem dX4_worth_148 : decode cX4_worth 148 = .ok (.ifCond .ne 7, 3) := by decide +kernel
theorem dX4_worth_151 : decode cX4_worth 151 = .ok (.lconst 1, 1) := by decide +kernel
theorem dX4_worth_152 : decode cX4_worth 152 = .ok (.goto 4, 3) := by decide +kernel
theorem dX4_worth_155 : decode cX4_worth 155 = .ok (.lconst 0, 1) := by decide +kernel
theorem dX4_worth_156 : decode cX4_worth 156 = .ok (.lastore, 1) := by decide +kernel
theorem dX4_worth_157 : decode cX4_worth 157 = .ok (.goto 86, 3) := by decide +kernel
theorem dX4_worth_160 : decode cX4_worth 160 = .ok (.iload 5, 2) := by decide +kernel
theorem dX4_worth_162 : decode cX4_worth 162 = .ok (.bipush 22, 2) := by decide +kernel
theorem dX4_worth_164 : decode cX4_worth 164 = .ok (.if_icmp .ne 23, 3) := by decide +kernel
theorem dX4_worth_167 : decode cX4_worth 167 = .ok (.aload_n 0, 1) := by decide +kernel
theorem dX4_worth_168 : decode cX4_worth 168 = .ok (.getfield 26, 3) := by decide +kernel
theorem dX4_worth_171 : decode cX4_worth 171 = .ok (.iload_n 3, 1) := by decide +kernel
theorem dX4_worth_172 : decode cX4_worth 172 = .ok (.iconst 1, 1) := by decide +kernel
theorem dX4_worth_173 : decode cX4_worth 173 = .ok (.isub, 1) := by decide +kernel
theorem dX4_worth_174 : decode cX4_worth 174 = .ok (.aload_n 0, 1) := by decide +kernel
theorem dX4_worth_175 : decode cX4_worth 175 = .ok (.getfield 26, 3) := by decide +kernel
theorem dX4_worth_178 : decode cX4_worth 178 = .ok (.iload_n 3, 1) := by decide +kernel
theorem dX4_worth_179 : decode cX4_worth 179 = .ok (.iconst 1, 1) := by decide +kernel
theorem dX4_worth_180 : decode cX4_worth 180 = .ok (.isub, 1) := by decide +kernel
theorem dX4_worth_181 : decode cX4_worth 181 = .ok (.laload, 1) := by decide +kernel
theorem dX4_worth_182 : decode cX4_worth 182 = .ok (.lneg, 1) := by decide +kernel
theorem dX4_worth_183 : decode cX4_worth 183 = .ok (.lastore, 1) := by decide +kernel
theorem dX4_worth_184 : decode cX4_worth 184 = .ok (.goto 59, 3) := by decide +kernel
theorem dX4_worth_187 : decode cX4_worth 187 = .ok (.iinc 3 (-1), 3) := by decide +kernel
theorem dX4_worth_190 : decode cX4_worth 190 = .ok (.iload 5, 2) := by decide +kernel
theorem dX4_worth_192 : decode cX4_worth 192 = .ok (.aload_n 0, 1) := by decide +kernel
theorem dX4_worth_193 : decode cX4_worth 193 = .ok (.getfield 26, 3) := by decide +kernel
theorem dX4_worth_196 : decode cX4_worth 196 = .ok (.iload_n 3, 1) := by decide +kernel
theorem dX4_worth_197 : decode cX4_worth 197 = .ok (.iconst 1, 1) := by decide +kernel
theorem dX4_worth_198 : decode cX4_worth 198 = .ok (.isub, 1) := by decide +kernel
theorem dX4_worth_199 : decode cX4_worth 199 = .ok (.laload, 1) := by decide +kernel
theorem dX4_worth_200 : decode cX4_worth 200 = .ok (.aload_n 0, 1) := by decide +kernel
theorem dX4_worth_201 : decode cX4_worth 201 = .ok (.getfield 26, 3) := by decide +kernel
theorem dX4_worth_204 : decode cX4_worth 204 = .ok (.iload_n 3, 1) := by decide +kernel
theorem dX4_worth_205 : decode cX4_worth 205 = .ok (.laload, 1) := by decide +kernel
theorem dX4_worth_206 : decode cX4_worth 206 = .ok (.invokestatic 66, 3) := by decide +kernel
theorem dX4_worth_209 : decode cX4_worth 209 = .ok (.lstore 6, 2) := by decide +kernel
theorem dX4_worth_211 : decode cX4_worth 211 = .ok (.lload 6, 2) := by decide +kernel
theorem dX4_worth_213 : decode cX4_worth 213 = .ok (.ldc2_w 70, 3) := by decide +kernel
theorem dX4_worth_216 : decode cX4_worth 216 = .ok (.lcmp, 1) := by decide +kernel
theorem dX4_worth_217 : decode cX4_worth 217 = .ok (.ifCond .gt 12, 3) := by decide +kernel
theorem dX4_worth_220 : decode cX4_worth 220 = .ok (.lload 6, 2) := by decide +kernel
theorem dX4_worth_222 : decode cX4_worth 222 = .ok (.ldc2_w 72, 3) := by decide +kernel
theorem dX4_worth_225 : decode cX4_worth 225 = .ok (.lcmp, 1) := by decide +kernel
theorem dX4_worth_226 : decode cX4_worth 226 = .ok (.ifCond .ge 7, 3) := by decide +kernel
theorem dX4_worth_229 : decode cX4_worth 229 = .ok (.ldc2_w 64, 3) := by decide +kernel
theorem dX4_worth_232 : decode cX4_worth 232 = .ok (.lreturn, 1) := by decide +kernel
theorem dX4_worth_233 : decode cX4_worth 233 = .ok (.aload_n 0, 1) := by decide +kernel
theorem dX4_worth_234 : decode cX4_worth 234 = .ok (.getfield 26, 3) := by decide +kernel
theorem dX4_worth_237 : decode cX4_worth 237 = .ok (.iload_n 3, 1) := by decide +kernel
theorem dX4_worth_238 : decode cX4_worth 238 = .ok (.iconst 1, 1) := by decide +kernel
theorem dX4_worth_239 : decode cX4_worth 239 = .ok (.isub, 1) := by decide +kernel
theorem dX4_worth_240 : decode cX4_worth 240 = .ok (.lload 6, 2) := by decide +kernel
theorem dX4_worth_242 : decode cX4_worth 242 = .ok (.lastore, 1) := by decide +kernel
theorem dX4_worth_243 : decode cX4_worth 243 = .ok (.iinc 4 1, 3) := by decide +kernel
theorem dX4_worth_246 : decode cX4_worth 246 = .ok (.goto (-214), 3) := by decide +kernel
theorem dX4_worth_249 : decode cX4_worth 249 = .ok (.aload_n 0, 1) := by decide +kernel
theorem dX4_worth_250 : decode cX4_worth 250 = .ok (.getfield 26, 3) := by decide +kernel
theorem dX4_worth_253 : decode cX4_worth 253 = .ok (.iconst 0, 1) := by decide +kernel
theorem dX4_worth_254 : decode cX4_worth 254 = .ok (.laload, 1) := by decide +kernel
theorem dX4_worth_255 : decode cX4_worth 255 = .ok (.lreturn, 1) := by decide +kernel
theorem dX4_joined_0 : decode cX4_joined 0 = .ok (.iload_n 0, 1) := by decide +kernel
theorem dX4_joined_1 : decode cX4_joined 1 = .ok (.tableswitch 225 8 21 #[71, 89, 225, 107, 119, 131, 143, 155, 167, 179, 183, 187, 193, 209], 71) := by decide +kernel
theorem dX4_joined_72 : decode cX4_joined 72 = .ok (.lload_n 1, 1) := by decide +kernel
theorem dX4_joined_73 : decode cX4_joined 73 = .ok (.lconst 0, 1) := by decide +kernel
theorem dX4_joined_74 : decode cX4_joined 74 = .ok (.lcmp, 1) := by decide +kernel
theorem dX4_joined_75 : decode cX4_joined 75 = .ok (.ifCond .ne 9, 3) := by decide +kernel
theorem dX4_joined_78 : decode cX4_joined 78 = .ok (.lload_n 3, 1) := by decide +kernel
theorem dX4_joined_79 : decode cX4_joined 79 = .ok (.lconst 0, 1) := by decide +kernel
theorem dX4_joined_80 : decode cX4_joined 80 = .ok (.lcmp, 1) := by decide +kernel
theorem dX4_joined_81 : decode cX4_joined 81 = .ok (.ifCond .eq 7, 3) := by decide +kernel
theorem dX4_joined_84 : decode cX4_joined 84 = .ok (.lconst 1, 1) := by decide +kernel
theorem dX4_joined_85 : decode cX4_joined 85 = .ok (.goto 4, 3) := by decide +kernel
theorem dX4_joined_88 : decode cX4_joined 88 = .ok (.lconst 0, 1) := by decide +kernel
theorem dX4_joined_89 : decode cX4_joined 89 = .ok (.lreturn, 1) := by decide +kernel
theorem dX4_joined_90 : decode cX4_joined 90 = .ok (.lload_n 1, 1) := by decide +kernel
theorem dX4_joined_91 : decode cX4_joined 91 = .ok (.lconst 0, 1) := by decide +kernel
theorem dX4_joined_92 : decode cX4_joined 92 = .ok (.lcmp, 1) := by decide +kernel
theorem dX4_joined_93 : decode cX4_joined 93 = .ok (.ifCond .eq 13, 3) := by decide +kernel
theorem dX4_joined_96 : decode cX4_joined 96 = .ok (.lload_n 3, 1) := by decide +kernel
theorem dX4_joined_97 : decode cX4_joined 97 = .ok (.lconst 0, 1) := by decide +kernel
theorem dX4_joined_98 : decode cX4_joined 98 = .ok (.lcmp, 1) := by decide +kernel
theorem dX4_joined_99 : decode cX4_joined 99 = .ok (.ifCond .eq 7, 3) := by decide +kernel
theorem dX4_joined_102 : decode cX4_joined 102 = .ok (.lconst 1, 1) := by decide +kernel
theorem dX4_joined_103 : decode cX4_joined 103 = .ok (.goto 4, 3) := by decide +kernel
theorem dX4_joined_106 : decode cX4_joined 106 = .ok (.lconst 0, 1) := by decide +kernel
theorem dX4_joined_107 : decode cX4_joined 107 = .ok (.lreturn, 1) := by decide +kernel
theorem dX4_joined_108 : decode cX4_joined 108 = .ok (.lload_n 1, 1) := by decide +kernel
theorem dX4_joined_109 : decode cX4_joined 109 = .ok (.lload_n 3, 1) := by decide +kernel
theorem dX4_joined_110 : decode cX4_joined 110 = .ok (.lcmp, 1) := by decide +kernel
theorem dX4_joined_111 : decode cX4_joined 111 = .ok (.ifCond .ge 7, 3) := by decide +kernel
theorem dX4_joined_114 : decode cX4_joined 114 = .ok (.lconst 1, 1) := by decide +kernel
theorem dX4_joined_115 : decode cX4_joined 115 = .ok (.goto 4, 3) := by decide +kernel
theorem dX4_joined_118 : decode cX4_joined 118 = .ok (.lconst 0, 1) := by decide +kernel
theorem dX4_joined_119 : decode cX4_joined 119 = .ok (.lreturn, 1) := by decide +kernel
theorem dX4_joined_120 : decode cX4_joined 120 = .ok (.lload_n 1, 1) := by decide +kernel
theorem dX4_joined_121 : decode cX4_joined 121 = .ok (.lload_n 3, 1) := by decide +kernel
theorem dX4_joined_122 : decode cX4_joined 122 = .ok (.lcmp, 1) := by decide +kernel
theorem dX4_joined_123 : decode cX4_joined 123 = .ok (.ifCond .gt 7, 3) := by decide +kernel
theorem dX4_joined_126 : decode cX4_joined 126 = .ok (.lconst 1, 1) := by decide +kernel
theorem dX4_joined_127 : decode cX4_joined 127 = .ok (.goto 4, 3) := by decide +kernel
theorem dX4_joined_130 : decode cX4_joined 130 = .ok (.lconst 0, 1) := by decide +kernel
theorem dX4_joined_131 : decode cX4_joined 131 = .ok (.lreturn, 1) := by decide +kernel
theorem dX4_joined_132 : decode cX4_joined 132 = .ok (.lload_n 1, 1) := by decide +kernel
theorem dX4_joined_133 : decode cX4_joined 133 = .ok (.lload_n 3, 1) := by decide +kernel
theorem dX4_joined_134 : decode cX4_joined 134 = .ok (.lcmp, 1) := by decide +kernel
theorem dX4_joined_135 : decode cX4_joined 135 = .ok (.ifCond .ne 7, 3) := by decide +kernel
theorem dX4_joined_138 : decode cX4_joined 138 = .ok (.lconst 1, 1) := by decide +kernel
theorem dX4_joined_139 : decode cX4_joined 139 = .ok (.goto 4, 3) := by decide +kernel
theorem dX4_joined_142 : decode cX4_joined 142 = .ok (.lconst 0, 1) := by decide +kernel
theorem dX4_joined_143 : decode cX4_joined 143 = .ok (.lreturn, 1) := by decide +kernel
theorem dX4_joined_144 : decode cX4_joined 144 = .ok (.lload_n 1, 1) := by decide +kernel
theorem dX4_joined_145 : decode cX4_joined 145 = .ok (.lload_n 3, 1) := by decide +kernel
theorem dX4_joined_146 : decode cX4_joined 146 = .ok (.lcmp, 1) := by decide +kernel
theorem dX4_joined_147 : decode cX4_joined 147 = .ok (.ifCond .eq 7, 3) := by decide +kernel
theorem dX4_joined_150 : decode cX4_joined 150 = .ok (.lconst 1, 1) := by decide +kernel
theorem dX4_joined_151 : decode cX4_joined 151 = .ok (.goto 4, 3) := by decide +kernel
theorem dX4_joined_154 : decode cX4_joined 154 = .ok (.lconst 0, 1) := by decide +kernel
theorem dX4_joined_155 : decode cX4_joined 155 = .ok (.lreturn, 1) := by decide +kernel
theorem dX4_joined_156 : decode cX4_joined 156 = .ok (.lload_n 1, 1) := by decide +kernel
theorem dX4_joined_157 : decode cX4_joined 157 = .ok (.lload_n 3, 1) := by decide +kernel
theorem dX4_joined_158 : decode cX4_joined 158 = .ok (.lcmp, 1) := by decide +kernel
theorem dX4_joined_159 : decode cX4_joined 159 = .ok (.ifCond .lt 7, 3) := by decide +kernel
theorem dX4_joined_162 : decode cX4_joined 162 = .ok (.lconst 1, 1) := by decide +kernel
theorem dX4_joined_163 : decode cX4_joined 163 = .ok (.goto 4, 3) := by decide +kernel
theorem dX4_joined_166 : decode cX4_joined 166 = .ok (.lconst 0, 1) := by decide +kernel
theorem dX4_joined_167 : decode cX4_joined 167 = .ok (.lreturn, 1) := by decide +kernel
theorem dX4_joined_168 : decode cX4_joined 168 = .ok (.lload_n 1, 1) := by decide +kernel
theorem dX4_joined_169 : decode cX4_joined 169 = .ok (.lload_n 3, 1) := by decide +kernel
theorem dX4_joined_170 : decode cX4_joined 170 = .ok (.lcmp, 1) := by decide +kernel
theorem dX4_joined_171 : decode cX4_joined 171 = .ok (.ifCond .le 7, 3) := by decide +kernel
theorem dX4_joined_174 : decode cX4_joined 174 = .ok (.lconst 1, 1) := by decide +kernel
theorem dX4_joined_175 : decode cX4_joined 175 = .ok (.goto 4, 3) := by decide +kernel
theorem dX4_joined_178 : decode cX4_joined 178 = .ok (.lconst 0, 1) := by decide +kernel
theorem dX4_joined_179 : decode cX4_joined 179 = .ok (.lreturn, 1) := by decide +kernel
theorem dX4_joined_180 : decode cX4_joined 180 = .ok (.lload_n 1, 1) := by decide +kernel
theorem dX4_joined_181 : decode cX4_joined 181 = .ok (.lload_n 3, 1) := by decide +kernel
theorem dX4_joined_182 : decode cX4_joined 182 = .ok (.ladd, 1) := by decide +kernel
theorem dX4_joined_183 : decode cX4_joined 183 = .ok (.lreturn, 1) := by decide +kernel
theorem dX4_joined_184 : decode cX4_joined 184 = .ok (.lload_n 1, 1) := by decide +kernel
theorem dX4_joined_185 : decode cX4_joined 185 = .ok (.lload_n 3, 1) := by decide +kernel
theorem dX4_joined_186 : decode cX4_joined 186 = .ok (.lsub, 1) := by decide +kernel
theorem dX4_joined_187 : decode cX4_joined 187 = .ok (.lreturn, 1) := by decide +kernel
theorem dX4_joined_188 : decode cX4_joined 188 = .ok (.lload_n 1, 1) := by decide +kernel
theorem dX4_joined_189 : decode cX4_joined 189 = .ok (.lload_n 3, 1) := by decide +kernel
theorem dX4_joined_190 : decode cX4_joined 190 = .ok (.invokestatic 74, 3) := by decide +kernel
theorem dX4_joined_193 : decode cX4_joined 193 = .ok (.lreturn, 1) := by decide +kernel
theorem dX4_joined_194 : decode cX4_joined 194 = .ok (.lload_n 3, 1) := by decide +kernel
theorem dX4_joined_195 : decode cX4_joined 195 = .ok (.lconst 0, 1) := by decide +kernel
theorem dX4_joined_196 : decode cX4_joined 196 = .ok (.lcmp, 1) := by decide +kernel
theorem dX4_joined_197 : decode cX4_joined 197 = .ok (.ifCond .ne 9, 3) := by decide +kernel
theorem dX4_joined_200 : decode cX4_joined 200 = .ok (.ldc2_w 64, 3) := by decide +kernel
theorem dX4_joined_203 : decode cX4_joined 203 = .ok (.goto 6, 3) := by decide +kernel
theorem dX4_joined_206 : decode cX4_joined 206 = .ok (.lload_n 1, 1) := by decide +kernel
theorem dX4_joined_207 : decode cX4_joined 207 = .ok (.lload_n 3, 1) := by decide +kernel
theorem dX4_joined_208 : decode cX4_joined 208 = .ok (.ldiv, 1) := by decide +kernel
theorem dX4_joined_209 : decode cX4_joined 209 = .ok (.lreturn, 1) := by decide +kernel
theorem dX4_joined_210 : decode cX4_joined 210 = .ok (.lload_n 3, 1) := by decide +kernel
theorem dX4_joined_211 : decode cX4_joined 211 = .ok (.lconst 0, 1) := by decide +kernel
theorem dX4_joined_212 : decode cX4_joined 212 = .ok (.lcmp, 1) := by decide +kernel
theorem dX4_joined_213 : decode cX4_joined 213 = .ok (.ifCond .ne 9, 3) := by decide +kernel
theorem dX4_joined_216 : decode cX4_joined 216 = .ok (.ldc2_w 64, 3) := by decide +kernel
theorem dX4_joined_219 : decode cX4_joined 219 = .ok (.goto 6, 3) := by decide +kernel
theorem dX4_joined_222 : decode cX4_joined 222 = .ok (.lload_n 1, 1) := by decide +kernel
theorem dX4_joined_223 : decode cX4_joined 223 = .ok (.lload_n 3, 1) := by decide +kernel
theorem dX4_joined_224 : decode cX4_joined 224 = .ok (.lrem, 1) := by decide +kernel
theorem dX4_joined_225 : decode cX4_joined 225 = .ok (.lreturn, 1) := by decide +kernel
theorem dX4_joined_226 : decode cX4_joined 226 = .ok (.ldc2_w 64, 3) := by decide +kernel
theorem dX4_joined_229 : decode cX4_joined 229 = .ok (.lreturn, 1) := by decide +kernel
theorem dX4_product_0 : decode cX4_product 0 = .ok (.lload_n 0, 1) := by decide +kernel
theorem dX4_product_1 : decode cX4_product 1 = .ok (.lconst 0, 1) := by decide +kernel
theorem dX4_product_2 : decode cX4_product 2 = .ok (.lcmp, 1) := by decide +kernel
theorem dX4_product_3 : decode cX4_product 3 = .ok (.ifCond .ge 8, 3) := by decide +kernel
theorem dX4_product_6 : decode cX4_product 6 = .ok (.lload_n 0, 1) := by decide +kernel
theorem dX4_product_7 : decode cX4_product 7 = .ok (.lneg, 1) := by decide +kernel
theorem dX4_product_8 : decode cX4_product 8 = .ok (.goto 4, 3) := by decide +kernel
theorem dX4_product_11 : decode cX4_product 11 = .ok (.lload_n 0, 1) := by decide +kernel
theorem dX4_product_12 : decode cX4_product 12 = .ok (.lstore 4, 2) := by decide +kernel
theorem dX4_product_14 : decode cX4_product 14 = .ok (.lload_n 2, 1) := by decide +kernel
theorem dX4_product_15 : decode cX4_product 15 = .ok (.lconst 0, 1) := by decide +kernel
theorem dX4_product_16 : decode cX4_product 16 = .ok (.lcmp, 1) := by decide +kernel
theorem dX4_product_17 : decode cX4_product 17 = .ok (.ifCond .ge 8, 3) := by decide +kernel
theorem dX4_product_20 : decode cX4_product 20 = .ok (.lload_n 2, 1) := by decide +kernel
theorem dX4_product_21 : decode cX4_product 21 = .ok (.lneg, 1) := by decide +kernel
theorem dX4_product_22 : decode cX4_product 22 = .ok (.goto 4, 3) := by decide +kernel
theorem dX4_product_25 : decode cX4_product 25 = .ok (.lload_n 2, 1) := by decide +kernel
theorem dX4_product_26 : decode cX4_product 26 = .ok (.lstore 6, 2) := by decide +kernel
theorem dX4_product_28 : decode cX4_product 28 = .ok (.lload 6, 2) := by decide +kernel
theorem dX4_product_30 : decode cX4_product 30 = .ok (.lconst 0, 1) := by decide +kernel
theorem dX4_product_31 : decode cX4_product 31 = .ok (.lcmp, 1) := by decide +kernel
theorem dX4_product_32 : decode cX4_product 32 = .ok (.ifCond .ne 5, 3) := by decide +kernel
theorem dX4_product_35 : decode cX4_product 35 = .ok (.lconst 0, 1) := by decide +kernel
theorem dX4_product_36 : decode cX4_product 36 = .ok (.lreturn, 1) := by decide +kernel
theorem dX4_product_37 : decode cX4_product 37 = .ok (.lload 4, 2) := by decide +kernel
theorem dX4_product_39 : decode cX4_product 39 = .ok (.ldc2_w 70, 3) := by decide +kernel
theorem dX4_product_42 : decode cX4_product 42 = .ok (.lload 6, 2) := by decide +kernel
theorem dX4_product_44 : decode cX4_product 44 = .ok (.ldiv, 1) := by decide +kernel
theorem dX4_product_45 : decode cX4_product 45 = .ok (.lcmp, 1) := by decide +kernel
theorem dX4_product_46 : decode cX4_product 46 = .ok (.ifCond .le 9, 3) := by decide +kernel
theorem dX4_product_49 : decode cX4_product 49 = .ok (.ldc2_w 64, 3) := by decide +kernel
theorem dX4_product_52 : decode cX4_product 52 = .ok (.goto 6, 3) := by decide +kernel
theorem dX4_product_55 : decode cX4_product 55 = .ok (.lload_n 0, 1) := by decide +kernel
theorem dX4_product_56 : decode cX4_product 56 = .ok (.lload_n 2, 1) := by decide +kernel
theorem dX4_product_57 : decode cX4_product 57 = .ok (.lmul, 1) := by decide +kernel
theorem dX4_product_58 : decode cX4_product 58 = .ok (.lreturn, 1) := by decide +kernel
theorem dX5_init_0 : decode cX5_init 0 = .ok (.aload_n 0, 1) := by decide +kernel
theorem dX5_init_1 : decode cX5_init 1 = .ok (.invokespecial 3, 3) := by decide +kernel
theorem dX5_init_4 : decode cX5_init 4 = .ok (.aload_n 0, 1) := by decide +kernel
theorem dX5_init_5 : decode cX5_init 5 = .ok (.bipush 40, 2) := by decide +kernel
theorem dX5_init_7 : decode cX5_init 7 = .ok (.newarray .int, 2) := by decide +kernel
theorem dX5_init_9 : decode cX5_init 9 = .ok (.putfield 9, 3) := by decide +kernel
theorem dX5_init_12 : decode cX5_init 12 = .ok (.aload_n 0, 1) := by decide +kernel
theorem dX5_init_13 : decode cX5_init 13 = .ok (.bipush 40, 2) := by decide +kernel
theorem dX5_init_15 : decode cX5_init 15 = .ok (.newarray .int, 2) := by decide +kernel
theorem dX5_init_17 : decode cX5_init 17 = .ok (.putfield 15, 3) := by decide +kernel
theorem dX5_init_20 : decode cX5_init 20 = .ok (.aload_n 0, 1) := by decide +kernel
theorem dX5_init_21 : decode cX5_init 21 = .ok (.bipush 40, 2) := by decide +kernel
theorem dX5_init_23 : decode cX5_init 23 = .ok (.newarray .int, 2) := by decide +kernel
theorem dX5_init_25 : decode cX5_init 25 = .ok (.putfield 18, 3) := by decide +kernel
theorem dX5_init_28 : decode cX5_init 28 = .ok (.aload_n 0, 1) := by decide +kernel
theorem dX5_init_29 : decode cX5_init 29 = .ok (.bipush 40, 2) := by decide +kernel
theorem dX5_init_31 : decode cX5_init 31 = .ok (.newarray .int, 2) := by decide +kernel
theorem dX5_init_33 : decode cX5_init 33 = .ok (.putfield 21, 3) := by decide +kernel
theorem dX5_init_36 : decode cX5_init 36 = .ok (.aload_n 0, 1) := by decide +kernel
theorem dX5_init_37 : decode cX5_init 37 = .ok (.bipush 32, 2) := by decide +kernel
theorem dX5_init_39 : decode cX5_init 39 = .ok (.newarray .int, 2) := by decide +kernel
theorem dX5_init_41 : decode cX5_init 41 = .ok (.putfield 24, 3) := by decide +kernel
theorem dX5_init_44 : decode cX5_init 44 = .ok (.return_, 1) := by decide +kernel
theorem dX5_addReport_0 : decode cX5_addReport 0 = .ok (.aload_n 0, 1) := by decide +kernel
theorem dX5_addReport_1 : decode cX5_addReport 1 = .ok (.getfield 9, 3) := by decide +kernel
theorem dX5_addReport_4 : decode cX5_addReport 4 = .ok (.aload_n 0, 1) := by decide +kernel
theorem dX5_addReport_5 : decode cX5_addReport 5 = .ok (.getfield 27, 3) := by decide +kernel
theorem dX5_addReport_8 : decode cX5_addReport 8 = .ok (.iload_n 1, 1) := by decide +kernel
theorem dX5_addReport_9 : decode cX5_addReport 9 = .ok (.iastore, 1) := by decide +kernel
theorem dX5_addReport_10 : decode cX5_addReport 10 = .ok (.aload_n 0, 1) := by decide +kernel
theorem dX5_addReport_11 : decode cX5_addReport 11 = .ok (.getfield 15, 3) := by decide +kernel
theorem dX5_addReport_14 : decode cX5_addReport 14 = .ok (.aload_n 0, 1) := by decide +kernel
theorem dX5_addReport_15 : decode cX5_addReport 15 = .ok (.getfield 27, 3) := by decide +kernel
theorem dX5_addReport_18 : decode cX5_addReport 18 = .ok (.iload_n 2, 1) := by decide +kernel
theorem dX5_addReport_19 : decode cX5_addReport 19 = .ok (.iastore, 1) := by decide +kernel
theorem dX5_addReport_20 : decode cX5_addReport 20 = .ok (.aload_n 0, 1) := by decide +kernel
theorem dX5_addReport_21 : decode cX5_addReport 21 = .ok (.getfield 18, 3) := by decide +kernel
theorem dX5_addReport_24 : decode cX5_addReport 24 = .ok (.aload_n 0, 1) := by decide +kernel
theorem dX5_addReport_25 : decode cX5_addReport 25 = .ok (.getfield 27, 3) := by decide +kernel
theorem dX5_addReport_28 : decode cX5_addReport 28 = .ok (.iload_n 3, 1) := by decide +kernel
theorem dX5_addReport_29 : decode cX5_addReport 29 = .ok (.iastore, 1) := by decide +kernel
theorem dX5_addReport_30 : decode cX5_addReport 30 = .ok (.aload_n 0, 1) := by decide +kernel
theorem dX5_addReport_31 : decode cX5_addReport 31 = .ok (.getfield 21, 3) := by decide +kernel
theorem dX5_addReport_34 : decode cX5_addReport 34 = .ok (.aload_n 0, 1) := by decide +kernel
theorem dX5_addReport_35 : decode cX5_addReport 35 = .ok (.getfield 27, 3) := by decide +kernel
theorem dX5_addReport_38 : decode cX5_addReport 38 = .ok (.iconst (-1), 1) := by decide +kernel
theorem dX5_addReport_39 : decode cX5_addReport 39 = .ok (.iastore, 1) := by decide +kernel
theorem dX5_addReport_40 : decode cX5_addReport 40 = .ok (.aload_n 0, 1) := by decide +kernel
theorem dX5_addReport_41 : decode cX5_addReport 41 = .ok (.dup, 1) := by decide +kernel
theorem dX5_addReport_42 : decode cX5_addReport 42 = .ok (.getfield 27, 3) := by decide +kernel
theorem dX5_addReport_45 : decode cX5_addReport 45 = .ok (.iconst 1, 1) := by decide +kernel
theorem dX5_addReport_46 : decode cX5_addReport 46 = .ok (.iadd, 1) := by decide +kernel
theorem dX5_addReport_47 : decode cX5_addReport 47 = .ok (.putfield 27, 3) := by decide +kernel
theorem dX5_addReport_50 : decode cX5_addReport 50 = .ok (.aload_n 0, 1) := by decide +kernel
theorem dX5_addReport_51 : decode cX5_addReport 51 = .ok (.getfield 27, 3) := by decide +kernel
theorem dX5_addReport_54 : decode cX5_addReport 54 = .ok (.iconst 1, 1) := by decide +kernel
theorem dX5_addReport_55 : decode cX5_addReport 55 = .ok (.isub, 1) := by decide +kernel
theorem dX5_addReport_56 : decode cX5_addReport 56 = .ok (.ireturn, 1) := by decide +kernel
theorem dX5_addStrike_0 : decode cX5_addStrike 0 = .ok (.aload_n 0, 1) := by decide +kernel
theorem dX5_addStrike_1 : decode cX5_addStrike 1 = .ok (.getfield 21, 3) := by decide +kernel
theorem dX5_addStrike_4 : decode cX5_addStrike 4 = .ok (.aload_n 0, 1) := by decide +kernel
theorem dX5_addStrike_5 : decode cX5_addStrike 5 = .ok (.getfield 27, 3) := by decide +kernel
theorem dX5_addStrike_8 : decode cX5_addStrike 8 = .ok (.iload_n 1, 1) := by decide +kernel
theorem dX5_addStrike_9 : decode cX5_addStrike 9 = .ok (.iastore, 1) := by decide +kernel
theorem dX5_addStrike_10 : decode cX5_addStrike 10 = .ok (.aload_n 0, 1) := by decide +kernel
theorem dX5_addStrike_11 : decode cX5_addStrike 11 = .ok (.dup, 1) := by decide +kernel
theorem dX5_addStrike_12 : decode cX5_addStrike 12 = .ok (.getfield 27, 3) := by decide +kernel
theorem dX5_addStrike_15 : decode cX5_addStrike 15 = .ok (.iconst 1, 1) := by decide +kernel
theorem dX5_addStrike_16 : decode cX5_addStrike 16 = .ok (.iadd, 1) := by decide +kernel
theorem dX5_addStrike_17 : decode cX5_addStrike 17 = .ok (.putfield 27, 3) := by decide +kernel
theorem dX5_addStrike_20 : decode cX5_addStrike 20 = .ok (.aload_n 0, 1) := by decide +kernel
theorem dX5_addStrike_21 : decode cX5_addStrike 21 = .ok (.getfield 27, 3) := by decide +kernel
theorem dX5_addStrike_24 : decode cX5_addStrike 24 = .ok (.iconst 1, 1) := by decide +kernel
theorem dX5_addStrike_25 : decode cX5_addStrike 25 = .ok (.isub, 1) := by decide +kernel
theorem dX5_addStrike_26 : decode cX5_addStrike 26 = .ok (.ireturn, 1) := by decide +kernel
theorem dX5_settle_0 : decode cX5_settle 0 = .ok (.aload_n 0, 1) := by decide +kernel
theorem dX5_settle_1 : decode cX5_settle 1 = .ok (.getfield 24, 3) := by decide +kernel
theorem dX5_settle_4 : decode cX5_settle 4 = .ok (.iconst (-1), 1) := by decide +kernel
theorem dX5_settle_5 : decode cX5_settle 5 = .ok (.invokestatic 31, 3) := by decide +kernel
theorem dX5_settle_8 : decode cX5_settle 8 = .ok (.lconst 0, 1) := by decide +kernel
theorem dX5_settle_9 : decode cX5_settle 9 = .ok (.lstore_n 2, 1) := by decide +kernel
theorem dX5_settle_10 : decode cX5_settle 10 = .ok (.iload_n 1, 1) := by decide +kernel
theorem dX5_settle_11 : decode cX5_settle 11 = .ok (.iconst 1, 1) := by decide +kernel
theorem dX5_settle_12 : decode cX5_settle 12 = .ok (.isub, 1) := by decide +kernel
theorem dX5_settle_13 : decode cX5_settle 13 = .ok (.istore 4, 2) := by decide +kernel
theorem dX5_settle_15 : decode cX5_settle 15 = .ok (.iload 4, 2) := by decide +kernel
theorem dX5_settle_17 : decode cX5_settle 17 = .ok (.ifCond .lt 101, 3) := by decide +kernel
theorem dX5_settle_20 : decode cX5_settle 20 = .ok (.lload_n 2, 1) := by decide +kernel
theorem dX5_settle_21 : decode cX5_settle 21 = .ok (.iload 4, 2) := by decide +kernel
theorem dX5_settle_23 : decode cX5_settle 23 = .ok (.lshr, 1) := by decide +kernel
theorem dX5_settle_24 : decode cX5_settle 24 = .ok (.lconst 1, 1) := by decide +kernel
theorem dX5_settle_25 : decode cX5_settle 25 = .ok (.land, 1) := by decide +kernel
theorem dX5_settle_26 : decode cX5_settle 26 = .ok (.lconst 0, 1) := by decide +kernel
theorem dX5_settle_27 : decode cX5_settle 27 = .ok (.lcmp, 1) := by decide +kernel
theorem dX5_settle_28 : decode cX5_settle 28 = .ok (.ifCond .ne 84, 3) := by decide +kernel
theorem dX5_settle_31 : decode cX5_settle 31 = .ok (.aload_n 0, 1) := by decide +kernel
theorem dX5_settle_32 : decode cX5_settle 32 = .ok (.getfield 21, 3) := by decide +kernel
theorem dX5_settle_35 : decode cX5_settle 35 = .ok (.iload 4, 2) := by decide +kernel
theorem dX5_settle_37 : decode cX5_settle 37 = .ok (.iaload, 1) := by decide +kernel
theorem dX5_settle_38 : decode cX5_settle 38 = .ok (.iconst (-1), 1) := by decide +kernel
theorem dX5_settle_39 : decode cX5_settle 39 = .ok (.if_icmp .eq 18, 3) := by decide +kernel
theorem dX5_settle_42 : decode cX5_settle 42 = .ok (.lload_n 2, 1) := by decide +kernel
theorem dX5_settle_43 : decode cX5_settle 43 = .ok (.lconst 1, 1) := by decide +kernel
theorem dX5_settle_44 : decode cX5_settle 44 = .ok (.aload_n 0, 1) := by decide +kernel
theorem dX5_settle_45 : decode cX5_settle 45 = .ok (.getfield 21, 3) := by decide +kernel
theorem dX5_settle_48 : decode cX5_settle 48 = .ok (.iload 4, 2) := by decide +kernel
theorem dX5_settle_50 : decode cX5_settle 50 = .ok (.iaload, 1) := by decide +kernel
theorem dX5_settle_51 : decode cX5_settle 51 = .ok (.lshl, 1) := by decide +kernel
theorem dX5_settle_52 : decode cX5_settle 52 = .ok (.lor, 1) := by decide +kernel
theorem dX5_settle_53 : decode cX5_settle 53 = .ok (.lstore_n 2, 1) := by decide +kernel
theorem dX5_settle_54 : decode cX5_settle 54 = .ok (.goto 58, 3) := by decide +kernel
theorem dX5_settle_57 : decode cX5_settle 57 = .ok (.aload_n 0, 1) := by decide +kernel
theorem dX5_settle_58 : decode cX5_settle 58 = .ok (.getfield 24, 3) := by decide +kernel
theorem dX5_settle_61 : decode cX5_settle 61 = .ok (.aload_n 0, 1) := by decide +kernel
theorem dX5_settle_62 : decode cX5_settle 62 = .ok (.getfield 9, 3) := by decide +kernel
theorem dX5_settle_65 : decode cX5_settle 65 = .ok (.iload 4, 2) := by decide +kernel
theorem dX5_settle_67 : decode cX5_settle 67 = .ok (.iaload, 1) := by decide +kernel
theorem dX5_settle_68 : decode cX5_settle 68 = .ok (.iconst 4, 1) := by decide +kernel
theorem dX5_settle_69 : decode cX5_settle 69 = .ok (.imul, 1) := by decide +kernel
theorem dX5_settle_70 : decode cX5_settle 70 = .ok (.aload_n 0, 1) := by decide +kernel
theorem dX5_settle_71 : decode cX5_settle 71 = .ok (.getfield 15, 3) := by decide +kernel
theorem dX5_settle_74 : decode cX5_settle 74 = .ok (.iload 4, 2) := by decide +kernel
theorem dX5_settle_76 : decode cX5_settle 76 = .ok (.iaload, 1) := by decide +kernel
theorem dX5_settle_77 : decode cX5_settle 77 = .ok (.iadd, 1) := by decide +kernel
theorem dX5_settle_78 : decode cX5_settle 78 = .ok (.iaload, 1) := by decide +kernel
theorem dX5_settle_79 : decode cX5_settle 79 = .ok (.iconst (-1), 1) := by decide +kernel
theorem dX5_settle_80 : decode cX5_settle 80 = .ok (.if_icmp .ne 32, 3) := by decide +kernel
theorem dX5_settle_83 : decode cX5_settle 83 = .ok (.aload_n 0, 1) := by decide +kernel
theorem dX5_settle_84 : decode cX5_settle 84 = .ok (.getfield 24, 3) := by decide +kernel
theorem dX5_settle_87 : decode cX5_settle 87 = .ok (.aload_n 0, 1) := by decide +kernel
theorem dX5_settle_88 : decode cX5_settle 88 = .ok (.getfield 9, 3) := by decide +kernel
theorem dX5_settle_91 : decode cX5_settle 91 = .ok (.iload 4, 2) := by decide +kernel
theorem dX5_settle_93 : decode cX5_settle 93 = .ok (.iaload, 1) := by decide +kernel
theorem dX5_settle_94 : decode cX5_settle 94 = .ok (.iconst 4, 1) := by decide +kernel
theorem dX5_settle_95 : decode cX5_settle 95 = .ok (.imul, 1) := by decide +kernel
theorem dX5_settle_96 : decode cX5_settle 96 = .ok (.aload_n 0, 1) := by decide +kernel
theorem dX5_settle_97 : decode cX5_settle 97 = .ok (.getfield 15, 3) := by decide +kernel
theorem dX5_settle_100 : decode cX5_settle 100 = .ok (.iload 4, 2) := by decide +kernel
theorem dX5_settle_102 : decode cX5_settle 102 = .ok (.iaload, 1) := by decide +kernel
theorem dX5_settle_103 : decode cX5_settle 103 = .ok (.iadd, 1) := by decide +kernel
theorem dX5_settle_104 : decode cX5_settle 104 = .ok (.aload_n 0, 1) := by decide +kernel
theorem dX5_settle_105 : decode cX5_settle 105 = .ok (.getfield 18, 3) := by decide +kernel
theorem dX5_settle_108 : decode cX5_settle 108 = .ok (.iload 4, 2) := by decide +kernel
theorem dX5_settle_110 : decode cX5_settle 110 = .ok (.iaload, 1) := by decide +kernel
theorem dX5_settle_111 : decode cX5_settle 111 = .ok (.iastore, 1) := by decide +kernel
theorem dX5_settle_112 : decode cX5_settle 112 = .ok (.iinc 4 (-1), 3) := by decide +kernel
theorem dX5_settle_115 : decode cX5_settle 115 = .ok (.goto (-100), 3) := by decide +kernel
theorem dX5_settle_118 : decode cX5_settle 118 = .ok (.return_, 1) := by decide +kernel
theorem dX5_known_0 : decode cX5_known 0 = .ok (.aload_n 0, 1) := by decide +kernel
theorem dX5_known_1 : decode cX5_known 1 = .ok (.getfield 24, 3) := by decide +kernel
theorem dX5_known_4 : decode cX5_known 4 = .ok (.iload_n 1, 1) := by decide +kernel
theorem dX5_known_5 : decode cX5_known 5 = .ok (.iconst 4, 1) := by decide +kernel
theorem dX5_known_6 : decode cX5_known 6 = .ok (.imul, 1) := by decide +kernel
theorem dX5_known_7 : decode cX5_known 7 = .ok (.iload_n 2, 1) := by decide +kernel
theorem dX5_known_8 : decode cX5_known 8 = .ok (.iadd, 1) := by decide +kernel
theorem dX5_known_9 : decode cX5_known 9 = .ok (.iaload, 1) := by decide +kernel
theorem dX5_known_10 : decode cX5_known 10 = .ok (.ireturn, 1) := by decide +kernel
theorem dX7_init_0 : decode cX7_init 0 = .ok (.aload_n 0, 1) := by decide +kernel
theorem dX7_init_1 : decode cX7_init 1 = .ok (.invokespecial 3, 3) := by decide +kernel
theorem dX7_init_4 : decode cX7_init 4 = .ok (.aload_n 0, 1) := by decide +kernel
theorem dX7_init_5 : decode cX7_init 5 = .ok (.bipush 27, 2) := by decide +kernel
theorem dX7_init_7 : decode cX7_init 7 = .ok (.newarray .int, 2) := by decide +kernel
theorem dX7_init_9 : decode cX7_init 9 = .ok (.putfield 11, 3) := by decide +kernel
theorem dX7_init_12 : decode cX7_init 12 = .ok (.aload_n 0, 1) := by decide +kernel
theorem dX7_init_13 : decode cX7_init 13 = .ok (.bipush 27, 2) := by decide +kernel
theorem dX7_init_15 : decode cX7_init 15 = .ok (.newarray .int, 2) := by decide +kernel
theorem dX7_init_17 : decode cX7_init 17 = .ok (.putfield 15, 3) := by decide +kernel
theorem dX7_init_20 : decode cX7_init 20 = .ok (.aload_n 0, 1) := by decide +kernel
theorem dX7_init_21 : decode cX7_init 21 = .ok (.bipush 27, 2) := by decide +kernel
theorem dX7_init_23 : decode cX7_init 23 = .ok (.newarray .int, 2) := by decide +kernel
theorem dX7_init_25 : decode cX7_init 25 = .ok (.putfield 18, 3) := by decide +kernel
theorem dX7_init_28 : decode cX7_init 28 = .ok (.aload_n 0, 1) := by decide +kernel
theorem dX7_init_29 : decode cX7_init 29 = .ok (.bipush 27, 2) := by decide +kernel
theorem dX7_init_31 : decode cX7_init 31 = .ok (.newarray .int, 2) := by decide +kernel
theorem dX7_init_33 : decode cX7_init 33 = .ok (.putfield 21, 3) := by decide +kernel
theorem dX7_init_36 : decode cX7_init 36 = .ok (.aload_n 0, 1) := by decide +kernel
theorem dX7_init_37 : decode cX7_init 37 = .ok (.bipush 12, 2) := by decide +kernel
theorem dX7_init_39 : decode cX7_init 39 = .ok (.newarray .int, 2) := by decide +kernel
theorem dX7_init_41 : decode cX7_init 41 = .ok (.putfield 24, 3) := by decide +kernel
theorem dX7_init_44 : decode cX7_init 44 = .ok (.aload_n 0, 1) := by decide +kernel
theorem dX7_init_45 : decode cX7_init 45 = .ok (.bipush 12, 2) := by decide +kernel
theorem dX7_init_47 : decode cX7_init 47 = .ok (.newarray .int, 2) := by decide +kernel
theorem dX7_init_49 : decode cX7_init 49 = .ok (.putfield 27, 3) := by decide +kernel
theorem dX7_init_52 : decode cX7_init 52 = .ok (.aload_n 0, 1) := by decide +kernel
theorem dX7_init_53 : decode cX7_init 53 = .ok (.bipush 12, 2) := by decide +kernel
theorem dX7_init_55 : decode cX7_init 55 = .ok (.newarray .int, 2) := by decide +kernel
theorem dX7_init_57 : decode cX7_init 57 = .ok (.putfield 30, 3) := by decide +kernel
theorem dX7_init_60 : decode cX7_init 60 = .ok (.aload_n 0, 1) := by decide +kernel
theorem dX7_init_61 : decode cX7_init 61 = .ok (.bipush 12, 2) := by decide +kernel
theorem dX7_init_63 : decode cX7_init 63 = .ok (.newarray .int, 2) := by decide +kernel
theorem dX7_init_65 : decode cX7_init 65 = .ok (.putfield 33, 3) := by decide +kernel
theorem dX7_init_68 : decode cX7_init 68 = .ok (.return_, 1) := by decide +kernel
theorem dX7_addEntry_0 : decode cX7_addEntry 0 = .ok (.aload_n 0, 1) := by decide +kernel
theorem dX7_addEntry_1 : decode cX7_addEntry 1 = .ok (.getfield 36, 3) := by decide +kernel
theorem dX7_addEntry_4 : decode cX7_addEntry 4 = .ok (.bipush 27, 2) := by decide +kernel
theorem dX7_addEntry_6 : decode cX7_addEntry 6 = .ok (.if_icmp .lt 5, 3) := by decide +kernel
theorem dX7_addEntry_9 : decode cX7_addEntry 9 = .ok (.iconst (-1), 1) := by decide +kernel
theorem dX7_addEntry_10 : decode cX7_addEntry 10 = .ok (.ireturn, 1) := by decide +kernel
theorem dX7_addEntry_11 : decode cX7_addEntry 11 = .ok (.aload_n 0, 1) := by decide +kernel
theorem dX7_addEntry_12 : decode cX7_addEntry 12 = .ok (.getfield 11, 3) := by decide +kernel
theorem dX7_addEntry_15 : decode cX7_addEntry 15 = .ok (.aload_n 0, 1) := by decide +kernel
theorem dX7_addEntry_16 : decode cX7_addEntry 16 = .ok (.getfield 36, 3) := by decide +kernel
theorem dX7_addEntry_19 : decode cX7_addEntry 19 = .ok (.iload_n 1, 1) := by decide +kernel
theorem dX7_addEntry_20 : decode cX7_addEntry 20 = .ok (.iastore, 1) := by decide +kernel
theorem dX7_addEntry_21 : decode cX7_addEntry 21 = .ok (.aload_n 0, 1) := by decide +kernel
theorem dX7_addEntry_22 : decode cX7_addEntry 22 = .ok (.getfield 15, 3) := by decide +kernel
theorem dX7_addEntry_25 : decode cX7_addEntry 25 = .ok (.aload_n 0, 1) := by decide +kernel
theorem dX7_addEntry_26 : decode cX7_addEntry 26 = .ok (.getfield 36, 3) := by decide +kernel
theorem dX7_addEntry_29 : decode cX7_addEntry 29 = .ok (.iload_n 2, 1) := by decide +kernel
theorem dX7_addEntry_30 : decode cX7_addEntry 30 = .ok (.iastore, 1) := by decide +kernel
theorem dX7_addEntry_31 : decode cX7_addEntry 31 = .ok (.aload_n 0, 1) := by decide +kernel
theorem dX7_addEntry_32 : decode cX7_addEntry 32 = .ok (.getfield 18, 3) := by decide +kernel
theorem dX7_addEntry_35 : decode cX7_addEntry 35 = .ok (.aload_n 0, 1) := by decide +kernel
theorem dX7_addEntry_36 : decode cX7_addEntry 36 = .ok (.getfield 36, 3) := by decide +kernel
theorem dX7_addEntry_39 : decode cX7_addEntry 39 = .ok (.iload_n 3, 1) := by decide +kernel
theorem dX7_addEntry_40 : decode cX7_addEntry 40 = .ok (.iastore, 1) := by decide +kernel
theorem dX7_addEntry_41 : decode cX7_addEntry 41 = .ok (.aload_n 0, 1) := by decide +kernel
theorem dX7_addEntry_42 : decode cX7_addEntry 42 = .ok (.getfield 21, 3) := by decide +kernel
theorem dX7_addEntry_45 : decode cX7_addEntry 45 = .ok (.aload_n 0, 1) := by decide +kernel
theorem dX7_addEntry_46 : decode cX7_addEntry 46 = .ok (.getfield 36, 3) := by decide +kernel
theorem dX7_addEntry_49 : decode cX7_addEntry 49 = .ok (.iload 4, 2) := by decide +kernel
theorem dX7_addEntry_51 : decode cX7_addEntry 51 = .ok (.iastore, 1) := by decide +kernel
theorem dX7_addEntry_52 : decode cX7_addEntry 52 = .ok (.aload_n 0, 1) := by decide +kernel
theorem dX7_addEntry_53 : decode cX7_addEntry 53 = .ok (.getfield 33, 3) := by decide +kernel
theorem dX7_addEntry_56 : decode cX7_addEntry 56 = .ok (.iload_n 1, 1) := by decide +kernel
theorem dX7_addEntry_57 : decode cX7_addEntry 57 = .ok (.iconst 3, 1) := by decide +kernel
theorem dX7_addEntry_58 : decode cX7_addEntry 58 = .ok (.imul, 1) := by decide +kernel
theorem dX7_addEntry_59 : decode cX7_addEntry 59 = .ok (.iload_n 2, 1) := by decide +kernel
theorem dX7_addEntry_60 : decode cX7_addEntry 60 = .ok (.iadd, 1) := by decide +kernel
theorem dX7_addEntry_61 : decode cX7_addEntry 61 = .ok (.dup2, 1) := by decide +kernel
theorem dX7_addEntry_62 : decode cX7_addEntry 62 = .ok (.iaload, 1) := by decide +kernel
theorem dX7_addEntry_63 : decode cX7_addEntry 63 = .ok (.iconst 1, 1) := by decide +kernel
theorem dX7_addEntry_64 : decode cX7_addEntry 64 = .ok (.iadd, 1) := by decide +kernel
theorem dX7_addEntry_65 : decode cX7_addEntry 65 = .ok (.iastore, 1) := by decide +kernel
theorem dX7_addEntry_66 : decode cX7_addEntry 66 = .ok (.aload_n 0, 1) := by decide +kernel
theorem dX7_addEntry_67 : decode cX7_addEntry 67 = .ok (.dup, 1) := by decide +kernel
theorem dX7_addEntry_68 : decode cX7_addEntry 68 = .ok (.getfield 36, 3) := by decide +kernel
theorem dX7_addEntry_71 : decode cX7_addEntry 71 = .ok (.iconst 1, 1) := by decide +kernel
theorem dX7_addEntry_72 : decode cX7_addEntry 72 = .ok (.iadd, 1) := by decide +kernel
theorem dX7_addEntry_73 : decode cX7_addEntry 73 = .ok (.putfield 36, 3) := by decide +kernel
theorem dX7_addEntry_76 : decode cX7_addEntry 76 = .ok (.aload_n 0, 1) := by decide +kernel
theorem dX7_addEntry_77 : decode cX7_addEntry 77 = .ok (.getfield 36, 3) := by decide +kernel
theorem dX7_addEntry_80 : decode cX7_addEntry 80 = .ok (.iconst 1, 1) := by decide +kernel
theorem dX7_addEntry_81 : decode cX7_addEntry 81 = .ok (.isub, 1) := by decide +kernel
theorem dX7_addEntry_82 : decode cX7_addEntry 82 = .ok (.ireturn, 1) := by decide +kernel
theorem dX7_addHand_0 : decode cX7_addHand 0 = .ok (.aload_n 0, 1) := by decide +kernel
theorem dX7_addHand_1 : decode cX7_addHand 1 = .ok (.getfield 24, 3) := by decide +kernel
theorem dX7_addHand_4 : decode cX7_addHand 4 = .ok (.aload_n 0, 1) := by decide +kernel
theorem dX7_addHand_5 : decode cX7_addHand 5 = .ok (.getfield 40, 3) := by decide +kernel
theorem dX7_addHand_8 : decode cX7_addHand 8 = .ok (.iload_n 1, 1) := by decide +kernel
theorem dX7_addHand_9 : decode cX7_addHand 9 = .ok (.iastore, 1) := by decide +kernel
theorem dX7_addHand_10 : decode cX7_addHand 10 = .ok (.aload_n 0, 1) := by decide +kernel
theorem dX7_addHand_11 : decode cX7_addHand 11 = .ok (.getfield 27, 3) := by decide +kernel
theorem dX7_addHand_14 : decode cX7_addHand 14 = .ok (.aload_n 0, 1) := by decide +kernel
theorem dX7_addHand_15 : decode cX7_addHand 15 = .ok (.getfield 40, 3) := by decide +kernel
theorem dX7_addHand_18 : decode cX7_addHand 18 = .ok (.iload_n 2, 1) := by decide +kernel
theorem dX7_addHand_19 : decode cX7_addHand 19 = .ok (.iastore, 1) := by decide +kernel
theorem dX7_addHand_20 : decode cX7_addHand 20 = .ok (.aload_n 0, 1) := by decide +kernel
theorem dX7_addHand_21 : decode cX7_addHand 21 = .ok (.getfield 30, 3) := by decide +kernel
theorem dX7_addHand_24 : decode cX7_addHand 24 = .ok (.aload_n 0, 1) := by decide +kernel
theorem dX7_addHand_25 : decode cX7_addHand 25 = .ok (.getfield 40, 3) := by decide +kernel
theorem dX7_addHand_28 : decode cX7_addHand 28 = .ok (.iload_n 3, 1) := by decide +kernel
theorem dX7_addHand_29 : decode cX7_addHand 29 = .ok (.iastore, 1) := by decide +kernel
theorem dX7_addHand_30 : decode cX7_addHand 30 = .ok (.aload_n 0, 1) := by decide +kernel
theorem dX7_addHand_31 : decode cX7_addHand 31 = .ok (.dup, 1) := by decide +kernel
theorem dX7_addHand_32 : decode cX7_addHand 32 = .ok (.getfield 40, 3) := by decide +kernel
theorem dX7_addHand_35 : decode cX7_addHand 35 = .ok (.iconst 1, 1) := by decide +kernel
theorem dX7_addHand_36 : decode cX7_addHand 36 = .ok (.iadd, 1) := by decide +kernel
theorem dX7_addHand_37 : decode cX7_addHand 37 = .ok (.putfield 40, 3) := by decide +kernel
theorem dX7_addHand_40 : decode cX7_addHand 40 = .ok (.aload_n 0, 1) := by decide +kernel
theorem dX7_addHand_41 : decode cX7_addHand 41 = .ok (.getfield 40, 3) := by decide +kernel
theorem dX7_addHand_44 : decode cX7_addHand 44 = .ok (.iconst 1, 1) := by decide +kernel
theorem dX7_addHand_45 : decode cX7_addHand 45 = .ok (.isub, 1) := by decide +kernel
theorem dX7_addHand_46 : decode cX7_addHand 46 = .ok (.ireturn, 1) := by decide +kernel
theorem dX7_hasPlan_0 : decode cX7_hasPlan 0 = .ok (.aload_n 0, 1) := by decide +kernel
theorem dX7_hasPlan_1 : decode cX7_hasPlan 1 = .ok (.getfield 33, 3) := by decide +kernel
theorem dX7_hasPlan_4 : decode cX7_hasPlan 4 = .ok (.iload_n 1, 1) := by decide +kernel
theorem dX7_hasPlan_5 : decode cX7_hasPlan 5 = .ok (.iconst 3, 1) := by decide +kernel
theorem dX7_hasPlan_6 : decode cX7_hasPlan 6 = .ok (.imul, 1) := by decide +kernel
theorem dX7_hasPlan_7 : decode cX7_hasPlan 7 = .ok (.iload_n 2, 1) := by decide +kernel
theorem dX7_hasPlan_8 : decode cX7_hasPlan 8 = .ok (.iadd, 1) := by decide +kernel
theorem dX7_hasPlan_9 : decode cX7_hasPlan 9 = .ok (.iaload, 1) := by decide +kernel
theorem dX7_hasPlan_10 : decode cX7_hasPlan 10 = .ok (.ifCond .le 7, 3) := by decide +kernel
theorem dX7_hasPlan_13 : decode cX7_hasPlan 13 = .ok (.iconst 1, 1) := by decide +kernel
theorem dX7_hasPlan_14 : decode cX7_hasPlan 14 = .ok (.goto 4, 3) := by decide +kernel
theorem dX7_hasPlan_17 : decode cX7_hasPlan 17 = .ok (.iconst 0, 1) := by decide +kernel
theorem dX7_hasPlan_18 : decode cX7_hasPlan 18 = .ok (.ireturn, 1) := by decide +kernel
theorem dX7_cutEntries_0 : decode cX7_cutEntries 0 = .ok (.iload_n 1, 1) := by decide +kernel
theorem dX7_cutEntries_1 : decode cX7_cutEntries 1 = .ok (.istore_n 2, 1) := by decide +kernel
theorem dX7_cutEntries_2 : decode cX7_cutEntries 2 = .ok (.iload_n 2, 1) := by decide +kernel
theorem dX7_cutEntries_3 : decode cX7_cutEntries 3 = .ok (.aload_n 0, 1) := by decide +kernel
theorem dX7_cutEntries_4 : decode cX7_cutEntries 4 = .ok (.getfield 36, 3) := by decide +kernel
theorem dX7_cutEntries_7 : decode cX7_cutEntries 7 = .ok (.if_icmp .ge 33, 3) := by decide +kernel
theorem dX7_cutEntries_10 : decode cX7_cutEntries 10 = .ok (.aload_n 0, 1) := by decide +kernel
theorem dX7_cutEntries_11 : decode cX7_cutEntries 11 = .ok (.getfield 33, 3) := by decide +kernel
theorem dX7_cutEntries_14 : decode cX7_cutEntries 14 = .ok (.aload_n 0, 1) := by decide +kernel
theorem dX7_cutEntries_15 : decode cX7_cutEntries 15 = .ok (.getfield 11, 3) := by decide +kernel
theorem dX7_cutEntries_18 : decode cX7_cutEntries 18 = .ok (.iload_n 2, 1) := by decide +kernel
theorem dX7_cutEntries_19 : decode cX7_cutEntries 19 = .ok (.iaload, 1) := by decide +kernel
theorem dX7_cutEntries_20 : decode cX7_cutEntries 20 = .ok (.iconst 3, 1) := by decide +kernel
theorem dX7_cutEntries_21 : decode cX7_cutEntries 21 = .ok (.imul, 1) := by decide +kernel
theorem dX7_cutEntries_22 : decode cX7_cutEntries 22 = .ok (.aload_n 0, 1) := by decide +kernel
theorem dX7_cutEntries_23 : decode cX7_cutEntries 23 = .ok (.getfield 15, 3) := by decide +kernel
theorem dX7_cutEntries_26 : decode cX7_cutEntries 26 = .ok (.iload_n 2, 1) := by decide +kernel
theorem dX7_cutEntries_27 : decode cX7_cutEntries 27 = .ok (.iaload, 1) := by decide +kernel
theorem dX7_cutEntries_28 : decode cX7_cutEntries 28 = .ok (.iadd, 1) := by decide +kernel
theorem dX7_cutEntries_29 : decode cX7_cutEntries 29 = .ok (.dup2, 1) := by decide +kernel
theorem dX7_cutEntries_30 : decode cX7_cutEntries 30 = .ok (.iaload, 1) := by decide +kernel
theorem dX7_cutEntries_31 : decode cX7_cutEntries 31 = .ok (.iconst 1, 1) := by decide +kernel
theorem dX7_cutEntries_32 : decode cX7_cutEntries 32 = .ok (.isub, 1) := by decide +kernel
theorem dX7_cutEntries_33 : decode cX7_cutEntries 33 = .ok (.iastore, 1) := by decide +kernel
theorem dX7_cutEntries_34 : decode cX7_cutEntries 34 = .ok (.iinc 2 1, 3) := by decide +kernel
theorem dX7_cutEntries_37 : decode cX7_cutEntries 37 = .ok (.goto (-35), 3) := by decide +kernel
theorem dX7_cutEntries_40 : decode cX7_cutEntries 40 = .ok (.aload_n 0, 1) := by decide +kernel
theorem dX7_cutEntries_41 : decode cX7_cutEntries 41 = .ok (.aload_n 0, 1) := by decide +kernel
theorem dX7_cutEntries_42 : decode cX7_cutEntries 42 = .ok (.getfield 36, 3) := by decide +kernel
theorem dX7_cutEntries_45 : decode cX7_cutEntries 45 = .ok (.iload_n 1, 1) := by decide +kernel
theorem dX7_cutEntries_46 : decode cX7_cutEntries 46 = .ok (.invokestatic 43, 3) := by decide +kernel
theorem dX7_cutEntries_49 : decode cX7_cutEntries 49 = .ok (.putfield 36, 3) := by decide +kernel
theorem dX7_cutEntries_52 : decode cX7_cutEntries 52 = .ok (.return_, 1) := by decide +kernel
theorem dX7_dropVan_0 : decode cX7_dropVan 0 = .ok (.aload_n 0, 1) := by decide +kernel
theorem dX7_dropVan_1 : decode cX7_dropVan 1 = .ok (.aload_n 0, 1) := by decide +kernel
theorem dX7_dropVan_2 : decode cX7_dropVan 2 = .ok (.iload_n 1, 1) := by decide +kernel
theorem dX7_dropVan_3 : decode cX7_dropVan 3 = .ok (.invokevirtual 49, 3) := by decide +kernel
theorem dX7_dropVan_6 : decode cX7_dropVan 6 = .ok (.return_, 1) := by decide +kernel
theorem dX7_takeOthers_0 : decode cX7_takeOthers 0 = .ok (.aload_n 1, 1) := by decide +kernel
theorem dX7_takeOthers_1 : decode cX7_takeOthers 1 = .ok (.getfield 36, 3) := by decide +kernel
theorem dX7_takeOthers_4 : decode cX7_takeOthers 4 = .ok (.istore_n 3, 1) := by decide +kernel
theorem dX7_takeOthers_5 : decode cX7_takeOthers 5 = .ok (.aload_n 0, 1) := by decide +kernel
theorem dX7_takeOthers_6 : decode cX7_takeOthers 6 = .ok (.iconst 0, 1) := by decide +kernel
theorem dX7_takeOthers_7 : decode cX7_takeOthers 7 = .ok (.putfield 36, 3) := by decide +kernel
theorem dX7_takeOthers_10 : decode cX7_takeOthers 10 = .ok (.aload_n 0, 1) := by decide +kernel
theorem dX7_takeOthers_11 : decode cX7_takeOthers 11 = .ok (.getfield 33, 3) := by decide +kernel
theorem dX7_takeOthers_14 : decode cX7_takeOthers 14 = .ok (.iconst 0, 1) := by decide +kernel
theorem dX7_takeOthers_15 : decode cX7_takeOthers 15 = .ok (.invokestatic 53, 3) := by decide +kernel
theorem dX7_takeOthers_18 : decode cX7_takeOthers 18 = .ok (.iconst 0, 1) := by decide +kernel
theorem dX7_takeOthers_19 : decode cX7_takeOthers 19 = .ok (.istore 4, 2) := by decide +kernel
theorem dX7_takeOthers_21 : decode cX7_takeOthers 21 = .ok (.iload 4, 2) := by decide +kernel
theorem dX7_takeOthers_23 : decode cX7_takeOthers 23 = .ok (.iload_n 3, 1) := by decide +kernel
theorem dX7_takeOthers_24 : decode cX7_takeOthers 24 = .ok (.if_icmp .ge 53, 3) := by decide +kernel
theorem dX7_takeOthers_27 : decode cX7_takeOthers 27 = .ok (.aload_n 1, 1) := by decide +kernel
theorem dX7_takeOthers_28 : decode cX7_takeOthers 28 = .ok (.getfield 15, 3) := by decide +kernel
theorem dX7_takeOthers_31 : decode cX7_takeOthers 31 = .ok (.iload 4, 2) := by decide +kernel
theorem dX7_takeOthers_33 : decode cX7_takeOthers 33 = .ok (.iaload, 1) := by decide +kernel
theorem dX7_takeOthers_34 : decode cX7_takeOthers 34 = .ok (.iload_n 2, 1) := by decide +kernel
theorem dX7_takeOthers_35 : decode cX7_takeOthers 35 = .ok (.if_icmp .eq 36, 3) := by decide +kernel
theorem dX7_takeOthers_38 : decode cX7_takeOthers 38 = .ok (.aload_n 0, 1) := by decide +kernel
theorem dX7_takeOthers_39 : decode cX7_takeOthers 39 = .ok (.aload_n 1, 1) := by decide +kernel
theorem dX7_takeOthers_40 : decode cX7_takeOthers 40 = .ok (.getfield 11, 3) := by decide +kernel
theorem dX7_takeOthers_43 : decode cX7_takeOthers 43 = .ok (.iload 4, 2) := by decide +kernel
theorem dX7_takeOthers_45 : decode cX7_takeOthers 45 = .ok (.iaload, 1) := by decide +kernel
theorem dX7_takeOthers_46 : decode cX7_takeOthers 46 = .ok (.aload_n 1, 1) := by decide +kernel
theorem dX7_takeOthers_47 : decode cX7_takeOthers 47 = .ok (.getfield 15, 3) := by decide +kernel
theorem dX7_takeOthers_50 : decode cX7_takeOthers 50 = .ok (.iload 4, 2) := by decide +kernel
theorem dX7_takeOthers_52 : decode cX7_takeOthers 52 = .ok (.iaload, 1) := by decide +kernel
theorem dX7_takeOthers_53 : decode cX7_takeOthers 53 = .ok (.aload_n 1, 1) := by decide +kernel
theorem dX7_takeOthers_54 : decode cX7_takeOthers 54 = .ok (.getfield 18, 3) := by decide +kernel
theorem dX7_takeOthers_57 : decode cX7_takeOthers 57 = .ok (.iload 4, 2) := by decide +kernel
theorem dX7_takeOthers_59 : decode cX7_takeOthers 59 = .ok (.iaload, 1) := by decide +kernel
theorem dX7_takeOthers_60 : decode cX7_takeOthers 60 = .ok (.aload_n 1, 1) := by decide +kernel
theorem dX7_takeOthers_61 : decode cX7_takeOthers 61 = .ok (.getfield 21, 3) := by decide +kernel
theorem dX7_takeOthers_64 : decode cX7_takeOthers 64 = .ok (.iload 4, 2) := by decide +kernel
theorem dX7_takeOthers_66 : decode cX7_takeOthers 66 = .ok (.iaload, 1) := by decide +kernel
theorem dX7_takeOthers_67 : decode cX7_takeOthers 67 = .ok (.invokevirtual 59, 3) := by decide +kernel
theorem dX7_takeOthers_70 : decode cX7_takeOthers 70 = .ok (.pop, 1) := by decide +kernel
theorem dX7_takeOthers_71 : decode cX7_takeOthers 71 = .ok (.iinc 4 1, 3) := by decide +kernel
theorem dX7_takeOthers_74 : decode cX7_takeOthers 74 = .ok (.goto (-53), 3) := by decide +kernel
theorem dX7_takeOthers_77 : decode cX7_takeOthers 77 = .ok (.return_, 1) := by decide +kernel
theorem dX7_takeHands_0 : decode cX7_takeHands 0 = .ok (.aload_n 1, 1) := by decide +kernel
theorem dX7_takeHands_1 : decode cX7_takeHands 1 = .ok (.getfield 40, 3) := by decide +kernel
theorem dX7_takeHands_4 : decode cX7_takeHands 4 = .ok (.istore_n 2, 1) := by decide +kernel
theorem dX7_takeHands_5 : decode cX7_takeHands 5 = .ok (.aload_n 0, 1) := by decide +kernel
theorem dX7_takeHands_6 : decode cX7_takeHands 6 = .ok (.iconst 0, 1) := by decide +kernel
theorem dX7_takeHands_7 : decode cX7_takeHands 7 = .ok (.putfield 40, 3) := by decide +kernel
theorem dX7_takeHands_10 : decode cX7_takeHands 10 = .ok (.iconst 0, 1) := by decide +kernel
theorem dX7_takeHands_11 : decode cX7_takeHands 11 = .ok (.istore_n 3, 1) := by decide +kernel
theorem dX7_takeHands_12 : decode cX7_takeHands 12 = .ok (.iload_n 3, 1) := by decide +kernel
theorem dX7_takeHands_13 : decode cX7_takeHands 13 = .ok (.iload_n 2, 1) := by decide +kernel
theorem dX7_takeHands_14 : decode cX7_takeHands 14 = .ok (.if_icmp .ge 32, 3) := by decide +kernel
theorem dX7_takeHands_17 : decode cX7_takeHands 17 = .ok (.aload_n 0, 1) := by decide +kernel
theorem dX7_takeHands_18 : decode cX7_takeHands 18 = .ok (.aload_n 1, 1) := by decide +kernel
theorem dX7_takeHands_19 : decode cX7_takeHands 19 = .ok (.getfield 24, 3) := by decide +kernel
theorem dX7_takeHands_22 : decode cX7_takeHands 22 = .ok (.iload_n 3, 1) := by decide +kernel
theorem dX7_takeHands_23 : decode cX7_takeHands 23 = .ok (.iaload, 1) := by decide +kernel
theorem dX7_takeHands_24 : decode cX7_takeHands 24 = .ok (.aload_n 1, 1) := by decide +kernel
theorem dX7_takeHands_25 : decode cX7_takeHands 25 = .ok (.getfield 27, 3) := by decide +kernel
theorem dX7_takeHands_28 : decode cX7_takeHands 28 = .ok (.iload_n 3, 1) := by decide +kernel
theorem dX7_takeHands_29 : decode cX7_takeHands 29 = .ok (.iaload, 1) := by decide +kernel
theorem dX7_takeHands_30 : decode cX7_takeHands 30 = .ok (.aload_n 1, 1) := by decide +kernel
theorem dX7_takeHands_31 : decode cX7_takeHands 31 = .ok (.getfield 30, 3) := by decide +kernel
theorem dX7_takeHands_34 : decode cX7_takeHands 34 = .ok (.iload_n 3, 1) := by decide +kernel
theorem dX7_takeHands_35 : decode cX7_takeHands 35 = .ok (.iaload, 1) := by decide +kernel
theorem dX7_takeHands_36 : decode cX7_takeHands 36 = .ok (.invokevirtual 63, 3) := by decide +kernel
theorem dX7_takeHands_39 : decode cX7_takeHands 39 = .ok (.pop, 1) := by decide +kernel
theorem dX7_takeHands_40 : decode cX7_takeHands 40 = .ok (.iinc 3 1, 3) := by decide +kernel
theorem dX7_takeHands_43 : decode cX7_takeHands 43 = .ok (.goto (-31), 3) := by decide +kernel
theorem dX7_takeHands_46 : decode cX7_takeHands 46 = .ok (.return_, 1) := by decide +kernel
theorem dX8_init_0 : decode cX8_init 0 = .ok (.aload_n 0, 1) := by decide +kernel
theorem dX8_init_1 : decode cX8_init 1 = .ok (.invokespecial 3, 3) := by decide +kernel
theorem dX8_init_4 : decode cX8_init 4 = .ok (.aload_n 0, 1) := by decide +kernel
theorem dX8_init_5 : decode cX8_init 5 = .ok (.new 9, 3) := by decide +kernel
theorem dX8_init_8 : decode cX8_init 8 = .ok (.dup, 1) := by decide +kernel
theorem dX8_init_9 : decode cX8_init 9 = .ok (.invokespecial 11, 3) := by decide +kernel
theorem dX8_init_12 : decode cX8_init 12 = .ok (.putfield 12, 3) := by decide +kernel
theorem dX8_init_15 : decode cX8_init 15 = .ok (.aload_n 0, 1) := by decide +kernel
theorem dX8_init_16 : decode cX8_init 16 = .ok (.iconst 3, 1) := by decide +kernel
theorem dX8_init_17 : decode cX8_init 17 = .ok (.newarray .int, 2) := by decide +kernel
theorem dX8_init_19 : decode cX8_init 19 = .ok (.putfield 18, 3) := by decide +kernel
theorem dX8_init_22 : decode cX8_init 22 = .ok (.aload_n 0, 1) := by decide +kernel
theorem dX8_init_23 : decode cX8_init 23 = .ok (.iconst 3, 1) := by decide +kernel
theorem dX8_init_24 : decode cX8_init 24 = .ok (.newarray .int, 2) := by decide +kernel
theorem dX8_init_26 : decode cX8_init 26 = .ok (.putfield 22, 3) := by decide +kernel
theorem dX8_init_29 : decode cX8_init 29 = .ok (.aload_n 0, 1) := by decide +kernel
theorem dX8_init_30 : decode cX8_init 30 = .ok (.aload_n 1, 1) := by decide +kernel
theorem dX8_init_31 : decode cX8_init 31 = .ok (.putfield 25, 3) := by decide +kernel
theorem dX8_init_34 : decode cX8_init 34 = .ok (.aload_n 0, 1) := by decide +kernel
theorem dX8_init_35 : decode cX8_init 35 = .ok (.aload_n 2, 1) := by decide +kernel
theorem dX8_init_36 : decode cX8_init 36 = .ok (.putfield 29, 3) := by decide +kernel
theorem dX8_init_39 : decode cX8_init 39 = .ok (.aload_n 0, 1) := by decide +kernel
theorem dX8_init_40 : decode cX8_init 40 = .ok (.aload_n 3, 1) := by decide +kernel
theorem dX8_init_41 : decode cX8_init 41 = .ok (.putfield 33, 3) := by decide +kernel
theorem dX8_init_44 : decode cX8_init 44 = .ok (.return_, 1) := by decide +kernel
theorem dX8_choicesInNight_0 : decode cX8_choicesInNight 0 = .ok (.aload_n 0, 1) := by decide +kernel
theorem dX8_choicesInNight_1 : decode cX8_choicesInNight 1 = .ok (.getfield 25, 3) := by decide +kernel
theorem dX8_choicesInNight_4 : decode cX8_choicesInNight 4 = .ok (.getfield 37, 3) := by decide +kernel
theorem dX8_choicesInNight_7 : decode cX8_choicesInNight 7 = .ok (.aload_n 0, 1) := by decide +kernel
theorem dX8_choicesInNight_8 : decode cX8_choicesInNight 8 = .ok (.getfield 29, 3) := by decide +kernel
theorem dX8_choicesInNight_11 : decode cX8_choicesInNight 11 = .ok (.getfield 43, 3) := by decide +kernel
theorem dX8_choicesInNight_14 : decode cX8_choicesInNight 14 = .ok (.imul, 1) := by decide +kernel
theorem dX8_choicesInNight_15 : decode cX8_choicesInNight 15 = .ok (.iconst 1, 1) := by decide +kernel
theorem dX8_choicesInNight_16 : decode cX8_choicesInNight 16 = .ok (.iadd, 1) := by decide +kernel
theorem dX8_choicesInNight_17 : decode cX8_choicesInNight 17 = .ok (.ireturn, 1) := by decide +kernel
theorem dX8_rowsFor_0 : decode cX8_rowsFor 0 = .ok (.iconst 1, 1) := by decide +kernel
theorem dX8_rowsFor_1 : decode cX8_rowsFor 1 = .ok (.istore_n 2, 1) := by decide +kernel
theorem dX8_rowsFor_2 : decode cX8_rowsFor 2 = .ok (.iconst 0, 1) := by decide +kernel
theorem dX8_rowsFor_3 : decode cX8_rowsFor 3 = .ok (.istore_n 3, 1) := by decide +kernel
theorem dX8_rowsFor_4 : decode cX8_rowsFor 4 = .ok (.iload_n 3, 1) := by decide +kernel
theorem dX8_rowsFor_5 : decode cX8_rowsFor 5 = .ok (.iload_n 1, 1) := by decide +kernel
theorem dX8_rowsFor_6 : decode cX8_rowsFor 6 = .ok (.if_icmp .ge 16, 3) := by decide +kernel
theorem dX8_rowsFor_9 : decode cX8_rowsFor 9 = .ok (.iload_n 2, 1) := by decide +kernel
theorem dX8_rowsFor_10 : decode cX8_rowsFor 10 = .ok (.aload_n 0, 1) := by decide +kernel
theorem dX8_rowsFor_11 : decode cX8_rowsFor 11 = .ok (.invokevirtual 48, 3) := by decide +kernel
theorem dX8_rowsFor_14 : decode cX8_rowsFor 14 = .ok (.imul, 1) := by decide +kernel
theorem dX8_rowsFor_15 : decode cX8_rowsFor 15 = .ok (.istore_n 2, 1) := by decide +kernel
theorem dX8_rowsFor_16 : decode cX8_rowsFor 16 = .ok (.iinc 3 1, 3) := by decide +kernel
theorem dX8_rowsFor_19 : decode cX8_rowsFor 19 = .ok (.goto (-15), 3) := by decide +kernel
theorem dX8_rowsFor_22 : decode cX8_rowsFor 22 = .ok (.iload_n 2, 1) := by decide +kernel
theorem dX8_rowsFor_23 : decode cX8_rowsFor 23 = .ok (.ireturn, 1) := by decide +kernel
theorem dX8_seek_0 : decode cX8_seek 0 = .ok (.aload_n 0, 1) := by decide +kernel
theorem dX8_seek_1 : decode cX8_seek 1 = .ok (.getfield 12, 3) := by decide +kernel
theorem dX8_seek_4 : decode cX8_seek 4 = .ok (.aload_n 1, 1) := by decide +kernel
theorem dX8_seek_5 : decode cX8_seek 5 = .ok (.iload_n 2, 1) := by decide +kernel
theorem dX8_seek_6 : decode cX8_seek 6 = .ok (.invokevirtual 52, 3) := by decide +kernel
theorem dX8_seek_9 : decode cX8_seek 9 = .ok (.aload_n 0, 1) := by decide +kernel
theorem dX8_seek_10 : decode cX8_seek 10 = .ok (.getfield 12, 3) := by decide +kernel
theorem dX8_seek_13 : decode cX8_seek 13 = .ok (.aload_n 1, 1) := by decide +kernel
theorem dX8_seek_14 : decode cX8_seek 14 = .ok (.invokevirtual 56, 3) := by decide +kernel
theorem dX8_seek_17 : decode cX8_seek 17 = .ok (.aload_n 0, 1) := by decide +kernel
theorem dX8_seek_18 : decode cX8_seek 18 = .ok (.getfield 12, 3) := by decide +kernel
theorem dX8_seek_21 : decode cX8_seek 21 = .ok (.getfield 60, 3) := by decide +kernel
theorem dX8_seek_24 : decode cX8_seek 24 = .ok (.istore 4, 2) := by decide +kernel
theorem dX8_seek_26 : decode cX8_seek 26 = .ok (.aload_n 0, 1) := by decide +kernel
theorem dX8_seek_27 : decode cX8_seek 27 = .ok (.iload_n 3, 1) := by decide +kernel
theorem dX8_seek_28 : decode cX8_seek 28 = .ok (.invokevirtual 63, 3) := by decide +kernel
theorem dX8_seek_31 : decode cX8_seek 31 = .ok (.istore 5, 2) := by decide +kernel
theorem dX8_seek_33 : decode cX8_seek 33 = .ok (.iconst 0, 1) := by decide +kernel
theorem dX8_seek_34 : decode cX8_seek 34 = .ok (.istore 6, 2) := by decide +kernel
theorem dX8_seek_36 : decode cX8_seek 36 = .ok (.iload 6, 2) := by decide +kernel
theorem dX8_seek_38 : decode cX8_seek 38 = .ok (.iload 5, 2) := by decide +kernel
theorem dX8_seek_40 : decode cX8_seek 40 = .ok (.if_icmp .ge 51, 3) := by decide +kernel
theorem dX8_seek_43 : decode cX8_seek 43 = .ok (.aload_n 0, 1) := by decide +kernel
theorem dX8_seek_44 : decode cX8_seek 44 = .ok (.iload 6, 2) := by decide +kernel
theorem dX8_seek_46 : decode cX8_seek 46 = .ok (.iload_n 3, 1) := by decide +kernel
theorem dX8_seek_47 : decode cX8_seek 47 = .ok (.invokevirtual 67, 3) := by decide +kernel
theorem dX8_seek_50 : decode cX8_seek 50 = .ok (.aload_n 0, 1) := by decide +kernel
theorem dX8_seek_51 : decode cX8_seek 51 = .ok (.iload 4, 2) := by decide +kernel
theorem dX8_seek_53 : decode cX8_seek 53 = .ok (.iload_n 2, 1) := by decide +kernel
theorem dX8_seek_54 : decode cX8_seek 54 = .ok (.invokevirtual 71, 3) := by decide +kernel
theorem dX8_seek_57 : decode cX8_seek 57 = .ok (.aload_n 0, 1) := by decide +kernel
theorem dX8_seek_58 : decode cX8_seek 58 = .ok (.getfield 33, 3) := by decide +kernel
theorem dX8_seek_61 : decode cX8_seek 61 = .ok (.aload_n 0, 1) := by decide +kernel
theorem dX8_seek_62 : decode cX8_seek 62 = .ok (.getfield 12, 3) := by decide +kernel
theorem dX8_seek_65 : decode cX8_seek 65 = .ok (.iconst 0, 1) := by decide +kernel
theorem dX8_seek_66 : decode cX8_seek 66 = .ok (.invokevirtual 74, 3) := by decide +kernel
theorem dX8_seek_69 : decode cX8_seek 69 = .ok (.iload 6, 2) := by decide +kernel
theorem dX8_seek_71 : decode cX8_seek 71 = .ok (.ifCond .eq 10, 3) := by decide +kernel
theorem dX8_seek_74 : decode cX8_seek 74 = .ok (.aload_n 0, 1) := by decide +kernel
theorem dX8_seek_75 : decode cX8_seek 75 = .ok (.invokevirtual 79, 3) := by decide +kernel
theorem dX8_seek_78 : decode cX8_seek 78 = .ok (.ifCond .eq 7, 3) := by decide +kernel
theorem dX8_seek_81 : decode cX8_seek 81 = .ok (.aload_n 0, 1) := by decide +kernel
theorem dX8_seek_82 : decode cX8_seek 82 = .ok (.invokevirtual 83, 3) := by decide +kernel
theorem dX8_seek_85 : decode cX8_seek 85 = .ok (.iinc 6 1, 3) := by decide +kernel
theorem dX8_seek_88 : decode cX8_seek 88 = .ok (.goto (-52), 3) := by decide +kernel
theorem dX8_seek_91 : decode cX8_seek 91 = .ok (.aload_n 0, 1) := by decide +kernel
theorem dX8_seek_92 : decode cX8_seek 92 = .ok (.iload 5, 2) := by decide +kernel
theorem dX8_seek_94 : decode cX8_seek 94 = .ok (.putfield 86, 3) := by decide +kernel
theorem dX8_seek_97 : decode cX8_seek 97 = .ok (.return_, 1) := by decide +kernel
theorem dX8_choose_0 : decode cX8_choose 0 = .ok (.aload_n 0, 1) := by decide +kernel
theorem dX8_choose_1 : decode cX8_choose 1 = .ok (.getfield 18, 3) := by decide +kernel
theorem dX8_choose_4 : decode cX8_choose 4 = .ok (.iconst (-1), 1) := by decide +kernel
theorem dX8_choose_5 : decode cX8_choose 5 = .ok (.invokestatic 89, 3) := by decide +kernel
theorem dX8_choose_8 : decode cX8_choose 8 = .ok (.aload_n 0, 1) := by decide +kernel
theorem dX8_choose_9 : decode cX8_choose 9 = .ok (.invokevirtual 48, 3) := by decide +kernel
theorem dX8_choose_12 : decode cX8_choose 12 = .ok (.iconst 1, 1) := by decide +kernel
theorem dX8_choose_13 : decode cX8_choose 13 = .ok (.invokestatic 95, 3) := by decide +kernel
theorem dX8_choose_16 : decode cX8_choose 16 = .ok (.istore_n 3, 1) := by decide +kernel
theorem dX8_choose_17 : decode cX8_choose 17 = .ok (.aload_n 0, 1) := by decide +kernel
theorem dX8_choose_18 : decode cX8_choose 18 = .ok (.getfield 29, 3) := by decide +kernel
theorem dX8_choose_21 : decode cX8_choose 21 = .ok (.getfield 43, 3) := by decide +kernel
theorem dX8_choose_24 : decode cX8_choose 24 = .ok (.iconst 1, 1) := by decide +kernel
theorem dX8_choose_25 : decode cX8_choose 25 = .ok (.invokestatic 95, 3) := by decide +kernel
theorem dX8_choose_28 : decode cX8_choose 28 = .ok (.istore 4, 2) := by decide +kernel
theorem dX8_choose_30 : decode cX8_choose 30 = .ok (.iload_n 1, 1) := by decide +kernel
theorem dX8_choose_31 : decode cX8_choose 31 = .ok (.istore 5, 2) := by decide +kernel
theorem dX8_choose_33 : decode cX8_choose 33 = .ok (.iload_n 2, 1) := by decide +kernel
theorem dX8_choose_34 : decode cX8_choose 34 = .ok (.iconst 1, 1) := by decide +kernel
theorem dX8_choose_35 : decode cX8_choose 35 = .ok (.isub, 1) := by decide +kernel
theorem dX8_choose_36 : decode cX8_choose 36 = .ok (.istore 6, 2) := by decide +kernel
theorem dX8_choose_38 : decode cX8_choose 38 = .ok (.iload 6, 2) := by decide +kernel
theorem dX8_choose_40 : decode cX8_choose 40 = .ok (.ifCond .lt 50, 3) := by decide +kernel
theorem dX8_choose_43 : decode cX8_choose 43 = .ok (.iload 5, 2) := by decide +kernel
theorem dX8_choose_45 : decode cX8_choose 45 = .ok (.iload_n 3, 1) := by decide +kernel
theorem dX8_choose_46 : decode cX8_choose 46 = .ok (.irem, 1) := by decide +kernel
theorem dX8_choose_47 : decode cX8_choose 47 = .ok (.istore 7, 2) := by decide +kernel
theorem dX8_choose_49 : decode cX8_choose 49 = .ok (.iload 5, 2) := by decide +kernel
theorem dX8_choose_51 : decode cX8_choose 51 = .ok (.iload_n 3, 1) := by decide +kernel
theorem dX8_choose_52 : decode cX8_choose 52 = .ok (.idiv, 1) := by decide +kernel
theorem dX8_choose_53 : decode cX8_choose 53 = .ok (.istore 5, 2) := by decide +kernel
theorem dX8_choose_55 : decode cX8_choose 55 = .ok (.iload 7, 2) := by decide +kernel
theorem dX8_choose_57 : decode cX8_choose 57 = .ok (.ifCond .le 27, 3) := by decide +kernel
theorem dX8_choose_60 : decode cX8_choose 60 = .ok (.aload_n 0, 1) := by decide +kernel
theorem dX8_choose_61 : decode cX8_choose 61 = .ok (.getfield 18, 3) := by decide +kernel
theorem dX8_choose_64 : decode cX8_choose 64 = .ok (.iload 6, 2) := by decide +kernel
theorem dX8_choose_66 : decode cX8_choose 66 = .ok (.iconst 4, 1) := by decide +kernel
theorem dX8_choose_67 : decode cX8_choose 67 = .ok (.iload 7, 2) := by decide +kernel
theorem dX8_choose_69 : decode cX8_choose 69 = .ok (.iconst 1, 1) := by decide +kernel
theorem dX8_choose_70 : decode cX8_choose 70 = .ok (.isub, 1) := by decide +kernel
theorem dX8_choose_71 : decode cX8_choose 71 = .ok (.iload 4, 2) := by decide +kernel
theorem dX8_choose_73 : decode cX8_choose 73 = .ok (.idiv, 1) := by decide +kernel
theorem dX8_choose_74 : decode cX8_choose 74 = .ok (.imul, 1) := by decide +kernel
theorem dX8_choose_75 : decode cX8_choose 75 = .ok (.iload 7, 2) := by decide +kernel
theorem dX8_choose_77 : decode cX8_choose 77 = .ok (.iconst 1, 1) := by decide +kernel
theorem dX8_choose_78 : decode cX8_choose 78 = .ok (.isub, 1) := by decide +kernel
theorem dX8_choose_79 : decode cX8_choose 79 = .ok (.iload 4, 2) := by decide +kernel
theorem dX8_choose_81 : decode cX8_choose 81 = .ok (.irem, 1) := by decide +kernel
theorem dX8_choose_82 : decode cX8_choose 82 = .ok (.iadd, 1) := by decide +kernel
theorem dX8_choose_83 : decode cX8_choose 83 = .ok (.iastore, 1) := by decide +kernel
theorem dX8_choose_84 : decode cX8_choose 84 = .ok (.iinc 6 (-1), 3) := by decide +kernel
theorem dX8_choose_87 : decode cX8_choose 87 = .ok (.goto (-49), 3) := by decide +kernel
theorem dX8_choose_90 : decode cX8_choose 90 = .ok (.return_, 1) := by decide +kernel
theorem dX8_layTrial_0 : decode cX8_layTrial 0 = .ok (.aload_n 0, 1) := by decide +kernel
theorem dX8_layTrial_1 : decode cX8_layTrial 1 = .ok (.getfield 12, 3) := by decide +kernel
theorem dX8_layTrial_4 : decode cX8_layTrial 4 = .ok (.iload_n 1, 1) := by decide +kernel
theorem dX8_layTrial_5 : decode cX8_layTrial 5 = .ok (.invokevirtual 101, 3) := by decide +kernel
theorem dX8_layTrial_8 : decode cX8_layTrial 8 = .ok (.iconst 0, 1) := by decide +kernel
theorem dX8_layTrial_9 : decode cX8_layTrial 9 = .ok (.istore_n 3, 1) := by decide +kernel
theorem dX8_layTrial_10 : decode cX8_layTrial 10 = .ok (.iload_n 3, 1) := by decide +kernel
theorem dX8_layTrial_11 : decode cX8_layTrial 11 = .ok (.iconst 3, 1) := by decide +kernel
theorem dX8_layTrial_12 : decode cX8_layTrial 12 = .ok (.if_icmp .ge 45, 3) := by decide +kernel
theorem dX8_layTrial_15 : decode cX8_layTrial 15 = .ok (.aload_n 0, 1) := by decide +kernel
theorem dX8_layTrial_16 : decode cX8_layTrial 16 = .ok (.getfield 18, 3) := by decide +kernel
theorem dX8_layTrial_19 : decode cX8_layTrial 19 = .ok (.iload_n 3, 1) := by decide +kernel
theorem dX8_layTrial_20 : decode cX8_layTrial 20 = .ok (.iaload, 1) := by decide +kernel
theorem dX8_layTrial_21 : decode cX8_layTrial 21 = .ok (.iconst (-1), 1) := by decide +kernel
theorem dX8_layTrial_22 : decode cX8_layTrial 22 = .ok (.if_icmp .eq 29, 3) := by decide +kernel
theorem dX8_layTrial_25 : decode cX8_layTrial 25 = .ok (.aload_n 0, 1) := by decide +kernel
theorem dX8_layTrial_26 : decode cX8_layTrial 26 = .ok (.getfield 12, 3) := by decide +kernel
theorem dX8_layTrial_29 : decode cX8_layTrial 29 = .ok (.iload_n 3, 1) := by decide +kernel
theorem dX8_layTrial_30 : decode cX8_layTrial 30 = .ok (.iload_n 2, 1) := by decide +kernel
theorem dX8_layTrial_31 : decode cX8_layTrial 31 = .ok (.aload_n 0, 1) := by decide +kernel
theorem dX8_layTrial_32 : decode cX8_layTrial 32 = .ok (.getfield 18, 3) := by decide +kernel
theorem dX8_layTrial_35 : decode cX8_layTrial 35 = .ok (.iload_n 3, 1) := by decide +kernel
theorem dX8_layTrial_36 : decode cX8_layTrial 36 = .ok (.iaload, 1) := by decide +kernel
theorem dX8_layTrial_37 : decode cX8_layTrial 37 = .ok (.iconst 4, 1) := by decide +kernel
theorem dX8_layTrial_38 : decode cX8_layTrial 38 = .ok (.idiv, 1) := by decide +kernel
theorem dX8_layTrial_39 : decode cX8_layTrial 39 = .ok (.aload_n 0, 1) := by decide +kernel
theorem dX8_layTrial_40 : decode cX8_layTrial 40 = .ok (.getfield 18, 3) := by decide +kernel
theorem dX8_layTrial_43 : decode cX8_layTrial 43 = .ok (.iload_n 3, 1) := by decide +kernel
theorem dX8_layTrial_44 : decode cX8_layTrial 44 = .ok (.iaload, 1) := by decide +kernel
theorem dX8_layTrial_45 : decode cX8_layTrial 45 = .ok (.iconst 4, 1) := by decide +kernel
theorem dX8_layTrial_46 : decode cX8_layTrial 46 = .ok (.irem, 1) := by decide +kernel
theorem dX8_layTrial_47 : decode cX8_layTrial 47 = .ok (.invokevirtual 105, 3) := by decide +kernel
theorem dX8_layTrial_50 : decode cX8_layTrial 50 = .ok (.pop, 1) := by decide +kernel
theorem dX8_layTrial_51 : decode cX8_layTrial 51 = .ok (.iinc 3 1, 3) := by decide +kernel
theorem dX8_layTrial_54 : decode cX8_layTrial 54 = .ok (.goto (-44), 3) := by decide +kernel
theorem dX8_layTrial_57 : decode cX8_layTrial 57 = .ok (.return_, 1) := by decide +kernel
theorem dX8_isBetter_0 : decode cX8_isBetter 0 = .ok (.aload_n 0, 1) := by decide +kernel
theorem dX8_isBetter_1 : decode cX8_isBetter 1 = .ok (.getfield 33, 3) := by decide +kernel
theorem dX8_isBetter_4 : decode cX8_isBetter 4 = .ok (.getfield 109, 3) := by decide +kernel
theorem dX8_isBetter_7 : decode cX8_isBetter 7 = .ok (.iconst 0, 1) := by decide +kernel
theorem dX8_isBetter_8 : decode cX8_isBetter 8 = .ok (.iaload, 1) := by decide +kernel
theorem dX8_isBetter_9 : decode cX8_isBetter 9 = .ok (.istore_n 1, 1) := by decide +kernel
theorem dX8_isBetter_10 : decode cX8_isBetter 10 = .ok (.iload_n 1, 1) := by decide +kernel
theorem dX8_isBetter_11 : decode cX8_isBetter 11 = .ok (.aload_n 0, 1) := by decide +kernel
theorem dX8_isBetter_12 : decode cX8_isBetter 12 = .ok (.getfield 112, 3) := by decide +kernel
theorem dX8_isBetter_15 : decode cX8_isBetter 15 = .ok (.if_icmp .gt 27, 3) := by decide +kernel
theorem dX8_isBetter_18 : decode cX8_isBetter 18 = .ok (.iload_n 1, 1) := by decide +kernel
theorem dX8_isBetter_19 : decode cX8_isBetter 19 = .ok (.aload_n 0, 1) := by decide +kernel
theorem dX8_isBetter_20 : decode cX8_isBetter 20 = .ok (.getfield 112, 3) := by decide +kernel
theorem dX8_isBetter_23 : decode cX8_isBetter 23 = .ok (.if_icmp .ne 23, 3) := by decide +kernel
theorem dX8_isBetter_26 : decode cX8_isBetter 26 = .ok (.aload_n 0, 1) := by decide +kernel
theorem dX8_isBetter_27 : decode cX8_isBetter 27 = .ok (.getfield 33, 3) := by decide +kernel
theorem dX8_isBetter_30 : decode cX8_isBetter 30 = .ok (.getfield 109, 3) := by decide +kernel
theorem dX8_isBetter_33 : decode cX8_isBetter 33 = .ok (.iconst 1, 1) := by decide +kernel
theorem dX8_isBetter_34 : decode cX8_isBetter 34 = .ok (.iaload, 1) := by decide +kernel
theorem dX8_isBetter_35 : decode cX8_isBetter 35 = .ok (.aload_n 0, 1) := by decide +kernel
theorem dX8_isBetter_36 : decode cX8_isBetter 36 = .ok (.getfield 115, 3) := by decide +kernel
theorem dX8_isBetter_39 : decode cX8_isBetter 39 = .ok (.if_icmp .le 7, 3) := by decide +kernel
theorem dX8_isBetter_42 : decode cX8_isBetter 42 = .ok (.iconst 1, 1) := by decide +kernel
theorem dX8_isBetter_43 : decode cX8_isBetter 43 = .ok (.goto 4, 3) := by decide +kernel
theorem dX8_isBetter_46 : decode cX8_isBetter 46 = .ok (.iconst 0, 1) := by decide +kernel
theorem dX8_isBetter_47 : decode cX8_isBetter 47 = .ok (.ireturn, 1) := by decide +kernel
theorem dX8_keep_0 : decode cX8_keep 0 = .ok (.aload_n 0, 1) := by decide +kernel
theorem dX8_keep_1 : decode cX8_keep 1 = .ok (.aload_n 0, 1) := by decide +kernel
theorem dX8_keep_2 : decode cX8_keep 2 = .ok (.getfield 33, 3) := by decide +kernel
theorem dX8_keep_5 : decode cX8_keep 5 = .ok (.getfield 109, 3) := by decide +kernel
theorem dX8_keep_8 : decode cX8_keep 8 = .ok (.iconst 0, 1) := by decide +kernel
theorem dX8_keep_9 : decode cX8_keep 9 = .ok (.iaload, 1) := by decide +kernel
theorem dX8_keep_10 : decode cX8_keep 10 = .ok (.putfield 112, 3) := by decide +kernel
theorem dX8_keep_13 : decode cX8_keep 13 = .ok (.aload_n 0, 1) := by decide +kernel
theorem dX8_keep_14 : decode cX8_keep 14 = .ok (.aload_n 0, 1) := by decide +kernel
theorem dX8_keep_15 : decode cX8_keep 15 = .ok (.getfield 33, 3) := by decide +kernel
theorem dX8_keep_18 : decode cX8_keep 18 = .ok (.getfield 109, 3) := by decide +kernel
theorem dX8_keep_21 : decode cX8_keep 21 = .ok (.iconst 1, 1) := by decide +kernel
theorem dX8_keep_22 : decode cX8_keep 22 = .ok (.iaload, 1) := by decide +kernel
theorem dX8_keep_23 : decode cX8_keep 23 = .ok (.putfield 115, 3) := by decide +kernel
theorem dX8_keep_26 : decode cX8_keep 26 = .ok (.iconst 0, 1) := by decide +kernel
theorem dX8_keep_27 : decode cX8_keep 27 = .ok (.istore_n 1, 1) := by decide +kernel
theorem dX8_keep_28 : decode cX8_keep 28 = .ok (.iload_n 1, 1) := by decide +kernel
theorem dX8_keep_29 : decode cX8_keep 29 = .ok (.iconst 3, 1) := by decide +kernel
theorem dX8_keep_30 : decode cX8_keep 30 = .ok (.if_icmp .ge 21, 3) := by decide +kernel
theorem dX8_keep_33 : decode cX8_keep 33 = .ok (.aload_n 0, 1) := by decide +kernel
theorem dX8_keep_34 : decode cX8_keep 34 = .ok (.getfield 22, 3) := by decide +kernel
theorem dX8_keep_37 : decode cX8_keep 37 = .ok (.iload_n 1, 1) := by decide +kernel
theorem dX8_keep_38 : decode cX8_keep 38 = .ok (.aload_n 0, 1) := by decide +kernel
theorem dX8_keep_39 : decode cX8_keep 39 = .ok (.getfield 18, 3) := by decide +kernel
theorem dX8_keep_42 : decode cX8_keep 42 = .ok (.iload_n 1, 1) := by decide +kernel
theorem dX8_keep_43 : decode cX8_keep 43 = .ok (.iaload, 1) := by decide +kernel
theorem dX8_keep_44 : decode cX8_keep 44 = .ok (.iastore, 1) := by decide +kernel
theorem dX8_keep_45 : decode cX8_keep 45 = .ok (.iinc 1 1, 3) := by decide +kernel
theorem dX8_keep_48 : decode cX8_keep 48 = .ok (.goto (-20), 3) := by decide +kernel
theorem dX8_keep_51 : decode cX8_keep 51 = .ok (.return_, 1) := by decide +kernel
