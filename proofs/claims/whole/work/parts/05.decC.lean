theorem dX10_init_0 : decode cX10_init 0 = .ok (.aload_n 0, 1) := by decide +kernel
theorem dX10_init_1 : decode cX10_init 1 = .ok (.invokespecial 3, 3) := by decide +kernel
theorem dX10_init_4 : decode cX10_init 4 = .ok (.aload_n 0, 1) := by decide +kernel
theorem dX10_init_5 : decode cX10_init 5 = .ok (.sipush 500, 3) := by decide +kernel
theorem dX10_init_8 : decode cX10_init 8 = .ok (.newarray .byte, 2) := by decide +kernel
theorem dX10_init_10 : decode cX10_init 10 = .ok (.putfield 9, 3) := by decide +kernel
theorem dX10_init_13 : decode cX10_init 13 = .ok (.aload_n 0, 1) := by decide +kernel
theorem dX10_init_14 : decode cX10_init 14 = .ok (.iconst 4, 1) := by decide +kernel
theorem dX10_init_15 : decode cX10_init 15 = .ok (.newarray .int, 2) := by decide +kernel
theorem dX10_init_17 : decode cX10_init 17 = .ok (.putfield 13, 3) := by decide +kernel
theorem dX10_init_20 : decode cX10_init 20 = .ok (.aload_n 0, 1) := by decide +kernel
theorem dX10_init_21 : decode cX10_init 21 = .ok (.new 17, 3) := by decide +kernel
theorem dX10_init_24 : decode cX10_init 24 = .ok (.dup, 1) := by decide +kernel
theorem dX10_init_25 : decode cX10_init 25 = .ok (.invokespecial 19, 3) := by decide +kernel
theorem dX10_init_28 : decode cX10_init 28 = .ok (.putfield 20, 3) := by decide +kernel
theorem dX10_init_31 : decode cX10_init 31 = .ok (.aload_n 0, 1) := by decide +kernel
theorem dX10_init_32 : decode cX10_init 32 = .ok (.new 24, 3) := by decide +kernel
theorem dX10_init_35 : decode cX10_init 35 = .ok (.dup, 1) := by decide +kernel
theorem dX10_init_36 : decode cX10_init 36 = .ok (.invokespecial 26, 3) := by decide +kernel
theorem dX10_init_39 : decode cX10_init 39 = .ok (.putfield 27, 3) := by decide +kernel
theorem dX10_init_42 : decode cX10_init 42 = .ok (.aload_n 0, 1) := by decide +kernel
theorem dX10_init_43 : decode cX10_init 43 = .ok (.new 31, 3) := by decide +kernel
theorem dX10_init_46 : decode cX10_init 46 = .ok (.dup, 1) := by decide +kernel
theorem dX10_init_47 : decode cX10_init 47 = .ok (.invokespecial 33, 3) := by decide +kernel
theorem dX10_init_50 : decode cX10_init 50 = .ok (.putfield 34, 3) := by decide +kernel
theorem dX10_init_53 : decode cX10_init 53 = .ok (.aload_n 0, 1) := by decide +kernel
theorem dX10_init_54 : decode cX10_init 54 = .ok (.new 38, 3) := by decide +kernel
theorem dX10_init_57 : decode cX10_init 57 = .ok (.dup, 1) := by decide +kernel
theorem dX10_init_58 : decode cX10_init 58 = .ok (.invokespecial 40, 3) := by decide +kernel
theorem dX10_init_61 : decode cX10_init 61 = .ok (.putfield 41, 3) := by decide +kernel
theorem dX10_init_64 : decode cX10_init 64 = .ok (.aload_n 0, 1) := by decide +kernel
theorem dX10_init_65 : decode cX10_init 65 = .ok (.new 45, 3) := by decide +kernel
theorem dX10_init_68 : decode cX10_init 68 = .ok (.dup, 1) := by decide +kernel
theorem dX10_init_69 : decode cX10_init 69 = .ok (.aload_n 0, 1) := by decide +kernel
theorem dX10_init_70 : decode cX10_init 70 = .ok (.getfield 9, 3) := by decide +kernel
theorem dX10_init_73 : decode cX10_init 73 = .ok (.invokespecial 47, 3) := by decide +kernel
theorem dX10_init_76 : decode cX10_init 76 = .ok (.putfield 50, 3) := by decide +kernel
theorem dX10_init_79 : decode cX10_init 79 = .ok (.aload_n 0, 1) := by decide +kernel
theorem dX10_init_80 : decode cX10_init 80 = .ok (.new 54, 3) := by decide +kernel
theorem dX10_init_83 : decode cX10_init 83 = .ok (.dup, 1) := by decide +kernel
theorem dX10_init_84 : decode cX10_init 84 = .ok (.invokespecial 56, 3) := by decide +kernel
theorem dX10_init_87 : decode cX10_init 87 = .ok (.putfield 57, 3) := by decide +kernel
theorem dX10_init_90 : decode cX10_init 90 = .ok (.aload_n 0, 1) := by decide +kernel
theorem dX10_init_91 : decode cX10_init 91 = .ok (.new 61, 3) := by decide +kernel
theorem dX10_init_94 : decode cX10_init 94 = .ok (.dup, 1) := by decide +kernel
theorem dX10_init_95 : decode cX10_init 95 = .ok (.aload_n 0, 1) := by decide +kernel
theorem dX10_init_96 : decode cX10_init 96 = .ok (.getfield 20, 3) := by decide +kernel
theorem dX10_init_99 : decode cX10_init 99 = .ok (.aload_n 0, 1) := by decide +kernel
theorem dX10_init_100 : decode cX10_init 100 = .ok (.getfield 27, 3) := by decide +kernel
theorem dX10_init_103 : decode cX10_init 103 = .ok (.aload_n 0, 1) := by decide +kernel
theorem dX10_init_104 : decode cX10_init 104 = .ok (.getfield 34, 3) := by decide +kernel
theorem dX10_init_107 : decode cX10_init 107 = .ok (.aload_n 0, 1) := by decide +kernel
theorem dX10_init_108 : decode cX10_init 108 = .ok (.getfield 41, 3) := by decide +kernel
theorem dX10_init_111 : decode cX10_init 111 = .ok (.aload_n 0, 1) := by decide +kernel
theorem dX10_init_112 : decode cX10_init 112 = .ok (.getfield 13, 3) := by decide +kernel
theorem dX10_init_115 : decode cX10_init 115 = .ok (.invokespecial 63, 3) := by decide +kernel
theorem dX10_init_118 : decode cX10_init 118 = .ok (.putfield 66, 3) := by decide +kernel
theorem dX10_init_121 : decode cX10_init 121 = .ok (.aload_n 0, 1) := by decide +kernel
theorem dX10_init_122 : decode cX10_init 122 = .ok (.new 70, 3) := by decide +kernel
theorem dX10_init_125 : decode cX10_init 125 = .ok (.dup, 1) := by decide +kernel
theorem dX10_init_126 : decode cX10_init 126 = .ok (.aload_n 0, 1) := by decide +kernel
theorem dX10_init_127 : decode cX10_init 127 = .ok (.getfield 20, 3) := by decide +kernel
theorem dX10_init_130 : decode cX10_init 130 = .ok (.aload_n 0, 1) := by decide +kernel
theorem dX10_init_131 : decode cX10_init 131 = .ok (.getfield 27, 3) := by decide +kernel
theorem dX10_init_134 : decode cX10_init 134 = .ok (.aload_n 0, 1) := by decide +kernel
theorem dX10_init_135 : decode cX10_init 135 = .ok (.getfield 66, 3) := by decide +kernel
theorem dX10_init_138 : decode cX10_init 138 = .ok (.invokespecial 72, 3) := by decide +kernel
theorem dX10_init_141 : decode cX10_init 141 = .ok (.putfield 75, 3) := by decide +kernel
theorem dX10_init_144 : decode cX10_init 144 = .ok (.aload_n 0, 1) := by decide +kernel
theorem dX10_init_145 : decode cX10_init 145 = .ok (.getfield 13, 3) := by decide +kernel
theorem dX10_init_148 : decode cX10_init 148 = .ok (.iconst 1, 1) := by decide +kernel
theorem dX10_init_149 : decode cX10_init 149 = .ok (.invokestatic 79, 3) := by decide +kernel
theorem dX10_init_152 : decode cX10_init 152 = .ok (.return_, 1) := by decide +kernel
theorem dX10_feed_0 : decode cX10_feed 0 = .ok (.aload_n 0, 1) := by decide +kernel
theorem dX10_feed_1 : decode cX10_feed 1 = .ok (.getfield 85, 3) := by decide +kernel
theorem dX10_feed_4 : decode cX10_feed 4 = .ok (.bipush 20, 2) := by decide +kernel
theorem dX10_feed_6 : decode cX10_feed 6 = .ok (.iadd, 1) := by decide +kernel
theorem dX10_feed_7 : decode cX10_feed 7 = .ok (.sipush 500, 3) := by decide +kernel
theorem dX10_feed_10 : decode cX10_feed 10 = .ok (.if_icmp .le 5, 3) := by decide +kernel
theorem dX10_feed_13 : decode cX10_feed 13 = .ok (.iconst (-1), 1) := by decide +kernel
theorem dX10_feed_14 : decode cX10_feed 14 = .ok (.ireturn, 1) := by decide +kernel
theorem dX10_feed_15 : decode cX10_feed 15 = .ok (.aload_n 0, 1) := by decide +kernel
theorem dX10_feed_16 : decode cX10_feed 16 = .ok (.iload_n 1, 1) := by decide +kernel
theorem dX10_feed_17 : decode cX10_feed 17 = .ok (.invokevirtual 89, 3) := by decide +kernel
theorem dX10_feed_20 : decode cX10_feed 20 = .ok (.aload_n 0, 1) := by decide +kernel
theorem dX10_feed_21 : decode cX10_feed 21 = .ok (.iload_n 2, 1) := by decide +kernel
theorem dX10_feed_22 : decode cX10_feed 22 = .ok (.invokevirtual 89, 3) := by decide +kernel
theorem dX10_feed_25 : decode cX10_feed 25 = .ok (.aload_n 0, 1) := by decide +kernel
theorem dX10_feed_26 : decode cX10_feed 26 = .ok (.iload_n 3, 1) := by decide +kernel
theorem dX10_feed_27 : decode cX10_feed 27 = .ok (.invokevirtual 89, 3) := by decide +kernel
theorem dX10_feed_30 : decode cX10_feed 30 = .ok (.aload_n 0, 1) := by decide +kernel
theorem dX10_feed_31 : decode cX10_feed 31 = .ok (.iload 4, 2) := by decide +kernel
theorem dX10_feed_33 : decode cX10_feed 33 = .ok (.invokevirtual 89, 3) := by decide +kernel
theorem dX10_feed_36 : decode cX10_feed 36 = .ok (.aload_n 0, 1) := by decide +kernel
theorem dX10_feed_37 : decode cX10_feed 37 = .ok (.iload 5, 2) := by decide +kernel
theorem dX10_feed_39 : decode cX10_feed 39 = .ok (.invokevirtual 89, 3) := by decide +kernel
theorem dX10_feed_42 : decode cX10_feed 42 = .ok (.aload_n 0, 1) := by decide +kernel
theorem dX10_feed_43 : decode cX10_feed 43 = .ok (.getfield 85, 3) := by decide +kernel
theorem dX10_feed_46 : decode cX10_feed 46 = .ok (.ireturn, 1) := by decide +kernel
theorem dX10_putBytes_0 : decode cX10_putBytes 0 = .ok (.bipush 24, 2) := by decide +kernel
theorem dX10_putBytes_2 : decode cX10_putBytes 2 = .ok (.istore_n 2, 1) := by decide +kernel
theorem dX10_putBytes_3 : decode cX10_putBytes 3 = .ok (.iload_n 2, 1) := by decide +kernel
theorem dX10_putBytes_4 : decode cX10_putBytes 4 = .ok (.ifCond .lt 42, 3) := by decide +kernel
theorem dX10_putBytes_7 : decode cX10_putBytes 7 = .ok (.aload_n 0, 1) := by decide +kernel
theorem dX10_putBytes_8 : decode cX10_putBytes 8 = .ok (.getfield 85, 3) := by decide +kernel
theorem dX10_putBytes_11 : decode cX10_putBytes 11 = .ok (.sipush 500, 3) := by decide +kernel
theorem dX10_putBytes_14 : decode cX10_putBytes 14 = .ok (.if_icmp .ge 26, 3) := by decide +kernel
theorem dX10_putBytes_17 : decode cX10_putBytes 17 = .ok (.aload_n 0, 1) := by decide +kernel
theorem dX10_putBytes_18 : decode cX10_putBytes 18 = .ok (.getfield 9, 3) := by decide +kernel
theorem dX10_putBytes_21 : decode cX10_putBytes 21 = .ok (.aload_n 0, 1) := by decide +kernel
theorem dX10_putBytes_22 : decode cX10_putBytes 22 = .ok (.getfield 85, 3) := by decide +kernel
theorem dX10_putBytes_25 : decode cX10_putBytes 25 = .ok (.iload_n 1, 1) := by decide +kernel
theorem dX10_putBytes_26 : decode cX10_putBytes 26 = .ok (.iload_n 2, 1) := by decide +kernel
theorem dX10_putBytes_27 : decode cX10_putBytes 27 = .ok (.ishr, 1) := by decide +kernel
theorem dX10_putBytes_28 : decode cX10_putBytes 28 = .ok (.i2b, 1) := by decide +kernel
theorem dX10_putBytes_29 : decode cX10_putBytes 29 = .ok (.bastore, 1) := by decide +kernel
theorem dX10_putBytes_30 : decode cX10_putBytes 30 = .ok (.aload_n 0, 1) := by decide +kernel
theorem dX10_putBytes_31 : decode cX10_putBytes 31 = .ok (.dup, 1) := by decide +kernel
theorem dX10_putBytes_32 : decode cX10_putBytes 32 = .ok (.getfield 85, 3) := by decide +kernel
theorem dX10_putBytes_35 : decode cX10_putBytes 35 = .ok (.iconst 1, 1) := by decide +kernel
theorem dX10_putBytes_36 : decode cX10_putBytes 36 = .ok (.iadd, 1) := by decide +kernel
theorem dX10_putBytes_37 : decode cX10_putBytes 37 = .ok (.putfield 85, 3) := by decide +kernel
theorem dX10_putBytes_40 : decode cX10_putBytes 40 = .ok (.iinc 2 (-8), 3) := by decide +kernel
theorem dX10_putBytes_43 : decode cX10_putBytes 43 = .ok (.goto (-40), 3) := by decide +kernel
theorem dX10_putBytes_46 : decode cX10_putBytes 46 = .ok (.return_, 1) := by decide +kernel
theorem dX10_terms_0 : decode cX10_terms 0 = .ok (.iload_n 1, 1) := by decide +kernel
theorem dX10_terms_1 : decode cX10_terms 1 = .ok (.ifCond .lt 11, 3) := by decide +kernel
theorem dX10_terms_4 : decode cX10_terms 4 = .ok (.iload_n 1, 1) := by decide +kernel
theorem dX10_terms_5 : decode cX10_terms 5 = .ok (.aload_n 0, 1) := by decide +kernel
theorem dX10_terms_6 : decode cX10_terms 6 = .ok (.getfield 85, 3) := by decide +kernel
theorem dX10_terms_9 : decode cX10_terms 9 = .ok (.if_icmp .le 6, 3) := by decide +kernel
theorem dX10_terms_12 : decode cX10_terms 12 = .ok (.bipush (-2), 2) := by decide +kernel
theorem dX10_terms_14 : decode cX10_terms 14 = .ok (.ireturn, 1) := by decide +kernel
theorem dX10_terms_15 : decode cX10_terms 15 = .ok (.aload_n 0, 1) := by decide +kernel
theorem dX10_terms_16 : decode cX10_terms 16 = .ok (.iconst 0, 1) := by decide +kernel
theorem dX10_terms_17 : decode cX10_terms 17 = .ok (.putfield 85, 3) := by decide +kernel
theorem dX10_terms_20 : decode cX10_terms 20 = .ok (.aload_n 0, 1) := by decide +kernel
theorem dX10_terms_21 : decode cX10_terms 21 = .ok (.getfield 50, 3) := by decide +kernel
theorem dX10_terms_24 : decode cX10_terms 24 = .ok (.iload_n 1, 1) := by decide +kernel
theorem dX10_terms_25 : decode cX10_terms 25 = .ok (.invokevirtual 93, 3) := by decide +kernel
theorem dX10_terms_28 : decode cX10_terms 28 = .ok (.ifCond .ne 5, 3) := by decide +kernel
theorem dX10_terms_31 : decode cX10_terms 31 = .ok (.iconst (-1), 1) := by decide +kernel
theorem dX10_terms_32 : decode cX10_terms 32 = .ok (.ireturn, 1) := by decide +kernel
theorem dX10_terms_33 : decode cX10_terms 33 = .ok (.aload_n 0, 1) := by decide +kernel
theorem dX10_terms_34 : decode cX10_terms 34 = .ok (.getfield 41, 3) := by decide +kernel
theorem dX10_terms_37 : decode cX10_terms 37 = .ok (.aload_n 0, 1) := by decide +kernel
theorem dX10_terms_38 : decode cX10_terms 38 = .ok (.getfield 50, 3) := by decide +kernel
theorem dX10_terms_41 : decode cX10_terms 41 = .ok (.getfield 97, 3) := by decide +kernel
theorem dX10_terms_44 : decode cX10_terms 44 = .ok (.invokevirtual 100, 3) := by decide +kernel
theorem dX10_terms_47 : decode cX10_terms 47 = .ok (.aload_n 0, 1) := by decide +kernel
theorem dX10_terms_48 : decode cX10_terms 48 = .ok (.getfield 41, 3) := by decide +kernel
theorem dX10_terms_51 : decode cX10_terms 51 = .ok (.getfield 104, 3) := by decide +kernel
theorem dX10_terms_54 : decode cX10_terms 54 = .ok (.ireturn, 1) := by decide +kernel
theorem dX10_fault_0 : decode cX10_fault 0 = .ok (.iload_n 1, 1) := by decide +kernel
theorem dX10_fault_1 : decode cX10_fault 1 = .ok (.lookupswitch 43 #[(0, 27), (1, 35)], 27) := by decide +kernel
theorem dX10_fault_28 : decode cX10_fault 28 = .ok (.aload_n 0, 1) := by decide +kernel
theorem dX10_fault_29 : decode cX10_fault 29 = .ok (.getfield 50, 3) := by decide +kernel
theorem dX10_fault_32 : decode cX10_fault 32 = .ok (.getfield 107, 3) := by decide +kernel
theorem dX10_fault_35 : decode cX10_fault 35 = .ok (.ireturn, 1) := by decide +kernel
theorem dX10_fault_36 : decode cX10_fault 36 = .ok (.aload_n 0, 1) := by decide +kernel
theorem dX10_fault_37 : decode cX10_fault 37 = .ok (.getfield 50, 3) := by decide +kernel
theorem dX10_fault_40 : decode cX10_fault 40 = .ok (.getfield 110, 3) := by decide +kernel
theorem dX10_fault_43 : decode cX10_fault 43 = .ok (.ireturn, 1) := by decide +kernel
theorem dX10_fault_44 : decode cX10_fault 44 = .ok (.iconst (-1), 1) := by decide +kernel
theorem dX10_fault_45 : decode cX10_fault 45 = .ok (.ireturn, 1) := by decide +kernel
theorem dX10_village_0 : decode cX10_village 0 = .ok (.iload_n 1, 1) := by decide +kernel
theorem dX10_village_1 : decode cX10_village 1 = .ok (.iconst 1, 1) := by decide +kernel
theorem dX10_village_2 : decode cX10_village 2 = .ok (.sipush 999, 3) := by decide +kernel
theorem dX10_village_5 : decode cX10_village 5 = .ok (.invokestatic 113, 3) := by decide +kernel
theorem dX10_village_8 : decode cX10_village 8 = .ok (.ifCond .eq 39, 3) := by decide +kernel
theorem dX10_village_11 : decode cX10_village 11 = .ok (.iload_n 2, 1) := by decide +kernel
theorem dX10_village_12 : decode cX10_village 12 = .ok (.iconst 1, 1) := by decide +kernel
theorem dX10_village_13 : decode cX10_village 13 = .ok (.sipush 500, 3) := by decide +kernel
theorem dX10_village_16 : decode cX10_village 16 = .ok (.invokestatic 113, 3) := by decide +kernel
theorem dX10_village_19 : decode cX10_village 19 = .ok (.ifCond .eq 28, 3) := by decide +kernel
theorem dX10_village_22 : decode cX10_village 22 = .ok (.iload_n 3, 1) := by decide +kernel
theorem dX10_village_23 : decode cX10_village 23 = .ok (.iconst 0, 1) := by decide +kernel
theorem dX10_village_24 : decode cX10_village 24 = .ok (.bipush 9, 2) := by decide +kernel
theorem dX10_village_26 : decode cX10_village 26 = .ok (.invokestatic 113, 3) := by decide +kernel
theorem dX10_village_29 : decode cX10_village 29 = .ok (.ifCond .eq 18, 3) := by decide +kernel
theorem dX10_village_32 : decode cX10_village 32 = .ok (.iload 4, 2) := by decide +kernel
theorem dX10_village_34 : decode cX10_village 34 = .ok (.iconst 0, 1) := by decide +kernel
theorem dX10_village_35 : decode cX10_village 35 = .ok (.bipush 100, 2) := by decide +kernel
theorem dX10_village_37 : decode cX10_village 37 = .ok (.invokestatic 113, 3) := by decide +kernel
theorem dX10_village_40 : decode cX10_village 40 = .ok (.ifCond .eq 7, 3) := by decide +kernel
theorem dX10_village_43 : decode cX10_village 43 = .ok (.iconst 1, 1) := by decide +kernel
theorem dX10_village_44 : decode cX10_village 44 = .ok (.goto 4, 3) := by decide +kernel
theorem dX10_village_47 : decode cX10_village 47 = .ok (.iconst 0, 1) := by decide +kernel
theorem dX10_village_48 : decode cX10_village 48 = .ok (.istore 5, 2) := by decide +kernel
theorem dX10_village_50 : decode cX10_village 50 = .ok (.iload 5, 2) := by decide +kernel
theorem dX10_village_52 : decode cX10_village 52 = .ok (.ifCond .eq 15, 3) := by decide +kernel
theorem dX10_village_55 : decode cX10_village 55 = .ok (.aload_n 0, 1) := by decide +kernel
theorem dX10_village_56 : decode cX10_village 56 = .ok (.getfield 20, 3) := by decide +kernel
theorem dX10_village_59 : decode cX10_village 59 = .ok (.getfield 117, 3) := by decide +kernel
theorem dX10_village_62 : decode cX10_village 62 = .ok (.bipush 8, 2) := by decide +kernel
theorem dX10_village_64 : decode cX10_village 64 = .ok (.if_icmp .lt 5, 3) := by decide +kernel
theorem dX10_village_67 : decode cX10_village 67 = .ok (.iconst (-1), 1) := by decide +kernel
theorem dX10_village_68 : decode cX10_village 68 = .ok (.ireturn, 1) := by decide +kernel
theorem dX10_village_69 : decode cX10_village 69 = .ok (.aload_n 0, 1) := by decide +kernel
theorem dX10_village_70 : decode cX10_village 70 = .ok (.getfield 20, 3) := by decide +kernel
theorem dX10_village_73 : decode cX10_village 73 = .ok (.iload_n 1, 1) := by decide +kernel
theorem dX10_village_74 : decode cX10_village 74 = .ok (.iload_n 2, 1) := by decide +kernel
theorem dX10_village_75 : decode cX10_village 75 = .ok (.iload_n 3, 1) := by decide +kernel
theorem dX10_village_76 : decode cX10_village 76 = .ok (.iload 4, 2) := by decide +kernel
theorem dX10_village_78 : decode cX10_village 78 = .ok (.invokevirtual 120, 3) := by decide +kernel
theorem dX10_village_81 : decode cX10_village 81 = .ok (.ireturn, 1) := by decide +kernel
theorem dX10_like_0 : decode cX10_like 0 = .ok (.aload_n 0, 1) := by decide +kernel
theorem dX10_like_1 : decode cX10_like 1 = .ok (.getfield 20, 3) := by decide +kernel
theorem dX10_like_4 : decode cX10_like 4 = .ok (.iload_n 1, 1) := by decide +kernel
theorem dX10_like_5 : decode cX10_like 5 = .ok (.invokevirtual 124, 3) := by decide +kernel
theorem dX10_like_8 : decode cX10_like 8 = .ok (.ifCond .eq 22, 3) := by decide +kernel
theorem dX10_like_11 : decode cX10_like 11 = .ok (.iload_n 2, 1) := by decide +kernel
theorem dX10_like_12 : decode cX10_like 12 = .ok (.iconst 0, 1) := by decide +kernel
theorem dX10_like_13 : decode cX10_like 13 = .ok (.iconst 3, 1) := by decide +kernel
theorem dX10_like_14 : decode cX10_like 14 = .ok (.invokestatic 113, 3) := by decide +kernel
theorem dX10_like_17 : decode cX10_like 17 = .ok (.ifCond .eq 13, 3) := by decide +kernel
theorem dX10_like_20 : decode cX10_like 20 = .ok (.iload_n 3, 1) := by decide +kernel
theorem dX10_like_21 : decode cX10_like 21 = .ok (.iconst 0, 1) := by decide +kernel
theorem dX10_like_22 : decode cX10_like 22 = .ok (.bipush 100, 2) := by decide +kernel
theorem dX10_like_24 : decode cX10_like 24 = .ok (.invokestatic 113, 3) := by decide +kernel
theorem dX10_like_27 : decode cX10_like 27 = .ok (.ifCond .ne 5, 3) := by decide +kernel
theorem dX10_like_30 : decode cX10_like 30 = .ok (.iconst 0, 1) := by decide +kernel
theorem dX10_like_31 : decode cX10_like 31 = .ok (.ireturn, 1) := by decide +kernel
theorem dX10_like_32 : decode cX10_like 32 = .ok (.aload_n 0, 1) := by decide +kernel
theorem dX10_like_33 : decode cX10_like 33 = .ok (.getfield 20, 3) := by decide +kernel
theorem dX10_like_36 : decode cX10_like 36 = .ok (.getfield 127, 3) := by decide +kernel
theorem dX10_like_39 : decode cX10_like 39 = .ok (.iload_n 1, 1) := by decide +kernel
theorem dX10_like_40 : decode cX10_like 40 = .ok (.aaload, 1) := by decide +kernel
theorem dX10_like_41 : decode cX10_like 41 = .ok (.iconst 4, 1) := by decide +kernel
theorem dX10_like_42 : decode cX10_like 42 = .ok (.iload_n 2, 1) := by decide +kernel
theorem dX10_like_43 : decode cX10_like 43 = .ok (.iadd, 1) := by decide +kernel
theorem dX10_like_44 : decode cX10_like 44 = .ok (.iload_n 3, 1) := by decide +kernel
theorem dX10_like_45 : decode cX10_like 45 = .ok (.iastore, 1) := by decide +kernel
theorem dX10_like_46 : decode cX10_like 46 = .ok (.iconst 1, 1) := by decide +kernel
theorem dX10_like_47 : decode cX10_like 47 = .ok (.ireturn, 1) := by decide +kernel
theorem dX10_road_0 : decode cX10_road 0 = .ok (.aload_n 0, 1) := by decide +kernel
theorem dX10_road_1 : decode cX10_road 1 = .ok (.getfield 20, 3) := by decide +kernel
theorem dX10_road_4 : decode cX10_road 4 = .ok (.iload_n 1, 1) := by decide +kernel
theorem dX10_road_5 : decode cX10_road 5 = .ok (.invokevirtual 124, 3) := by decide +kernel
theorem dX10_road_8 : decode cX10_road 8 = .ok (.ifCond .eq 45, 3) := by decide +kernel
theorem dX10_road_11 : decode cX10_road 11 = .ok (.aload_n 0, 1) := by decide +kernel
theorem dX10_road_12 : decode cX10_road 12 = .ok (.getfield 20, 3) := by decide +kernel
theorem dX10_road_15 : decode cX10_road 15 = .ok (.iload_n 2, 1) := by decide +kernel
theorem dX10_road_16 : decode cX10_road 16 = .ok (.invokevirtual 124, 3) := by decide +kernel
theorem dX10_road_19 : decode cX10_road 19 = .ok (.ifCond .eq 34, 3) := by decide +kernel
theorem dX10_road_22 : decode cX10_road 22 = .ok (.iload_n 1, 1) := by decide +kernel
theorem dX10_road_23 : decode cX10_road 23 = .ok (.iload_n 2, 1) := by decide +kernel
theorem dX10_road_24 : decode cX10_road 24 = .ok (.if_icmp .eq 29, 3) := by decide +kernel
theorem dX10_road_27 : decode cX10_road 27 = .ok (.iload_n 3, 1) := by decide +kernel
theorem dX10_road_28 : decode cX10_road 28 = .ok (.iconst 1, 1) := by decide +kernel
theorem dX10_road_29 : decode cX10_road 29 = .ok (.sipush 600, 3) := by decide +kernel
theorem dX10_road_32 : decode cX10_road 32 = .ok (.invokestatic 113, 3) := by decide +kernel
theorem dX10_road_35 : decode cX10_road 35 = .ok (.ifCond .eq 18, 3) := by decide +kernel
theorem dX10_road_38 : decode cX10_road 38 = .ok (.iload 4, 2) := by decide +kernel
theorem dX10_road_40 : decode cX10_road 40 = .ok (.iconst 0, 1) := by decide +kernel
theorem dX10_road_41 : decode cX10_road 41 = .ok (.bipush 15, 2) := by decide +kernel
theorem dX10_road_43 : decode cX10_road 43 = .ok (.invokestatic 113, 3) := by decide +kernel
theorem dX10_road_46 : decode cX10_road 46 = .ok (.ifCond .eq 7, 3) := by decide +kernel
theorem dX10_road_49 : decode cX10_road 49 = .ok (.iconst 1, 1) := by decide +kernel
theorem dX10_road_50 : decode cX10_road 50 = .ok (.goto 4, 3) := by decide +kernel
theorem dX10_road_53 : decode cX10_road 53 = .ok (.iconst 0, 1) := by decide +kernel
theorem dX10_road_54 : decode cX10_road 54 = .ok (.istore 5, 2) := by decide +kernel
theorem dX10_road_56 : decode cX10_road 56 = .ok (.iload 5, 2) := by decide +kernel
theorem dX10_road_58 : decode cX10_road 58 = .ok (.ifCond .eq 31, 3) := by decide +kernel
theorem dX10_road_61 : decode cX10_road 61 = .ok (.aload_n 0, 1) := by decide +kernel
theorem dX10_road_62 : decode cX10_road 62 = .ok (.getfield 20, 3) := by decide +kernel
theorem dX10_road_65 : decode cX10_road 65 = .ok (.getfield 131, 3) := by decide +kernel
theorem dX10_road_68 : decode cX10_road 68 = .ok (.bipush 14, 2) := by decide +kernel
theorem dX10_road_70 : decode cX10_road 70 = .ok (.if_icmp .ge 19, 3) := by decide +kernel
theorem dX10_road_73 : decode cX10_road 73 = .ok (.iload 4, 2) := by decide +kernel
theorem dX10_road_75 : decode cX10_road 75 = .ok (.ifCond .le 16, 3) := by decide +kernel
theorem dX10_road_78 : decode cX10_road 78 = .ok (.aload_n 0, 1) := by decide +kernel
theorem dX10_road_79 : decode cX10_road 79 = .ok (.getfield 20, 3) := by decide +kernel
theorem dX10_road_82 : decode cX10_road 82 = .ok (.getfield 134, 3) := by decide +kernel
theorem dX10_road_85 : decode cX10_road 85 = .ok (.iconst 2, 1) := by decide +kernel
theorem dX10_road_86 : decode cX10_road 86 = .ok (.if_icmp .lt 5, 3) := by decide +kernel
theorem dX10_road_89 : decode cX10_road 89 = .ok (.iconst (-1), 1) := by decide +kernel
theorem dX10_road_90 : decode cX10_road 90 = .ok (.ireturn, 1) := by decide +kernel
theorem dX10_road_91 : decode cX10_road 91 = .ok (.aload_n 0, 1) := by decide +kernel
theorem dX10_road_92 : decode cX10_road 92 = .ok (.getfield 20, 3) := by decide +kernel
theorem dX10_road_95 : decode cX10_road 95 = .ok (.iload_n 1, 1) := by decide +kernel
theorem dX10_road_96 : decode cX10_road 96 = .ok (.iload_n 2, 1) := by decide +kernel
theorem dX10_road_97 : decode cX10_road 97 = .ok (.iload_n 3, 1) := by decide +kernel
theorem dX10_road_98 : decode cX10_road 98 = .ok (.iload 4, 2) := by decide +kernel
theorem dX10_road_100 : decode cX10_road 100 = .ok (.invokevirtual 137, 3) := by decide +kernel
theorem dX10_road_103 : decode cX10_road 103 = .ok (.ireturn, 1) := by decide +kernel
theorem dX10_van_0 : decode cX10_van 0 = .ok (.aload_n 0, 1) := by decide +kernel
theorem dX10_van_1 : decode cX10_van 1 = .ok (.getfield 20, 3) := by decide +kernel
theorem dX10_van_4 : decode cX10_van 4 = .ok (.iload_n 1, 1) := by decide +kernel
theorem dX10_van_5 : decode cX10_van 5 = .ok (.invokevirtual 124, 3) := by decide +kernel
theorem dX10_van_8 : decode cX10_van 8 = .ok (.ifCond .eq 14, 3) := by decide +kernel
theorem dX10_van_11 : decode cX10_van 11 = .ok (.aload_n 0, 1) := by decide +kernel
theorem dX10_van_12 : decode cX10_van 12 = .ok (.getfield 27, 3) := by decide +kernel
theorem dX10_van_15 : decode cX10_van 15 = .ok (.getfield 140, 3) := by decide +kernel
theorem dX10_van_18 : decode cX10_van 18 = .ok (.iconst 3, 1) := by decide +kernel
theorem dX10_van_19 : decode cX10_van 19 = .ok (.if_icmp .lt 5, 3) := by decide +kernel
theorem dX10_van_22 : decode cX10_van 22 = .ok (.iconst (-1), 1) := by decide +kernel
theorem dX10_van_23 : decode cX10_van 23 = .ok (.ireturn, 1) := by decide +kernel
theorem dX10_van_24 : decode cX10_van 24 = .ok (.aload_n 0, 1) := by decide +kernel
theorem dX10_van_25 : decode cX10_van 25 = .ok (.getfield 27, 3) := by decide +kernel
theorem dX10_van_28 : decode cX10_van 28 = .ok (.iload_n 1, 1) := by decide +kernel
theorem dX10_van_29 : decode cX10_van 29 = .ok (.invokevirtual 143, 3) := by decide +kernel
theorem dX10_van_32 : decode cX10_van 32 = .ok (.ireturn, 1) := by decide +kernel
theorem dX10_broken_0 : decode cX10_broken 0 = .ok (.aload_n 0, 1) := by decide +kernel
theorem dX10_broken_1 : decode cX10_broken 1 = .ok (.getfield 27, 3) := by decide +kernel
theorem dX10_broken_4 : decode cX10_broken 4 = .ok (.iload_n 1, 1) := by decide +kernel
theorem dX10_broken_5 : decode cX10_broken 5 = .ok (.invokevirtual 147, 3) := by decide +kernel
theorem dX10_broken_8 : decode cX10_broken 8 = .ok (.ifCond .eq 13, 3) := by decide +kernel
theorem dX10_broken_11 : decode cX10_broken 11 = .ok (.iload_n 2, 1) := by decide +kernel
theorem dX10_broken_12 : decode cX10_broken 12 = .ok (.iconst 0, 1) := by decide +kernel
theorem dX10_broken_13 : decode cX10_broken 13 = .ok (.bipush 15, 2) := by decide +kernel
theorem dX10_broken_15 : decode cX10_broken 15 = .ok (.invokestatic 113, 3) := by decide +kernel
theorem dX10_broken_18 : decode cX10_broken 18 = .ok (.ifCond .ne 5, 3) := by decide +kernel
theorem dX10_broken_21 : decode cX10_broken 21 = .ok (.iconst 0, 1) := by decide +kernel
theorem dX10_broken_22 : decode cX10_broken 22 = .ok (.ireturn, 1) := by decide +kernel
theorem dX10_broken_23 : decode cX10_broken 23 = .ok (.aload_n 0, 1) := by decide +kernel
theorem dX10_broken_24 : decode cX10_broken 24 = .ok (.getfield 27, 3) := by decide +kernel
theorem dX10_broken_27 : decode cX10_broken 27 = .ok (.getfield 150, 3) := by decide +kernel
theorem dX10_broken_30 : decode cX10_broken 30 = .ok (.iload_n 1, 1) := by decide +kernel
theorem dX10_broken_31 : decode cX10_broken 31 = .ok (.iload_n 2, 1) := by decide +kernel
theorem dX10_broken_32 : decode cX10_broken 32 = .ok (.iastore, 1) := by decide +kernel
theorem dX10_broken_33 : decode cX10_broken 33 = .ok (.iconst 1, 1) := by decide +kernel
theorem dX10_broken_34 : decode cX10_broken 34 = .ok (.ireturn, 1) := by decide +kernel
theorem dX10_print_0 : decode cX10_print 0 = .ok (.iload_n 1, 1) := by decide +kernel
theorem dX10_print_1 : decode cX10_print 1 = .ok (.iconst 0, 1) := by decide +kernel
theorem dX10_print_2 : decode cX10_print 2 = .ok (.iconst 3, 1) := by decide +kernel
theorem dX10_print_3 : decode cX10_print 3 = .ok (.invokestatic 113, 3) := by decide +kernel
theorem dX10_print_6 : decode cX10_print 6 = .ok (.ifCond .eq 75, 3) := by decide +kernel
theorem dX10_print_9 : decode cX10_print 9 = .ok (.iload_n 2, 1) := by decide +kernel
theorem dX10_print_10 : decode cX10_print 10 = .ok (.iconst 0, 1) := by decide +kernel
theorem dX10_print_11 : decode cX10_print 11 = .ok (.bipush 18, 2) := by decide +kernel
theorem dX10_print_13 : decode cX10_print 13 = .ok (.invokestatic 113, 3) := by decide +kernel
theorem dX10_print_16 : decode cX10_print 16 = .ok (.ifCond .eq 65, 3) := by decide +kernel
theorem dX10_print_19 : decode cX10_print 19 = .ok (.iload_n 3, 1) := by decide +kernel
theorem dX10_print_20 : decode cX10_print 20 = .ok (.bipush 10, 2) := by decide +kernel
theorem dX10_print_22 : decode cX10_print 22 = .ok (.sipush 240, 3) := by decide +kernel
theorem dX10_print_25 : decode cX10_print 25 = .ok (.invokestatic 113, 3) := by decide +kernel
theorem dX10_print_28 : decode cX10_print 28 = .ok (.ifCond .eq 53, 3) := by decide +kernel
theorem dX10_print_31 : decode cX10_print 31 = .ok (.aload_n 0, 1) := by decide +kernel
theorem dX10_print_32 : decode cX10_print 32 = .ok (.getfield 27, 3) := by decide +kernel
theorem dX10_print_35 : decode cX10_print 35 = .ok (.iload 4, 2) := by decide +kernel
theorem dX10_print_37 : decode cX10_print 37 = .ok (.invokevirtual 147, 3) := by decide +kernel
theorem dX10_print_40 : decode cX10_print 40 = .ok (.ifCond .eq 41, 3) := by decide +kernel
theorem dX10_print_43 : decode cX10_print 43 = .ok (.aload_n 0, 1) := by decide +kernel
theorem dX10_print_44 : decode cX10_print 44 = .ok (.getfield 20, 3) := by decide +kernel
theorem dX10_print_47 : decode cX10_print 47 = .ok (.iload 5, 2) := by decide +kernel
theorem dX10_print_49 : decode cX10_print 49 = .ok (.invokevirtual 124, 3) := by decide +kernel
theorem dX10_print_52 : decode cX10_print 52 = .ok (.ifCond .eq 29, 3) := by decide +kernel
theorem dX10_print_55 : decode cX10_print 55 = .ok (.iload 6, 2) := by decide +kernel
theorem dX10_print_57 : decode cX10_print 57 = .ok (.iconst 0, 1) := by decide +kernel
theorem dX10_print_58 : decode cX10_print 58 = .ok (.iconst 4, 1) := by decide +kernel
theorem dX10_print_59 : decode cX10_print 59 = .ok (.invokestatic 113, 3) := by decide +kernel
theorem dX10_print_62 : decode cX10_print 62 = .ok (.ifCond .eq 19, 3) := by decide +kernel
theorem dX10_print_65 : decode cX10_print 65 = .ok (.iload 7, 2) := by decide +kernel
theorem dX10_print_67 : decode cX10_print 67 = .ok (.iconst 0, 1) := by decide +kernel
theorem dX10_print_68 : decode cX10_print 68 = .ok (.sipush 999, 3) := by decide +kernel
theorem dX10_print_71 : decode cX10_print 71 = .ok (.invokestatic 113, 3) := by decide +kernel
theorem dX10_print_74 : decode cX10_print 74 = .ok (.ifCond .eq 7, 3) := by decide +kernel
theorem dX10_print_77 : decode cX10_print 77 = .ok (.iconst 1, 1) := by decide +kernel
theorem dX10_print_78 : decode cX10_print 78 = .ok (.goto 4, 3) := by decide +kernel
theorem dX10_print_81 : decode cX10_print 81 = .ok (.iconst 0, 1) := by decide +kernel
theorem dX10_print_82 : decode cX10_print 82 = .ok (.istore 8, 2) := by decide +kernel
theorem dX10_print_84 : decode cX10_print 84 = .ok (.iload 8, 2) := by decide +kernel
theorem dX10_print_86 : decode cX10_print 86 = .ok (.ifCond .eq 14, 3) := by decide +kernel
theorem dX10_print_89 : decode cX10_print 89 = .ok (.aload_n 0, 1) := by decide +kernel
theorem dX10_print_90 : decode cX10_print 90 = .ok (.getfield 27, 3) := by decide +kernel
theorem dX10_print_93 : decode cX10_print 93 = .ok (.getfield 153, 3) := by decide +kernel
theorem dX10_print_96 : decode cX10_print 96 = .ok (.iconst 4, 1) := by decide +kernel
theorem dX10_print_97 : decode cX10_print 97 = .ok (.if_icmp .lt 5, 3) := by decide +kernel
theorem dX10_print_100 : decode cX10_print 100 = .ok (.iconst (-1), 1) := by decide +kernel
theorem dX10_print_101 : decode cX10_print 101 = .ok (.ireturn, 1) := by decide +kernel
theorem dX10_print_102 : decode cX10_print 102 = .ok (.aload_n 0, 1) := by decide +kernel
theorem dX10_print_103 : decode cX10_print 103 = .ok (.getfield 27, 3) := by decide +kernel
theorem dX10_print_106 : decode cX10_print 106 = .ok (.iload_n 1, 1) := by decide +kernel
theorem dX10_print_107 : decode cX10_print 107 = .ok (.iload_n 2, 1) := by decide +kernel
theorem dX10_print_108 : decode cX10_print 108 = .ok (.iload_n 3, 1) := by decide +kernel
theorem dX10_print_109 : decode cX10_print 109 = .ok (.iload 4, 2) := by decide +kernel
theorem dX10_print_111 : decode cX10_print 111 = .ok (.iload 5, 2) := by decide +kernel
theorem dX10_print_113 : decode cX10_print 113 = .ok (.iload 6, 2) := by decide +kernel
theorem dX10_print_115 : decode cX10_print 115 = .ok (.iload 7, 2) := by decide +kernel
theorem dX10_print_117 : decode cX10_print 117 = .ok (.invokevirtual 156, 3) := by decide +kernel
theorem dX10_print_120 : decode cX10_print 120 = .ok (.ireturn, 1) := by decide +kernel
theorem dX10_egg_0 : decode cX10_egg 0 = .ok (.iload_n 1, 1) := by decide +kernel
theorem dX10_egg_1 : decode cX10_egg 1 = .ok (.invokestatic 160, 3) := by decide +kernel
theorem dX10_egg_4 : decode cX10_egg 4 = .ok (.ifCond .eq 13, 3) := by decide +kernel
theorem dX10_egg_7 : decode cX10_egg 7 = .ok (.iload_n 2, 1) := by decide +kernel
theorem dX10_egg_8 : decode cX10_egg 8 = .ok (.iconst 1, 1) := by decide +kernel
theorem dX10_egg_9 : decode cX10_egg 9 = .ok (.bipush 99, 2) := by decide +kernel
theorem dX10_egg_11 : decode cX10_egg 11 = .ok (.invokestatic 113, 3) := by decide +kernel
theorem dX10_egg_14 : decode cX10_egg 14 = .ok (.ifCond .ne 5, 3) := by decide +kernel
theorem dX10_egg_17 : decode cX10_egg 17 = .ok (.iconst 0, 1) := by decide +kernel
theorem dX10_egg_18 : decode cX10_egg 18 = .ok (.ireturn, 1) := by decide +kernel
theorem dX10_egg_19 : decode cX10_egg 19 = .ok (.aload_n 0, 1) := by decide +kernel
theorem dX10_egg_20 : decode cX10_egg 20 = .ok (.getfield 13, 3) := by decide +kernel
theorem dX10_egg_23 : decode cX10_egg 23 = .ok (.iload_n 1, 1) := by decide +kernel
theorem dX10_egg_24 : decode cX10_egg 24 = .ok (.iload_n 2, 1) := by decide +kernel
theorem dX10_egg_25 : decode cX10_egg 25 = .ok (.iastore, 1) := by decide +kernel
theorem dX10_egg_26 : decode cX10_egg 26 = .ok (.iconst 1, 1) := by decide +kernel
theorem dX10_egg_27 : decode cX10_egg 27 = .ok (.ireturn, 1) := by decide +kernel
theorem dX10_way_0 : decode cX10_way 0 = .ok (.aload_n 0, 1) := by decide +kernel
theorem dX10_way_1 : decode cX10_way 1 = .ok (.getfield 20, 3) := by decide +kernel
theorem dX10_way_4 : decode cX10_way 4 = .ok (.iload_n 1, 1) := by decide +kernel
theorem dX10_way_5 : decode cX10_way 5 = .ok (.invokevirtual 124, 3) := by decide +kernel
theorem dX10_way_8 : decode cX10_way 8 = .ok (.ifCond .eq 23, 3) := by decide +kernel
theorem dX10_way_11 : decode cX10_way 11 = .ok (.aload_n 0, 1) := by decide +kernel
theorem dX10_way_12 : decode cX10_way 12 = .ok (.getfield 20, 3) := by decide +kernel
theorem dX10_way_15 : decode cX10_way 15 = .ok (.iload_n 2, 1) := by decide +kernel
theorem dX10_way_16 : decode cX10_way 16 = .ok (.invokevirtual 124, 3) := by decide +kernel
theorem dX10_way_19 : decode cX10_way 19 = .ok (.ifCond .eq 12, 3) := by decide +kernel
theorem dX10_way_22 : decode cX10_way 22 = .ok (.iload_n 3, 1) := by decide +kernel
theorem dX10_way_23 : decode cX10_way 23 = .ok (.iconst 0, 1) := by decide +kernel
theorem dX10_way_24 : decode cX10_way 24 = .ok (.iconst 3, 1) := by decide +kernel
theorem dX10_way_25 : decode cX10_way 25 = .ok (.invokestatic 113, 3) := by decide +kernel
theorem dX10_way_28 : decode cX10_way 28 = .ok (.ifCond .ne 5, 3) := by decide +kernel
theorem dX10_way_31 : decode cX10_way 31 = .ok (.iconst (-1), 1) := by decide +kernel
theorem dX10_way_32 : decode cX10_way 32 = .ok (.ireturn, 1) := by decide +kernel
theorem dX10_way_33 : decode cX10_way 33 = .ok (.aload_n 0, 1) := by decide +kernel
theorem dX10_way_34 : decode cX10_way 34 = .ok (.getfield 20, 3) := by decide +kernel
theorem dX10_way_37 : decode cX10_way 37 = .ok (.iload_n 1, 1) := by decide +kernel
theorem dX10_way_38 : decode cX10_way 38 = .ok (.iload_n 2, 1) := by decide +kernel
theorem dX10_way_39 : decode cX10_way 39 = .ok (.iload_n 3, 1) := by decide +kernel
theorem dX10_way_40 : decode cX10_way 40 = .ok (.invokevirtual 163, 3) := by decide +kernel
theorem dX10_way_43 : decode cX10_way 43 = .ok (.ireturn, 1) := by decide +kernel
theorem dX10_entry_0 : decode cX10_entry 0 = .ok (.iload_n 1, 1) := by decide +kernel
theorem dX10_entry_1 : decode cX10_entry 1 = .ok (.invokestatic 160, 3) := by decide +kernel
theorem dX10_entry_4 : decode cX10_entry 4 = .ok (.ifCond .eq 41, 3) := by decide +kernel
theorem dX10_entry_7 : decode cX10_entry 7 = .ok (.aload_n 0, 1) := by decide +kernel
theorem dX10_entry_8 : decode cX10_entry 8 = .ok (.getfield 27, 3) := by decide +kernel
theorem dX10_entry_11 : decode cX10_entry 11 = .ok (.iload_n 2, 1) := by decide +kernel
theorem dX10_entry_12 : decode cX10_entry 12 = .ok (.invokevirtual 147, 3) := by decide +kernel
theorem dX10_entry_15 : decode cX10_entry 15 = .ok (.ifCond .eq 30, 3) := by decide +kernel
theorem dX10_entry_18 : decode cX10_entry 18 = .ok (.aload_n 0, 1) := by decide +kernel
theorem dX10_entry_19 : decode cX10_entry 19 = .ok (.getfield 20, 3) := by decide +kernel
theorem dX10_entry_22 : decode cX10_entry 22 = .ok (.iload_n 3, 1) := by decide +kernel
theorem dX10_entry_23 : decode cX10_entry 23 = .ok (.invokevirtual 124, 3) := by decide +kernel
theorem dX10_entry_26 : decode cX10_entry 26 = .ok (.ifCond .eq 19, 3) := by decide +kernel
theorem dX10_entry_29 : decode cX10_entry 29 = .ok (.aload_n 0, 1) := by decide +kernel
theorem dX10_entry_30 : decode cX10_entry 30 = .ok (.getfield 27, 3) := by decide +kernel
theorem dX10_entry_33 : decode cX10_entry 33 = .ok (.iload 4, 2) := by decide +kernel
theorem dX10_entry_35 : decode cX10_entry 35 = .ok (.invokevirtual 167, 3) := by decide +kernel
theorem dX10_entry_38 : decode cX10_entry 38 = .ok (.ifCond .eq 7, 3) := by decide +kernel
theorem dX10_entry_41 : decode cX10_entry 41 = .ok (.iconst 1, 1) := by decide +kernel
theorem dX10_entry_42 : decode cX10_entry 42 = .ok (.goto 4, 3) := by decide +kernel
theorem dX10_entry_45 : decode cX10_entry 45 = .ok (.iconst 0, 1) := by decide +kernel
theorem dX10_entry_46 : decode cX10_entry 46 = .ok (.istore 5, 2) := by decide +kernel
theorem dX10_entry_48 : decode cX10_entry 48 = .ok (.iload 5, 2) := by decide +kernel
theorem dX10_entry_50 : decode cX10_entry 50 = .ok (.ifCond .eq 15, 3) := by decide +kernel
theorem dX10_entry_53 : decode cX10_entry 53 = .ok (.aload_n 0, 1) := by decide +kernel
theorem dX10_entry_54 : decode cX10_entry 54 = .ok (.getfield 34, 3) := by decide +kernel
theorem dX10_entry_57 : decode cX10_entry 57 = .ok (.getfield 170, 3) := by decide +kernel
theorem dX10_entry_60 : decode cX10_entry 60 = .ok (.bipush 24, 2) := by decide +kernel
theorem dX10_entry_62 : decode cX10_entry 62 = .ok (.if_icmp .lt 5, 3) := by decide +kernel
theorem dX10_entry_65 : decode cX10_entry 65 = .ok (.iconst (-1), 1) := by decide +kernel
theorem dX10_entry_66 : decode cX10_entry 66 = .ok (.ireturn, 1) := by decide +kernel
theorem dX10_entry_67 : decode cX10_entry 67 = .ok (.aload_n 0, 1) := by decide +kernel
theorem dX10_entry_68 : decode cX10_entry 68 = .ok (.getfield 34, 3) := by decide +kernel
theorem dX10_entry_71 : decode cX10_entry 71 = .ok (.iload_n 1, 1) := by decide +kernel
theorem dX10_entry_72 : decode cX10_entry 72 = .ok (.iload_n 2, 1) := by decide +kernel
theorem dX10_entry_73 : decode cX10_entry 73 = .ok (.iload_n 3, 1) := by decide +kernel
theorem dX10_entry_74 : decode cX10_entry 74 = .ok (.iload 4, 2) := by decide +kernel
theorem dX10_entry_76 : decode cX10_entry 76 = .ok (.invokevirtual 173, 3) := by decide +kernel
theorem dX10_entry_79 : decode cX10_entry 79 = .ok (.ireturn, 1) := by decide +kernel
theorem dX10_hand_0 : decode cX10_hand 0 = .ok (.iload_n 1, 1) := by decide +kernel
theorem dX10_hand_1 : decode cX10_hand 1 = .ok (.invokestatic 160, 3) := by decide +kernel
theorem dX10_hand_4 : decode cX10_hand 4 = .ok (.ifCond .eq 29, 3) := by decide +kernel
theorem dX10_hand_7 : decode cX10_hand 7 = .ok (.aload_n 0, 1) := by decide +kernel
theorem dX10_hand_8 : decode cX10_hand 8 = .ok (.getfield 27, 3) := by decide +kernel
theorem dX10_hand_11 : decode cX10_hand 11 = .ok (.iload_n 2, 1) := by decide +kernel
theorem dX10_hand_12 : decode cX10_hand 12 = .ok (.invokevirtual 167, 3) := by decide +kernel
theorem dX10_hand_15 : decode cX10_hand 15 = .ok (.ifCond .eq 18, 3) := by decide +kernel
theorem dX10_hand_18 : decode cX10_hand 18 = .ok (.aload_n 0, 1) := by decide +kernel
theorem dX10_hand_19 : decode cX10_hand 19 = .ok (.getfield 27, 3) := by decide +kernel
theorem dX10_hand_22 : decode cX10_hand 22 = .ok (.iload_n 3, 1) := by decide +kernel
theorem dX10_hand_23 : decode cX10_hand 23 = .ok (.invokevirtual 147, 3) := by decide +kernel
theorem dX10_hand_26 : decode cX10_hand 26 = .ok (.ifCond .eq 7, 3) := by decide +kernel
theorem dX10_hand_29 : decode cX10_hand 29 = .ok (.iconst 1, 1) := by decide +kernel
theorem dX10_hand_30 : decode cX10_hand 30 = .ok (.goto 4, 3) := by decide +kernel
theorem dX10_hand_33 : decode cX10_hand 33 = .ok (.iconst 0, 1) := by decide +kernel
theorem dX10_hand_34 : decode cX10_hand 34 = .ok (.istore 4, 2) := by decide +kernel
theorem dX10_hand_36 : decode cX10_hand 36 = .ok (.iload 4, 2) := by decide +kernel
theorem dX10_hand_38 : decode cX10_hand 38 = .ok (.ifCond .eq 15, 3) := by decide +kernel
theorem dX10_hand_41 : decode cX10_hand 41 = .ok (.aload_n 0, 1) := by decide +kernel
theorem dX10_hand_42 : decode cX10_hand 42 = .ok (.getfield 34, 3) := by decide +kernel
theorem dX10_hand_45 : decode cX10_hand 45 = .ok (.getfield 176, 3) := by decide +kernel
theorem dX10_hand_48 : decode cX10_hand 48 = .ok (.bipush 12, 2) := by decide +kernel
theorem dX10_hand_50 : decode cX10_hand 50 = .ok (.if_icmp .lt 5, 3) := by decide +kernel
theorem dX10_hand_53 : decode cX10_hand 53 = .ok (.iconst (-1), 1) := by decide +kernel
theorem dX10_hand_54 : decode cX10_hand 54 = .ok (.ireturn, 1) := by decide +kernel
theorem dX10_hand_55 : decode cX10_hand 55 = .ok (.aload_n 0, 1) := by decide +kernel
theorem dX10_hand_56 : decode cX10_hand 56 = .ok (.getfield 34, 3) := by decide +kernel
theorem dX10_hand_59 : decode cX10_hand 59 = .ok (.iload_n 1, 1) := by decide +kernel
theorem dX10_hand_60 : decode cX10_hand 60 = .ok (.iload_n 2, 1) := by decide +kernel
theorem dX10_hand_61 : decode cX10_hand 61 = .ok (.iload_n 3, 1) := by decide +kernel
theorem dX10_hand_62 : decode cX10_hand 62 = .ok (.invokevirtual 179, 3) := by decide +kernel
theorem dX10_hand_65 : decode cX10_hand 65 = .ok (.ireturn, 1) := by decide +kernel
theorem dX10_clear_0 : decode cX10_clear 0 = .ok (.iload_n 1, 1) := by decide +kernel
theorem dX10_clear_1 : decode cX10_clear 1 = .ok (.iconst (-1), 1) := by decide +kernel
theorem dX10_clear_2 : decode cX10_clear 2 = .ok (.if_icmp .eq 17, 3) := by decide +kernel
theorem dX10_clear_5 : decode cX10_clear 5 = .ok (.aload_n 0, 1) := by decide +kernel
theorem dX10_clear_6 : decode cX10_clear 6 = .ok (.getfield 27, 3) := by decide +kernel
theorem dX10_clear_9 : decode cX10_clear 9 = .ok (.iload_n 1, 1) := by decide +kernel
theorem dX10_clear_10 : decode cX10_clear 10 = .ok (.invokevirtual 147, 3) := by decide +kernel
theorem dX10_clear_13 : decode cX10_clear 13 = .ok (.ifCond .ne 6, 3) := by decide +kernel
theorem dX10_clear_16 : decode cX10_clear 16 = .ok (.bipush (-2), 2) := by decide +kernel
theorem dX10_clear_18 : decode cX10_clear 18 = .ok (.ireturn, 1) := by decide +kernel
theorem dX10_clear_19 : decode cX10_clear 19 = .ok (.aload_n 0, 1) := by decide +kernel
theorem dX10_clear_20 : decode cX10_clear 20 = .ok (.getfield 34, 3) := by decide +kernel
theorem dX10_clear_23 : decode cX10_clear 23 = .ok (.getfield 170, 3) := by decide +kernel
theorem dX10_clear_26 : decode cX10_clear 26 = .ok (.istore_n 2, 1) := by decide +kernel
theorem dX10_clear_27 : decode cX10_clear 27 = .ok (.iload_n 1, 1) := by decide +kernel
theorem dX10_clear_28 : decode cX10_clear 28 = .ok (.iconst (-1), 1) := by decide +kernel
theorem dX10_clear_29 : decode cX10_clear 29 = .ok (.if_icmp .ne 22, 3) := by decide +kernel
theorem dX10_clear_32 : decode cX10_clear 32 = .ok (.aload_n 0, 1) := by decide +kernel
theorem dX10_clear_33 : decode cX10_clear 33 = .ok (.getfield 34, 3) := by decide +kernel
theorem dX10_clear_36 : decode cX10_clear 36 = .ok (.iconst 0, 1) := by decide +kernel
theorem dX10_clear_37 : decode cX10_clear 37 = .ok (.invokevirtual 182, 3) := by decide +kernel
theorem dX10_clear_40 : decode cX10_clear 40 = .ok (.aload_n 0, 1) := by decide +kernel
theorem dX10_clear_41 : decode cX10_clear 41 = .ok (.getfield 34, 3) := by decide +kernel
theorem dX10_clear_44 : decode cX10_clear 44 = .ok (.iconst 0, 1) := by decide +kernel
theorem dX10_clear_45 : decode cX10_clear 45 = .ok (.putfield 176, 3) := by decide +kernel
theorem dX10_clear_48 : decode cX10_clear 48 = .ok (.goto 11, 3) := by decide +kernel
theorem dX10_clear_51 : decode cX10_clear 51 = .ok (.aload_n 0, 1) := by decide +kernel
theorem dX10_clear_52 : decode cX10_clear 52 = .ok (.getfield 34, 3) := by decide +kernel
theorem dX10_clear_55 : decode cX10_clear 55 = .ok (.iload_n 1, 1) := by decide +kernel
theorem dX10_clear_56 : decode cX10_clear 56 = .ok (.invokevirtual 185, 3) := by decide +kernel
theorem dX10_clear_59 : decode cX10_clear 59 = .ok (.iload_n 2, 1) := by decide +kernel
theorem dX10_clear_60 : decode cX10_clear 60 = .ok (.aload_n 0, 1) := by decide +kernel
theorem dX10_clear_61 : decode cX10_clear 61 = .ok (.getfield 34, 3) := by decide +kernel
theorem dX10_clear_64 : decode cX10_clear 64 = .ok (.getfield 170, 3) := by decide +kernel
theorem dX10_clear_67 : decode cX10_clear 67 = .ok (.isub, 1) := by decide +kernel
theorem dX10_clear_68 : decode cX10_clear 68 = .ok (.ireturn, 1) := by decide +kernel
theorem dX10_shown_0 : decode cX10_shown 0 = .ok (.iload_n 1, 1) := by decide +kernel
theorem dX10_shown_1 : decode cX10_shown 1 = .ok (.iconst 0, 1) := by decide +kernel
theorem dX10_shown_2 : decode cX10_shown 2 = .ok (.aload_n 0, 1) := by decide +kernel
theorem dX10_shown_3 : decode cX10_shown 3 = .ok (.getfield 34, 3) := by decide +kernel
theorem dX10_shown_6 : decode cX10_shown 6 = .ok (.getfield 170, 3) := by decide +kernel
theorem dX10_shown_9 : decode cX10_shown 9 = .ok (.iconst 1, 1) := by decide +kernel
theorem dX10_shown_10 : decode cX10_shown 10 = .ok (.isub, 1) := by decide +kernel
theorem dX10_shown_11 : decode cX10_shown 11 = .ok (.invokestatic 113, 3) := by decide +kernel
theorem dX10_shown_14 : decode cX10_shown 14 = .ok (.ifCond .eq 20, 3) := by decide +kernel
theorem dX10_shown_17 : decode cX10_shown 17 = .ok (.iload_n 2, 1) := by decide +kernel
theorem dX10_shown_18 : decode cX10_shown 18 = .ok (.invokestatic 188, 3) := by decide +kernel
theorem dX10_shown_21 : decode cX10_shown 21 = .ok (.ifCond .eq 13, 3) := by decide +kernel
theorem dX10_shown_24 : decode cX10_shown 24 = .ok (.iload_n 3, 1) := by decide +kernel
theorem dX10_shown_25 : decode cX10_shown 25 = .ok (.iconst 0, 1) := by decide +kernel
theorem dX10_shown_26 : decode cX10_shown 26 = .ok (.bipush 6, 2) := by decide +kernel
theorem dX10_shown_28 : decode cX10_shown 28 = .ok (.invokestatic 113, 3) := by decide +kernel
theorem dX10_shown_31 : decode cX10_shown 31 = .ok (.ifCond .ne 5, 3) := by decide +kernel
theorem dX10_shown_34 : decode cX10_shown 34 = .ok (.iconst (-1), 1) := by decide +kernel
theorem dX10_shown_35 : decode cX10_shown 35 = .ok (.ireturn, 1) := by decide +kernel
theorem dX10_shown_36 : decode cX10_shown 36 = .ok (.aload_n 0, 1) := by decide +kernel
theorem dX10_shown_37 : decode cX10_shown 37 = .ok (.getfield 66, 3) := by decide +kernel
theorem dX10_shown_40 : decode cX10_shown 40 = .ok (.aload_n 0, 1) := by decide +kernel
theorem dX10_shown_41 : decode cX10_shown 41 = .ok (.getfield 34, 3) := by decide +kernel
theorem dX10_shown_44 : decode cX10_shown 44 = .ok (.iload_n 2, 1) := by decide +kernel
theorem dX10_shown_45 : decode cX10_shown 45 = .ok (.invokevirtual 191, 3) := by decide +kernel
theorem dX10_shown_48 : decode cX10_shown 48 = .ok (.aload_n 0, 1) := by decide +kernel
theorem dX10_shown_49 : decode cX10_shown 49 = .ok (.getfield 66, 3) := by decide +kernel
theorem dX10_shown_52 : decode cX10_shown 52 = .ok (.getfield 195, 3) := by decide +kernel
theorem dX10_shown_55 : decode cX10_shown 55 = .ok (.iload_n 3, 1) := by decide +kernel
theorem dX10_shown_56 : decode cX10_shown 56 = .ok (.aaload, 1) := by decide +kernel
theorem dX10_shown_57 : decode cX10_shown 57 = .ok (.iload_n 1, 1) := by decide +kernel
theorem dX10_shown_58 : decode cX10_shown 58 = .ok (.iaload, 1) := by decide +kernel
theorem dX10_shown_59 : decode cX10_shown 59 = .ok (.ireturn, 1) := by decide +kernel
theorem dX10_run_0 : decode cX10_run 0 = .ok (.iload_n 1, 1) := by decide +kernel
theorem dX10_run_1 : decode cX10_run 1 = .ok (.invokestatic 188, 3) := by decide +kernel
theorem dX10_run_4 : decode cX10_run 4 = .ok (.ifCond .eq 12, 3) := by decide +kernel
theorem dX10_run_7 : decode cX10_run 7 = .ok (.iload_n 2, 1) := by decide +kernel
theorem dX10_run_8 : decode cX10_run 8 = .ok (.iconst 0, 1) := by decide +kernel
theorem dX10_run_9 : decode cX10_run 9 = .ok (.iconst 4, 1) := by decide +kernel
theorem dX10_run_10 : decode cX10_run 10 = .ok (.invokestatic 113, 3) := by decide +kernel
theorem dX10_run_13 : decode cX10_run 13 = .ok (.ifCond .ne 6, 3) := by decide +kernel
theorem dX10_run_16 : decode cX10_run 16 = .ok (.ldc 200, 2) := by decide +kernel
theorem dX10_run_18 : decode cX10_run 18 = .ok (.ireturn, 1) := by decide +kernel
theorem dX10_run_19 : decode cX10_run 19 = .ok (.aload_n 0, 1) := by decide +kernel
theorem dX10_run_20 : decode cX10_run 20 = .ok (.getfield 66, 3) := by decide +kernel
theorem dX10_run_23 : decode cX10_run 23 = .ok (.aload_n 0, 1) := by decide +kernel
theorem dX10_run_24 : decode cX10_run 24 = .ok (.getfield 34, 3) := by decide +kernel
theorem dX10_run_27 : decode cX10_run 27 = .ok (.iload_n 1, 1) := by decide +kernel
theorem dX10_run_28 : decode cX10_run 28 = .ok (.invokevirtual 191, 3) := by decide +kernel
theorem dX10_run_31 : decode cX10_run 31 = .ok (.aload_n 0, 1) := by decide +kernel
theorem dX10_run_32 : decode cX10_run 32 = .ok (.getfield 66, 3) := by decide +kernel
theorem dX10_run_35 : decode cX10_run 35 = .ok (.getfield 201, 3) := by decide +kernel
theorem dX10_run_38 : decode cX10_run 38 = .ok (.iload_n 2, 1) := by decide +kernel
theorem dX10_run_39 : decode cX10_run 39 = .ok (.iaload, 1) := by decide +kernel
theorem dX10_run_40 : decode cX10_run 40 = .ok (.ireturn, 1) := by decide +kernel
theorem dX10_where_0 : decode cX10_where 0 = .ok (.aload_n 0, 1) := by decide +kernel
theorem dX10_where_1 : decode cX10_where 1 = .ok (.getfield 27, 3) := by decide +kernel
theorem dX10_where_4 : decode cX10_where 4 = .ok (.iload_n 1, 1) := by decide +kernel
theorem dX10_where_5 : decode cX10_where 5 = .ok (.invokevirtual 147, 3) := by decide +kernel
theorem dX10_where_8 : decode cX10_where 8 = .ok (.ifCond .eq 17, 3) := by decide +kernel
theorem dX10_where_11 : decode cX10_where 11 = .ok (.iload_n 2, 1) := by decide +kernel
theorem dX10_where_12 : decode cX10_where 12 = .ok (.invokestatic 160, 3) := by decide +kernel
theorem dX10_where_15 : decode cX10_where 15 = .ok (.ifCond .eq 10, 3) := by decide +kernel
theorem dX10_where_18 : decode cX10_where 18 = .ok (.iload_n 3, 1) := by decide +kernel
theorem dX10_where_19 : decode cX10_where 19 = .ok (.invokestatic 188, 3) := by decide +kernel
theorem dX10_where_22 : decode cX10_where 22 = .ok (.ifCond .ne 5, 3) := by decide +kernel
theorem dX10_where_25 : decode cX10_where 25 = .ok (.iconst (-1), 1) := by decide +kernel
theorem dX10_where_26 : decode cX10_where 26 = .ok (.ireturn, 1) := by decide +kernel
theorem dX10_where_27 : decode cX10_where 27 = .ok (.aload_n 0, 1) := by decide +kernel
theorem dX10_where_28 : decode cX10_where 28 = .ok (.getfield 66, 3) := by decide +kernel
theorem dX10_where_31 : decode cX10_where 31 = .ok (.aload_n 0, 1) := by decide +kernel
theorem dX10_where_32 : decode cX10_where 32 = .ok (.getfield 34, 3) := by decide +kernel
theorem dX10_where_35 : decode cX10_where 35 = .ok (.iload_n 3, 1) := by decide +kernel
theorem dX10_where_36 : decode cX10_where 36 = .ok (.invokevirtual 191, 3) := by decide +kernel
theorem dX10_where_39 : decode cX10_where 39 = .ok (.aload_n 0, 1) := by decide +kernel
theorem dX10_where_40 : decode cX10_where 40 = .ok (.getfield 66, 3) := by decide +kernel
theorem dX10_where_43 : decode cX10_where 43 = .ok (.getfield 204, 3) := by decide +kernel
theorem dX10_where_46 : decode cX10_where 46 = .ok (.iload_n 1, 1) := by decide +kernel
theorem dX10_where_47 : decode cX10_where 47 = .ok (.iconst 4, 1) := by decide +kernel
theorem dX10_where_48 : decode cX10_where 48 = .ok (.imul, 1) := by decide +kernel
theorem dX10_where_49 : decode cX10_where 49 = .ok (.iload_n 2, 1) := by decide +kernel
theorem dX10_where_50 : decode cX10_where 50 = .ok (.iadd, 1) := by decide +kernel
theorem dX10_where_51 : decode cX10_where 51 = .ok (.iaload, 1) := by decide +kernel
theorem dX10_where_52 : decode cX10_where 52 = .ok (.ireturn, 1) := by decide +kernel
theorem dX10_printed_0 : decode cX10_printed 0 = .ok (.aload_n 0, 1) := by decide +kernel
theorem dX10_printed_1 : decode cX10_printed 1 = .ok (.getfield 27, 3) := by decide +kernel
theorem dX10_printed_4 : decode cX10_printed 4 = .ok (.iload_n 1, 1) := by decide +kernel
theorem dX10_printed_5 : decode cX10_printed 5 = .ok (.invokevirtual 167, 3) := by decide +kernel
theorem dX10_printed_8 : decode cX10_printed 8 = .ok (.ifCond .eq 19, 3) := by decide +kernel
theorem dX10_printed_11 : decode cX10_printed 11 = .ok (.iload_n 2, 1) := by decide +kernel
theorem dX10_printed_12 : decode cX10_printed 12 = .ok (.invokestatic 188, 3) := by decide +kernel
theorem dX10_printed_15 : decode cX10_printed 15 = .ok (.ifCond .eq 12, 3) := by decide +kernel
theorem dX10_printed_18 : decode cX10_printed 18 = .ok (.iload_n 3, 1) := by decide +kernel
theorem dX10_printed_19 : decode cX10_printed 19 = .ok (.iconst 0, 1) := by decide +kernel
theorem dX10_printed_20 : decode cX10_printed 20 = .ok (.iconst 3, 1) := by decide +kernel
theorem dX10_printed_21 : decode cX10_printed 21 = .ok (.invokestatic 113, 3) := by decide +kernel
theorem dX10_printed_24 : decode cX10_printed 24 = .ok (.ifCond .ne 5, 3) := by decide +kernel
theorem dX10_printed_27 : decode cX10_printed 27 = .ok (.iconst (-1), 1) := by decide +kernel
theorem dX10_printed_28 : decode cX10_printed 28 = .ok (.ireturn, 1) := by decide +kernel
theorem dX10_printed_29 : decode cX10_printed 29 = .ok (.aload_n 0, 1) := by decide +kernel
theorem dX10_printed_30 : decode cX10_printed 30 = .ok (.getfield 66, 3) := by decide +kernel
theorem dX10_printed_33 : decode cX10_printed 33 = .ok (.aload_n 0, 1) := by decide +kernel
theorem dX10_printed_34 : decode cX10_printed 34 = .ok (.getfield 34, 3) := by decide +kernel
theorem dX10_printed_37 : decode cX10_printed 37 = .ok (.iload_n 2, 1) := by decide +kernel
theorem dX10_printed_38 : decode cX10_printed 38 = .ok (.invokevirtual 191, 3) := by decide +kernel
theorem dX10_printed_41 : decode cX10_printed 41 = .ok (.iload_n 3, 1) := by decide +kernel
theorem dX10_printed_42 : decode cX10_printed 42 = .ok (.tableswitch 55 0 2 #[26, 36, 46], 26) := by decide +kernel
theorem dX10_printed_68 : decode cX10_printed 68 = .ok (.aload_n 0, 1) := by decide +kernel
theorem dX10_printed_69 : decode cX10_printed 69 = .ok (.getfield 66, 3) := by decide +kernel
theorem dX10_printed_72 : decode cX10_printed 72 = .ok (.getfield 207, 3) := by decide +kernel
theorem dX10_printed_75 : decode cX10_printed 75 = .ok (.iload_n 1, 1) := by decide +kernel
theorem dX10_printed_76 : decode cX10_printed 76 = .ok (.iaload, 1) := by decide +kernel
theorem dX10_printed_77 : decode cX10_printed 77 = .ok (.ireturn, 1) := by decide +kernel
theorem dX10_printed_78 : decode cX10_printed 78 = .ok (.aload_n 0, 1) := by decide +kernel
theorem dX10_printed_79 : decode cX10_printed 79 = .ok (.getfield 66, 3) := by decide +kernel
theorem dX10_printed_82 : decode cX10_printed 82 = .ok (.getfield 210, 3) := by decide +kernel
theorem dX10_printed_85 : decode cX10_printed 85 = .ok (.iload_n 1, 1) := by decide +kernel
theorem dX10_printed_86 : decode cX10_printed 86 = .ok (.iaload, 1) := by decide +kernel
theorem dX10_printed_87 : decode cX10_printed 87 = .ok (.ireturn, 1) := by decide +kernel
theorem dX10_printed_88 : decode cX10_printed 88 = .ok (.aload_n 0, 1) := by decide +kernel
theorem dX10_printed_89 : decode cX10_printed 89 = .ok (.getfield 66, 3) := by decide +kernel
theorem dX10_printed_92 : decode cX10_printed 92 = .ok (.iload_n 1, 1) := by decide +kernel
theorem dX10_printed_93 : decode cX10_printed 93 = .ok (.invokevirtual 213, 3) := by decide +kernel
theorem dX10_printed_96 : decode cX10_printed 96 = .ok (.ireturn, 1) := by decide +kernel
theorem dX10_printed_97 : decode cX10_printed 97 = .ok (.aload_n 0, 1) := by decide +kernel
theorem dX10_printed_98 : decode cX10_printed 98 = .ok (.getfield 66, 3) := by decide +kernel
theorem dX10_printed_101 : decode cX10_printed 101 = .ok (.getfield 216, 3) := by decide +kernel
theorem dX10_printed_104 : decode cX10_printed 104 = .ok (.iload_n 1, 1) := by decide +kernel
theorem dX10_printed_105 : decode cX10_printed 105 = .ok (.iaload, 1) := by decide +kernel
theorem dX10_printed_106 : decode cX10_printed 106 = .ok (.ireturn, 1) := by decide +kernel
theorem dX10_expected_0 : decode cX10_expected 0 = .ok (.iload_n 1, 1) := by decide +kernel
theorem dX10_expected_1 : decode cX10_expected 1 = .ok (.iconst 0, 1) := by decide +kernel
theorem dX10_expected_2 : decode cX10_expected 2 = .ok (.iconst 3, 1) := by decide +kernel
theorem dX10_expected_3 : decode cX10_expected 3 = .ok (.invokestatic 113, 3) := by decide +kernel
theorem dX10_expected_6 : decode cX10_expected 6 = .ok (.ifCond .ne 7, 3) := by decide +kernel
theorem dX10_expected_9 : decode cX10_expected 9 = .ok (.ldc2_w 221, 3) := by decide +kernel
theorem dX10_expected_12 : decode cX10_expected 12 = .ok (.lreturn, 1) := by decide +kernel
theorem dX10_expected_13 : decode cX10_expected 13 = .ok (.iload_n 1, 1) := by decide +kernel
theorem dX10_expected_14 : decode cX10_expected 14 = .ok (.iconst 3, 1) := by decide +kernel
theorem dX10_expected_15 : decode cX10_expected 15 = .ok (.if_icmp .ne 16, 3) := by decide +kernel
theorem dX10_expected_18 : decode cX10_expected 18 = .ok (.lconst 1, 1) := by decide +kernel
theorem dX10_expected_19 : decode cX10_expected 19 = .ok (.bipush 16, 2) := by decide +kernel
theorem dX10_expected_21 : decode cX10_expected 21 = .ok (.aload_n 0, 1) := by decide +kernel
theorem dX10_expected_22 : decode cX10_expected 22 = .ok (.getfield 20, 3) := by decide +kernel
theorem dX10_expected_25 : decode cX10_expected 25 = .ok (.getfield 134, 3) := by decide +kernel
theorem dX10_expected_28 : decode cX10_expected 28 = .ok (.imul, 1) := by decide +kernel
theorem dX10_expected_29 : decode cX10_expected 29 = .ok (.lshl, 1) := by decide +kernel
theorem dX10_expected_30 : decode cX10_expected 30 = .ok (.lreturn, 1) := by decide +kernel
theorem dX10_expected_31 : decode cX10_expected 31 = .ok (.lconst 0, 1) := by decide +kernel
theorem dX10_expected_32 : decode cX10_expected 32 = .ok (.lstore_n 2, 1) := by decide +kernel
theorem dX10_expected_33 : decode cX10_expected 33 = .ok (.iconst 0, 1) := by decide +kernel
theorem dX10_expected_34 : decode cX10_expected 34 = .ok (.istore 4, 2) := by decide +kernel
theorem dX10_expected_36 : decode cX10_expected 36 = .ok (.iload 4, 2) := by decide +kernel
theorem dX10_expected_38 : decode cX10_expected 38 = .ok (.sipush 255, 3) := by decide +kernel
theorem dX10_expected_41 : decode cX10_expected 41 = .ok (.if_icmp .gt 57, 3) := by decide +kernel
theorem dX10_expected_44 : decode cX10_expected 44 = .ok (.aload_n 0, 1) := by decide +kernel
theorem dX10_expected_45 : decode cX10_expected 45 = .ok (.getfield 20, 3) := by decide +kernel
theorem dX10_expected_48 : decode cX10_expected 48 = .ok (.iload 4, 2) := by decide +kernel
theorem dX10_expected_50 : decode cX10_expected 50 = .ok (.invokevirtual 223, 3) := by decide +kernel
theorem dX10_expected_53 : decode cX10_expected 53 = .ok (.ifCond .eq 39, 3) := by decide +kernel
theorem dX10_expected_56 : decode cX10_expected 56 = .ok (.aload_n 0, 1) := by decide +kernel
theorem dX10_expected_57 : decode cX10_expected 57 = .ok (.getfield 66, 3) := by decide +kernel
theorem dX10_expected_60 : decode cX10_expected 60 = .ok (.aload_n 0, 1) := by decide +kernel
theorem dX10_expected_61 : decode cX10_expected 61 = .ok (.getfield 34, 3) := by decide +kernel
theorem dX10_expected_64 : decode cX10_expected 64 = .ok (.iload 4, 2) := by decide +kernel
theorem dX10_expected_66 : decode cX10_expected 66 = .ok (.invokevirtual 191, 3) := by decide +kernel
theorem dX10_expected_69 : decode cX10_expected 69 = .ok (.lload_n 2, 1) := by decide +kernel
theorem dX10_expected_70 : decode cX10_expected 70 = .ok (.aload_n 0, 1) := by decide +kernel
theorem dX10_expected_71 : decode cX10_expected 71 = .ok (.getfield 20, 3) := by decide +kernel
theorem dX10_expected_74 : decode cX10_expected 74 = .ok (.iload 4, 2) := by decide +kernel
theorem dX10_expected_76 : decode cX10_expected 76 = .ok (.invokevirtual 226, 3) := by decide +kernel
theorem dX10_expected_79 : decode cX10_expected 79 = .ok (.aload_n 0, 1) := by decide +kernel
theorem dX10_expected_80 : decode cX10_expected 80 = .ok (.getfield 66, 3) := by decide +kernel
theorem dX10_expected_83 : decode cX10_expected 83 = .ok (.getfield 201, 3) := by decide +kernel
theorem dX10_expected_86 : decode cX10_expected 86 = .ok (.iload_n 1, 1) := by decide +kernel
theorem dX10_expected_87 : decode cX10_expected 87 = .ok (.iaload, 1) := by decide +kernel
theorem dX10_expected_88 : decode cX10_expected 88 = .ok (.i2l, 1) := by decide +kernel
theorem dX10_expected_89 : decode cX10_expected 89 = .ok (.lmul, 1) := by decide +kernel
theorem dX10_expected_90 : decode cX10_expected 90 = .ok (.ladd, 1) := by decide +kernel
theorem dX10_expected_91 : decode cX10_expected 91 = .ok (.lstore_n 2, 1) := by decide +kernel
theorem dX10_expected_92 : decode cX10_expected 92 = .ok (.iinc 4 1, 3) := by decide +kernel
theorem dX10_expected_95 : decode cX10_expected 95 = .ok (.goto (-59), 3) := by decide +kernel
theorem dX10_expected_98 : decode cX10_expected 98 = .ok (.lload_n 2, 1) := by decide +kernel
theorem dX10_expected_99 : decode cX10_expected 99 = .ok (.lreturn, 1) := by decide +kernel
theorem dX10_round_0 : decode cX10_round 0 = .ok (.aload_n 0, 1) := by decide +kernel
theorem dX10_round_1 : decode cX10_round 1 = .ok (.getfield 27, 3) := by decide +kernel
theorem dX10_round_4 : decode cX10_round 4 = .ok (.iload_n 1, 1) := by decide +kernel
theorem dX10_round_5 : decode cX10_round 5 = .ok (.invokevirtual 147, 3) := by decide +kernel
theorem dX10_round_8 : decode cX10_round 8 = .ok (.ifCond .eq 26, 3) := by decide +kernel
theorem dX10_round_11 : decode cX10_round 11 = .ok (.iload_n 2, 1) := by decide +kernel
theorem dX10_round_12 : decode cX10_round 12 = .ok (.iconst 1, 1) := by decide +kernel
theorem dX10_round_13 : decode cX10_round 13 = .ok (.iconst 3, 1) := by decide +kernel
theorem dX10_round_14 : decode cX10_round 14 = .ok (.invokestatic 113, 3) := by decide +kernel
theorem dX10_round_17 : decode cX10_round 17 = .ok (.ifCond .eq 17, 3) := by decide +kernel
theorem dX10_round_20 : decode cX10_round 20 = .ok (.aload_n 0, 1) := by decide +kernel
theorem dX10_round_21 : decode cX10_round 21 = .ok (.getfield 75, 3) := by decide +kernel
theorem dX10_round_24 : decode cX10_round 24 = .ok (.iload_n 2, 1) := by decide +kernel
theorem dX10_round_25 : decode cX10_round 25 = .ok (.invokevirtual 230, 3) := by decide +kernel
theorem dX10_round_28 : decode cX10_round 28 = .ok (.sipush 1200, 3) := by decide +kernel
theorem dX10_round_31 : decode cX10_round 31 = .ok (.if_icmp .le 5, 3) := by decide +kernel
theorem dX10_round_34 : decode cX10_round 34 = .ok (.iconst (-1), 1) := by decide +kernel
theorem dX10_round_35 : decode cX10_round 35 = .ok (.ireturn, 1) := by decide +kernel
theorem dX10_round_36 : decode cX10_round 36 = .ok (.aload_n 0, 1) := by decide +kernel
theorem dX10_round_37 : decode cX10_round 37 = .ok (.getfield 75, 3) := by decide +kernel
theorem dX10_round_40 : decode cX10_round 40 = .ok (.aload_n 0, 1) := by decide +kernel
theorem dX10_round_41 : decode cX10_round 41 = .ok (.getfield 34, 3) := by decide +kernel
theorem dX10_round_44 : decode cX10_round 44 = .ok (.iload_n 1, 1) := by decide +kernel
theorem dX10_round_45 : decode cX10_round 45 = .ok (.iload_n 2, 1) := by decide +kernel
theorem dX10_round_46 : decode cX10_round 46 = .ok (.invokevirtual 233, 3) := by decide +kernel
theorem dX10_round_49 : decode cX10_round 49 = .ok (.aload_n 0, 1) := by decide +kernel
theorem dX10_round_50 : decode cX10_round 50 = .ok (.getfield 75, 3) := by decide +kernel
theorem dX10_round_53 : decode cX10_round 53 = .ok (.getfield 237, 3) := by decide +kernel
theorem dX10_round_56 : decode cX10_round 56 = .ok (.ireturn, 1) := by decide +kernel
theorem dX10_rounded_0 : decode cX10_rounded 0 = .ok (.aload_n 0, 1) := by decide +kernel
theorem dX10_rounded_1 : decode cX10_rounded 1 = .ok (.getfield 75, 3) := by decide +kernel
theorem dX10_rounded_4 : decode cX10_rounded 4 = .ok (.getfield 240, 3) := by decide +kernel
theorem dX10_rounded_7 : decode cX10_rounded 7 = .ok (.ifCond .eq 12, 3) := by decide +kernel
theorem dX10_rounded_10 : decode cX10_rounded 10 = .ok (.iload_n 1, 1) := by decide +kernel
theorem dX10_rounded_11 : decode cX10_rounded 11 = .ok (.iconst 0, 1) := by decide +kernel
theorem dX10_rounded_12 : decode cX10_rounded 12 = .ok (.iconst 4, 1) := by decide +kernel
theorem dX10_rounded_13 : decode cX10_rounded 13 = .ok (.invokestatic 113, 3) := by decide +kernel
theorem dX10_rounded_16 : decode cX10_rounded 16 = .ok (.ifCond .ne 6, 3) := by decide +kernel
theorem dX10_rounded_19 : decode cX10_rounded 19 = .ok (.ldc 200, 2) := by decide +kernel
theorem dX10_rounded_21 : decode cX10_rounded 21 = .ok (.ireturn, 1) := by decide +kernel
theorem dX10_rounded_22 : decode cX10_rounded 22 = .ok (.iload_n 1, 1) := by decide +kernel
theorem dX10_rounded_23 : decode cX10_rounded 23 = .ok (.ifCond .ne 11, 3) := by decide +kernel
theorem dX10_rounded_26 : decode cX10_rounded 26 = .ok (.aload_n 0, 1) := by decide +kernel
theorem dX10_rounded_27 : decode cX10_rounded 27 = .ok (.getfield 75, 3) := by decide +kernel
theorem dX10_rounded_30 : decode cX10_rounded 30 = .ok (.getfield 243, 3) := by decide +kernel
theorem dX10_rounded_33 : decode cX10_rounded 33 = .ok (.ireturn, 1) := by decide +kernel
theorem dX10_rounded_34 : decode cX10_rounded 34 = .ok (.iload_n 1, 1) := by decide +kernel
theorem dX10_rounded_35 : decode cX10_rounded 35 = .ok (.iconst 4, 1) := by decide +kernel
theorem dX10_rounded_36 : decode cX10_rounded 36 = .ok (.if_icmp .ne 13, 3) := by decide +kernel
theorem dX10_rounded_39 : decode cX10_rounded 39 = .ok (.aload_n 0, 1) := by decide +kernel
theorem dX10_rounded_40 : decode cX10_rounded 40 = .ok (.getfield 75, 3) := by decide +kernel
theorem dX10_rounded_43 : decode cX10_rounded 43 = .ok (.getfield 240, 3) := by decide +kernel
theorem dX10_rounded_46 : decode cX10_rounded 46 = .ok (.goto 14, 3) := by decide +kernel
theorem dX10_rounded_49 : decode cX10_rounded 49 = .ok (.aload_n 0, 1) := by decide +kernel
theorem dX10_rounded_50 : decode cX10_rounded 50 = .ok (.getfield 75, 3) := by decide +kernel
theorem dX10_rounded_53 : decode cX10_rounded 53 = .ok (.getfield 246, 3) := by decide +kernel
theorem dX10_rounded_56 : decode cX10_rounded 56 = .ok (.iload_n 1, 1) := by decide +kernel
theorem dX10_rounded_57 : decode cX10_rounded 57 = .ok (.iconst 1, 1) := by decide +kernel
theorem dX10_rounded_58 : decode cX10_rounded 58 = .ok (.isub, 1) := by decide +kernel
theorem dX10_rounded_59 : decode cX10_rounded 59 = .ok (.iaload, 1) := by decide +kernel
theorem dX10_rounded_60 : decode cX10_rounded 60 = .ok (.ireturn, 1) := by decide +kernel
theorem dX10_report_0 : decode cX10_report 0 = .ok (.aload_n 0, 1) := by decide +kernel
theorem dX10_report_1 : decode cX10_report 1 = .ok (.getfield 20, 3) := by decide +kernel
theorem dX10_report_4 : decode cX10_report 4 = .ok (.iload_n 1, 1) := by decide +kernel
theorem dX10_report_5 : decode cX10_report 5 = .ok (.invokevirtual 124, 3) := by decide +kernel
theorem dX10_report_8 : decode cX10_report 8 = .ok (.ifCond .eq 25, 3) := by decide +kernel
theorem dX10_report_11 : decode cX10_report 11 = .ok (.iload_n 2, 1) := by decide +kernel
theorem dX10_report_12 : decode cX10_report 12 = .ok (.invokestatic 160, 3) := by decide +kernel
theorem dX10_report_15 : decode cX10_report 15 = .ok (.ifCond .eq 18, 3) := by decide +kernel
theorem dX10_report_18 : decode cX10_report 18 = .ok (.iload_n 3, 1) := by decide +kernel
theorem dX10_report_19 : decode cX10_report 19 = .ok (.iconst 0, 1) := by decide +kernel
theorem dX10_report_20 : decode cX10_report 20 = .ok (.sipush 500, 3) := by decide +kernel
theorem dX10_report_23 : decode cX10_report 23 = .ok (.invokestatic 113, 3) := by decide +kernel
theorem dX10_report_26 : decode cX10_report 26 = .ok (.ifCond .eq 7, 3) := by decide +kernel
theorem dX10_report_29 : decode cX10_report 29 = .ok (.iconst 1, 1) := by decide +kernel
theorem dX10_report_30 : decode cX10_report 30 = .ok (.goto 4, 3) := by decide +kernel
theorem dX10_report_33 : decode cX10_report 33 = .ok (.iconst 0, 1) := by decide +kernel
theorem dX10_report_34 : decode cX10_report 34 = .ok (.istore 4, 2) := by decide +kernel
theorem dX10_report_36 : decode cX10_report 36 = .ok (.iload 4, 2) := by decide +kernel
theorem dX10_report_38 : decode cX10_report 38 = .ok (.ifCond .eq 15, 3) := by decide +kernel
theorem dX10_report_41 : decode cX10_report 41 = .ok (.aload_n 0, 1) := by decide +kernel
theorem dX10_report_42 : decode cX10_report 42 = .ok (.getfield 57, 3) := by decide +kernel
theorem dX10_report_45 : decode cX10_report 45 = .ok (.getfield 249, 3) := by decide +kernel
theorem dX10_report_48 : decode cX10_report 48 = .ok (.bipush 40, 2) := by decide +kernel
theorem dX10_report_50 : decode cX10_report 50 = .ok (.if_icmp .lt 5, 3) := by decide +kernel
theorem dX10_report_53 : decode cX10_report 53 = .ok (.iconst (-1), 1) := by decide +kernel
theorem dX10_report_54 : decode cX10_report 54 = .ok (.ireturn, 1) := by decide +kernel
theorem dX10_report_55 : decode cX10_report 55 = .ok (.aload_n 0, 1) := by decide +kernel
theorem dX10_report_56 : decode cX10_report 56 = .ok (.getfield 57, 3) := by decide +kernel
theorem dX10_report_59 : decode cX10_report 59 = .ok (.iload_n 1, 1) := by decide +kernel
theorem dX10_report_60 : decode cX10_report 60 = .ok (.iload_n 2, 1) := by decide +kernel
theorem dX10_report_61 : decode cX10_report 61 = .ok (.iload_n 3, 1) := by decide +kernel
theorem dX10_report_62 : decode cX10_report 62 = .ok (.invokevirtual 252, 3) := by decide +kernel
theorem dX10_report_65 : decode cX10_report 65 = .ok (.ireturn, 1) := by decide +kernel
theorem dX10_strike_0 : decode cX10_strike 0 = .ok (.iload_n 1, 1) := by decide +kernel
theorem dX10_strike_1 : decode cX10_strike 1 = .ok (.iconst 0, 1) := by decide +kernel
theorem dX10_strike_2 : decode cX10_strike 2 = .ok (.aload_n 0, 1) := by decide +kernel
theorem dX10_strike_3 : decode cX10_strike 3 = .ok (.getfield 57, 3) := by decide +kernel
theorem dX10_strike_6 : decode cX10_strike 6 = .ok (.getfield 249, 3) := by decide +kernel
theorem dX10_strike_9 : decode cX10_strike 9 = .ok (.iconst 1, 1) := by decide +kernel
theorem dX10_strike_10 : decode cX10_strike 10 = .ok (.isub, 1) := by decide +kernel
theorem dX10_strike_11 : decode cX10_strike 11 = .ok (.invokestatic 113, 3) := by decide +kernel
theorem dX10_strike_14 : decode cX10_strike 14 = .ok (.ifCond .eq 15, 3) := by decide +kernel
theorem dX10_strike_17 : decode cX10_strike 17 = .ok (.aload_n 0, 1) := by decide +kernel
theorem dX10_strike_18 : decode cX10_strike 18 = .ok (.getfield 57, 3) := by decide +kernel
theorem dX10_strike_21 : decode cX10_strike 21 = .ok (.getfield 249, 3) := by decide +kernel
theorem dX10_strike_24 : decode cX10_strike 24 = .ok (.bipush 40, 2) := by decide +kernel
theorem dX10_strike_26 : decode cX10_strike 26 = .ok (.if_icmp .lt 5, 3) := by decide +kernel
theorem dX10_strike_29 : decode cX10_strike 29 = .ok (.iconst (-1), 1) := by decide +kernel
theorem dX10_strike_30 : decode cX10_strike 30 = .ok (.ireturn, 1) := by decide +kernel
theorem dX10_strike_31 : decode cX10_strike 31 = .ok (.aload_n 0, 1) := by decide +kernel
theorem dX10_strike_32 : decode cX10_strike 32 = .ok (.getfield 57, 3) := by decide +kernel
theorem dX10_strike_35 : decode cX10_strike 35 = .ok (.iload_n 1, 1) := by decide +kernel
theorem dX10_strike_36 : decode cX10_strike 36 = .ok (.invokevirtual 255, 3) := by decide +kernel
theorem dX10_strike_39 : decode cX10_strike 39 = .ok (.ireturn, 1) := by decide +kernel
theorem dX10_ends_0 : decode cX10_ends 0 = .ok (.iload_n 1, 1) := by decide +kernel
theorem dX10_ends_1 : decode cX10_ends 1 = .ok (.iconst 0, 1) := by decide +kernel
theorem dX10_ends_2 : decode cX10_ends 2 = .ok (.aload_n 0, 1) := by decide +kernel
theorem dX10_ends_3 : decode cX10_ends 3 = .ok (.getfield 57, 3) := by decide +kernel
theorem dX10_ends_6 : decode cX10_ends 6 = .ok (.getfield 249, 3) := by decide +kernel
theorem dX10_ends_9 : decode cX10_ends 9 = .ok (.invokestatic 113, 3) := by decide +kernel
theorem dX10_ends_12 : decode cX10_ends 12 = .ok (.ifCond .eq 12, 3) := by decide +kernel
theorem dX10_ends_15 : decode cX10_ends 15 = .ok (.iload_n 2, 1) := by decide +kernel
theorem dX10_ends_16 : decode cX10_ends 16 = .ok (.iconst 0, 1) := by decide +kernel
theorem dX10_ends_17 : decode cX10_ends 17 = .ok (.iconst 2, 1) := by decide +kernel
theorem dX10_ends_18 : decode cX10_ends 18 = .ok (.invokestatic 113, 3) := by decide +kernel
theorem dX10_ends_21 : decode cX10_ends 21 = .ok (.ifCond .ne 5, 3) := by decide +kernel
theorem dX10_ends_24 : decode cX10_ends 24 = .ok (.iconst (-1), 1) := by decide +kernel
theorem dX10_ends_25 : decode cX10_ends 25 = .ok (.ireturn, 1) := by decide +kernel
theorem dX10_ends_26 : decode cX10_ends 26 = .ok (.aload_n 0, 1) := by decide +kernel
theorem dX10_ends_27 : decode cX10_ends 27 = .ok (.getfield 57, 3) := by decide +kernel
theorem dX10_ends_30 : decode cX10_ends 30 = .ok (.iload_n 1, 1) := by decide +kernel
theorem dX10_ends_31 : decode cX10_ends 31 = .ok (.invokevirtual 258, 3) := by decide +kernel
theorem dX10_ends_34 : decode cX10_ends 34 = .ok (.aload_n 0, 1) := by decide +kernel
theorem dX10_ends_35 : decode cX10_ends 35 = .ok (.getfield 66, 3) := by decide +kernel
theorem dX10_ends_38 : decode cX10_ends 38 = .ok (.aload_n 0, 1) := by decide +kernel
theorem dX10_ends_39 : decode cX10_ends 39 = .ok (.getfield 34, 3) := by decide +kernel
theorem dX10_ends_42 : decode cX10_ends 42 = .ok (.iconst 0, 1) := by decide +kernel
theorem dX10_ends_43 : decode cX10_ends 43 = .ok (.invokevirtual 191, 3) := by decide +kernel
theorem dX10_ends_46 : decode cX10_ends 46 = .ok (.iconst 0, 1) := by decide +kernel
theorem dX10_ends_47 : decode cX10_ends 47 = .ok (.istore_n 3, 1) := by decide +kernel
theorem dX10_ends_48 : decode cX10_ends 48 = .ok (.iconst 0, 1) := by decide +kernel
theorem dX10_ends_49 : decode cX10_ends 49 = .ok (.istore 4, 2) := by decide +kernel
theorem dX10_ends_51 : decode cX10_ends 51 = .ok (.iload 4, 2) := by decide +kernel
theorem dX10_ends_53 : decode cX10_ends 53 = .ok (.aload_n 0, 1) := by decide +kernel
theorem dX10_ends_54 : decode cX10_ends 54 = .ok (.getfield 34, 3) := by decide +kernel
theorem dX10_ends_57 : decode cX10_ends 57 = .ok (.getfield 170, 3) := by decide +kernel
theorem dX10_ends_60 : decode cX10_ends 60 = .ok (.if_icmp .ge 74, 3) := by decide +kernel
theorem dX10_ends_63 : decode cX10_ends 63 = .ok (.aload_n 0, 1) := by decide +kernel
theorem dX10_ends_64 : decode cX10_ends 64 = .ok (.getfield 66, 3) := by decide +kernel
theorem dX10_ends_67 : decode cX10_ends 67 = .ok (.getfield 195, 3) := by decide +kernel
theorem dX10_ends_70 : decode cX10_ends 70 = .ok (.iconst 0, 1) := by decide +kernel
theorem dX10_ends_71 : decode cX10_ends 71 = .ok (.aaload, 1) := by decide +kernel
theorem dX10_ends_72 : decode cX10_ends 72 = .ok (.iload 4, 2) := by decide +kernel
theorem dX10_ends_74 : decode cX10_ends 74 = .ok (.iaload, 1) := by decide +kernel
theorem dX10_ends_75 : decode cX10_ends 75 = .ok (.ifCond .ne 53, 3) := by decide +kernel
theorem dX10_ends_78 : decode cX10_ends 78 = .ok (.aload_n 0, 1) := by decide +kernel
theorem dX10_ends_79 : decode cX10_ends 79 = .ok (.getfield 34, 3) := by decide +kernel
theorem dX10_ends_82 : decode cX10_ends 82 = .ok (.getfield 261, 3) := by decide +kernel
theorem dX10_ends_85 : decode cX10_ends 85 = .ok (.iload 4, 2) := by decide +kernel
theorem dX10_ends_87 : decode cX10_ends 87 = .ok (.iaload, 1) := by decide +kernel
theorem dX10_ends_88 : decode cX10_ends 88 = .ok (.istore 5, 2) := by decide +kernel
theorem dX10_ends_90 : decode cX10_ends 90 = .ok (.iload_n 3, 1) := by decide +kernel
theorem dX10_ends_91 : decode cX10_ends 91 = .ok (.aload_n 0, 1) := by decide +kernel
theorem dX10_ends_92 : decode cX10_ends 92 = .ok (.getfield 57, 3) := by decide +kernel
theorem dX10_ends_95 : decode cX10_ends 95 = .ok (.iload 5, 2) := by decide +kernel
theorem dX10_ends_97 : decode cX10_ends 97 = .ok (.aload_n 0, 1) := by decide +kernel
theorem dX10_ends_98 : decode cX10_ends 98 = .ok (.getfield 34, 3) := by decide +kernel
theorem dX10_ends_101 : decode cX10_ends 101 = .ok (.getfield 264, 3) := by decide +kernel
theorem dX10_ends_104 : decode cX10_ends 104 = .ok (.iload 4, 2) := by decide +kernel
theorem dX10_ends_106 : decode cX10_ends 106 = .ok (.iaload, 1) := by decide +kernel
theorem dX10_ends_107 : decode cX10_ends 107 = .ok (.invokevirtual 267, 3) := by decide +kernel
theorem dX10_ends_110 : decode cX10_ends 110 = .ok (.aload_n 0, 1) := by decide +kernel
theorem dX10_ends_111 : decode cX10_ends 111 = .ok (.getfield 20, 3) := by decide +kernel
theorem dX10_ends_114 : decode cX10_ends 114 = .ok (.getfield 127, 3) := by decide +kernel
theorem dX10_ends_117 : decode cX10_ends 117 = .ok (.iload 5, 2) := by decide +kernel
theorem dX10_ends_119 : decode cX10_ends 119 = .ok (.aaload, 1) := by decide +kernel
theorem dX10_ends_120 : decode cX10_ends 120 = .ok (.iconst 1, 1) := by decide +kernel
theorem dX10_ends_121 : decode cX10_ends 121 = .ok (.iaload, 1) := by decide +kernel
theorem dX10_ends_122 : decode cX10_ends 122 = .ok (.iload_n 2, 1) := by decide +kernel
theorem dX10_ends_123 : decode cX10_ends 123 = .ok (.invokestatic 271, 3) := by decide +kernel
theorem dX10_ends_126 : decode cX10_ends 126 = .ok (.iadd, 1) := by decide +kernel
theorem dX10_ends_127 : decode cX10_ends 127 = .ok (.istore_n 3, 1) := by decide +kernel
theorem dX10_ends_128 : decode cX10_ends 128 = .ok (.iinc 4 1, 3) := by decide +kernel
theorem dX10_ends_131 : decode cX10_ends 131 = .ok (.goto (-80), 3) := by decide +kernel
theorem dX10_ends_134 : decode cX10_ends 134 = .ok (.iload_n 3, 1) := by decide +kernel
theorem dX10_ends_135 : decode cX10_ends 135 = .ok (.ireturn, 1) := by decide +kernel
theorem dX10_endOf_0 : decode cX10_endOf 0 = .ok (.iload_n 0, 1) := by decide +kernel
theorem dX10_endOf_1 : decode cX10_endOf 1 = .ok (.iconst (-1), 1) := by decide +kernel
theorem dX10_endOf_2 : decode cX10_endOf 2 = .ok (.if_icmp .ne 7, 3) := by decide +kernel
theorem dX10_endOf_5 : decode cX10_endOf 5 = .ok (.iconst 1, 1) := by decide +kernel
theorem dX10_endOf_6 : decode cX10_endOf 6 = .ok (.goto 4, 3) := by decide +kernel
theorem dX10_endOf_9 : decode cX10_endOf 9 = .ok (.iconst 0, 1) := by decide +kernel
theorem dX10_endOf_10 : decode cX10_endOf 10 = .ok (.istore_n 3, 1) := by decide +kernel
theorem dX10_endOf_11 : decode cX10_endOf 11 = .ok (.iload_n 2, 1) := by decide +kernel
theorem dX10_endOf_12 : decode cX10_endOf 12 = .ok (.lookupswitch 48 #[(0, 28), (1, 38)], 28) := by decide +kernel
theorem dX10_endOf_40 : decode cX10_endOf 40 = .ok (.iload_n 3, 1) := by decide +kernel
theorem dX10_endOf_41 : decode cX10_endOf 41 = .ok (.ifCond .eq 7, 3) := by decide +kernel
theorem dX10_endOf_44 : decode cX10_endOf 44 = .ok (.iconst 0, 1) := by decide +kernel
theorem dX10_endOf_45 : decode cX10_endOf 45 = .ok (.goto 4, 3) := by decide +kernel
theorem dX10_endOf_48 : decode cX10_endOf 48 = .ok (.iload_n 0, 1) := by decide +kernel
theorem dX10_endOf_49 : decode cX10_endOf 49 = .ok (.ireturn, 1) := by decide +kernel
theorem dX10_endOf_50 : decode cX10_endOf 50 = .ok (.iload_n 3, 1) := by decide +kernel
theorem dX10_endOf_51 : decode cX10_endOf 51 = .ok (.ifCond .eq 7, 3) := by decide +kernel
theorem dX10_endOf_54 : decode cX10_endOf 54 = .ok (.iload_n 1, 1) := by decide +kernel
theorem dX10_endOf_55 : decode cX10_endOf 55 = .ok (.goto 4, 3) := by decide +kernel
theorem dX10_endOf_58 : decode cX10_endOf 58 = .ok (.iload_n 0, 1) := by decide +kernel
theorem dX10_endOf_59 : decode cX10_endOf 59 = .ok (.ireturn, 1) := by decide +kernel
theorem dX10_endOf_60 : decode cX10_endOf 60 = .ok (.iload_n 3, 1) := by decide +kernel
theorem dX10_endOf_61 : decode cX10_endOf 61 = .ok (.ifCond .eq 7, 3) := by decide +kernel
theorem dX10_endOf_64 : decode cX10_endOf 64 = .ok (.iconst 1, 1) := by decide +kernel
theorem dX10_endOf_65 : decode cX10_endOf 65 = .ok (.goto 4, 3) := by decide +kernel
theorem dX10_endOf_68 : decode cX10_endOf 68 = .ok (.iconst 0, 1) := by decide +kernel
theorem dX10_endOf_69 : decode cX10_endOf 69 = .ok (.ireturn, 1) := by decide +kernel
theorem dX10_look_0 : decode cX10_look 0 = .ok (.aload_n 0, 1) := by decide +kernel
theorem dX10_look_1 : decode cX10_look 1 = .ok (.getfield 20, 3) := by decide +kernel
theorem dX10_look_4 : decode cX10_look 4 = .ok (.iload_n 1, 1) := by decide +kernel
theorem dX10_look_5 : decode cX10_look 5 = .ok (.invokevirtual 124, 3) := by decide +kernel
theorem dX10_look_8 : decode cX10_look 8 = .ok (.ifCond .ne 14, 3) := by decide +kernel
theorem dX10_look_11 : decode cX10_look 11 = .ok (.new 274, 3) := by decide +kernel
theorem dX10_look_14 : decode cX10_look 14 = .ok (.dup, 1) := by decide +kernel
theorem dX10_look_15 : decode cX10_look 15 = .ok (.ldc_w 276, 3) := by decide +kernel
theorem dX10_look_18 : decode cX10_look 18 = .ok (.invokespecial 278, 3) := by decide +kernel
theorem dX10_look_21 : decode cX10_look 21 = .ok (.athrow, 1) := by decide +kernel
theorem dX10_look_22 : decode cX10_look 22 = .ok (.iload_n 2, 1) := by decide +kernel
theorem dX10_look_23 : decode cX10_look 23 = .ok (.iconst 0, 1) := by decide +kernel
theorem dX10_look_24 : decode cX10_look 24 = .ok (.bipush 7, 2) := by decide +kernel
theorem dX10_look_26 : decode cX10_look 26 = .ok (.invokestatic 113, 3) := by decide +kernel
theorem dX10_look_29 : decode cX10_look 29 = .ok (.ifCond .ne 14, 3) := by decide +kernel
theorem dX10_look_32 : decode cX10_look 32 = .ok (.new 281, 3) := by decide +kernel
theorem dX10_look_35 : decode cX10_look 35 = .ok (.dup, 1) := by decide +kernel
theorem dX10_look_36 : decode cX10_look 36 = .ok (.ldc_w 283, 3) := by decide +kernel
theorem dX10_look_39 : decode cX10_look 39 = .ok (.invokespecial 285, 3) := by decide +kernel
theorem dX10_look_42 : decode cX10_look 42 = .ok (.athrow, 1) := by decide +kernel
theorem dX10_look_43 : decode cX10_look 43 = .ok (.aload_n 0, 1) := by decide +kernel
theorem dX10_look_44 : decode cX10_look 44 = .ok (.getfield 20, 3) := by decide +kernel
theorem dX10_look_47 : decode cX10_look 47 = .ok (.getfield 127, 3) := by decide +kernel
theorem dX10_look_50 : decode cX10_look 50 = .ok (.iload_n 1, 1) := by decide +kernel
theorem dX10_look_51 : decode cX10_look 51 = .ok (.aaload, 1) := by decide +kernel
theorem dX10_look_52 : decode cX10_look 52 = .ok (.iload_n 2, 1) := by decide +kernel
theorem dX10_look_53 : decode cX10_look 53 = .ok (.iaload, 1) := by decide +kernel
theorem dX10_look_54 : decode cX10_look 54 = .ok (.ireturn, 1) := by decide +kernel
theorem dX10_count_0 : decode cX10_count 0 = .ok (.iload_n 1, 1) := by decide +kernel
theorem dX10_count_1 : decode cX10_count 1 = .ok (.tableswitch 147 0 10 #[59, 67, 75, 83, 91, 99, 107, 115, 123, 131, 139], 59) := by decide +kernel
theorem dX10_count_60 : decode cX10_count 60 = .ok (.aload_n 0, 1) := by decide +kernel
theorem dX10_count_61 : decode cX10_count 61 = .ok (.getfield 20, 3) := by decide +kernel
theorem dX10_count_64 : decode cX10_count 64 = .ok (.getfield 117, 3) := by decide +kernel
theorem dX10_count_67 : decode cX10_count 67 = .ok (.ireturn, 1) := by decide +kernel
theorem dX10_count_68 : decode cX10_count 68 = .ok (.aload_n 0, 1) := by decide +kernel
theorem dX10_count_69 : decode cX10_count 69 = .ok (.getfield 20, 3) := by decide +kernel
theorem dX10_count_72 : decode cX10_count 72 = .ok (.getfield 131, 3) := by decide +kernel
theorem dX10_count_75 : decode cX10_count 75 = .ok (.ireturn, 1) := by decide +kernel
theorem dX10_count_76 : decode cX10_count 76 = .ok (.aload_n 0, 1) := by decide +kernel
theorem dX10_count_77 : decode cX10_count 77 = .ok (.getfield 20, 3) := by decide +kernel
theorem dX10_count_80 : decode cX10_count 80 = .ok (.getfield 134, 3) := by decide +kernel
theorem dX10_count_83 : decode cX10_count 83 = .ok (.ireturn, 1) := by decide +kernel
theorem dX10_count_84 : decode cX10_count 84 = .ok (.aload_n 0, 1) := by decide +kernel
theorem dX10_count_85 : decode cX10_count 85 = .ok (.getfield 27, 3) := by decide +kernel
theorem dX10_count_88 : decode cX10_count 88 = .ok (.getfield 140, 3) := by decide +kernel
theorem dX10_count_91 : decode cX10_count 91 = .ok (.ireturn, 1) := by decide +kernel
theorem dX10_count_92 : decode cX10_count 92 = .ok (.aload_n 0, 1) := by decide +kernel
theorem dX10_count_93 : decode cX10_count 93 = .ok (.getfield 27, 3) := by decide +kernel
theorem dX10_count_96 : decode cX10_count 96 = .ok (.getfield 153, 3) := by decide +kernel
theorem dX10_count_99 : decode cX10_count 99 = .ok (.ireturn, 1) := by decide +kernel
theorem dX10_count_100 : decode cX10_count 100 = .ok (.aload_n 0, 1) := by decide +kernel
theorem dX10_count_101 : decode cX10_count 101 = .ok (.getfield 34, 3) := by decide +kernel
theorem dX10_count_104 : decode cX10_count 104 = .ok (.getfield 170, 3) := by decide +kernel
theorem dX10_count_107 : decode cX10_count 107 = .ok (.ireturn, 1) := by decide +kernel
theorem dX10_count_108 : decode cX10_count 108 = .ok (.aload_n 0, 1) := by decide +kernel
theorem dX10_count_109 : decode cX10_count 109 = .ok (.getfield 34, 3) := by decide +kernel
theorem dX10_count_112 : decode cX10_count 112 = .ok (.getfield 176, 3) := by decide +kernel
theorem dX10_count_115 : decode cX10_count 115 = .ok (.ireturn, 1) := by decide +kernel
theorem dX10_count_116 : decode cX10_count 116 = .ok (.aload_n 0, 1) := by decide +kernel
theorem dX10_count_117 : decode cX10_count 117 = .ok (.getfield 57, 3) := by decide +kernel
theorem dX10_count_120 : decode cX10_count 120 = .ok (.getfield 249, 3) := by decide +kernel
theorem dX10_count_123 : decode cX10_count 123 = .ok (.ireturn, 1) := by decide +kernel
theorem dX10_count_124 : decode cX10_count 124 = .ok (.aload_n 0, 1) := by decide +kernel
theorem dX10_count_125 : decode cX10_count 125 = .ok (.getfield 41, 3) := by decide +kernel
theorem dX10_count_128 : decode cX10_count 128 = .ok (.getfield 286, 3) := by decide +kernel
theorem dX10_count_131 : decode cX10_count 131 = .ok (.ireturn, 1) := by decide +kernel
theorem dX10_count_132 : decode cX10_count 132 = .ok (.aload_n 0, 1) := by decide +kernel
theorem dX10_count_133 : decode cX10_count 133 = .ok (.getfield 41, 3) := by decide +kernel
theorem dX10_count_136 : decode cX10_count 136 = .ok (.getfield 289, 3) := by decide +kernel
theorem dX10_count_139 : decode cX10_count 139 = .ok (.ireturn, 1) := by decide +kernel
theorem dX10_count_140 : decode cX10_count 140 = .ok (.aload_n 0, 1) := by decide +kernel
theorem dX10_count_141 : decode cX10_count 141 = .ok (.getfield 41, 3) := by decide +kernel
theorem dX10_count_144 : decode cX10_count 144 = .ok (.getfield 292, 3) := by decide +kernel
theorem dX10_count_147 : decode cX10_count 147 = .ok (.ireturn, 1) := by decide +kernel
theorem dX10_count_148 : decode cX10_count 148 = .ok (.iconst (-1), 1) := by decide +kernel
theorem dX10_count_149 : decode cX10_count 149 = .ok (.ireturn, 1) := by decide +kernel
theorem dX10_isWithin_0 : decode cX10_isWithin 0 = .ok (.iload_n 0, 1) := by decide +kernel
theorem dX10_isWithin_1 : decode cX10_isWithin 1 = .ok (.iload_n 1, 1) := by decide +kernel
theorem dX10_isWithin_2 : decode cX10_isWithin 2 = .ok (.if_icmp .lt 12, 3) := by decide +kernel
theorem dX10_isWithin_5 : decode cX10_isWithin 5 = .ok (.iload_n 0, 1) := by decide +kernel
theorem dX10_isWithin_6 : decode cX10_isWithin 6 = .ok (.iload_n 2, 1) := by decide +kernel
theorem dX10_isWithin_7 : decode cX10_isWithin 7 = .ok (.if_icmp .gt 7, 3) := by decide +kernel
theorem dX10_isWithin_10 : decode cX10_isWithin 10 = .ok (.iconst 1, 1) := by decide +kernel
theorem dX10_isWithin_11 : decode cX10_isWithin 11 = .ok (.goto 4, 3) := by decide +kernel
theorem dX10_isWithin_14 : decode cX10_isWithin 14 = .ok (.iconst 0, 1) := by decide +kernel
theorem dX10_isWithin_15 : decode cX10_isWithin 15 = .ok (.ireturn, 1) := by decide +kernel
theorem dX10_isNight_0 : decode cX10_isNight 0 = .ok (.iload_n 0, 1) := by decide +kernel
theorem dX10_isNight_1 : decode cX10_isNight 1 = .ok (.iconst 0, 1) := by decide +kernel
theorem dX10_isNight_2 : decode cX10_isNight 2 = .ok (.iconst 3, 1) := by decide +kernel
theorem dX10_isNight_3 : decode cX10_isNight 3 = .ok (.invokestatic 113, 3) := by decide +kernel
theorem dX10_isNight_6 : decode cX10_isNight 6 = .ok (.ireturn, 1) := by decide +kernel
theorem dX10_isShut_0 : decode cX10_isShut 0 = .ok (.iload_n 0, 1) := by decide +kernel
theorem dX10_isShut_1 : decode cX10_isShut 1 = .ok (.iconst 0, 1) := by decide +kernel
theorem dX10_isShut_2 : decode cX10_isShut 2 = .ok (.sipush 255, 3) := by decide +kernel
theorem dX10_isShut_5 : decode cX10_isShut 5 = .ok (.invokestatic 113, 3) := by decide +kernel
theorem dX10_isShut_8 : decode cX10_isShut 8 = .ok (.ireturn, 1) := by decide +kernel
theorem dJ9_max_7cf53_0 : decode cJ9_max_7cf53 0 = .ok (.iload_n 0, 1) := by decide +kernel
theorem dJ9_max_7cf53_1 : decode cJ9_max_7cf53 1 = .ok (.iload_n 1, 1) := by decide +kernel
theorem dJ9_max_7cf53_2 : decode cJ9_max_7cf53 2 = .ok (.if_icmp .lt 7, 3) := by decide +kernel
theorem dJ9_max_7cf53_5 : decode cJ9_max_7cf53 5 = .ok (.iload_n 0, 1) := by decide +kernel
theorem dJ9_max_7cf53_6 : decode cJ9_max_7cf53 6 = .ok (.goto 4, 3) := by decide +kernel
theorem dJ9_max_7cf53_9 : decode cJ9_max_7cf53 9 = .ok (.iload_n 1, 1) := by decide +kernel
theorem dJ9_max_7cf53_10 : decode cJ9_max_7cf53 10 = .ok (.ireturn, 1) := by decide +kernel
theorem dJ9_max_f86c9_0 : decode cJ9_max_f86c9 0 = .ok (.lload_n 0, 1) := by decide +kernel
theorem dJ9_max_f86c9_1 : decode cJ9_max_f86c9 1 = .ok (.lload_n 2, 1) := by decide +kernel
theorem dJ9_max_f86c9_2 : decode cJ9_max_f86c9 2 = .ok (.lcmp, 1) := by decide +kernel
theorem dJ9_max_f86c9_3 : decode cJ9_max_f86c9 3 = .ok (.ifCond .lt 7, 3) := by decide +kernel
theorem dJ9_max_f86c9_6 : decode cJ9_max_f86c9 6 = .ok (.lload_n 0, 1) := by decide +kernel
theorem dJ9_max_f86c9_7 : decode cJ9_max_f86c9 7 = .ok (.goto 4, 3) := by decide +kernel
theorem dJ9_max_f86c9_10 : decode cJ9_max_f86c9 10 = .ok (.lload_n 2, 1) := by decide +kernel
theorem dJ9_max_f86c9_11 : decode cJ9_max_f86c9 11 = .ok (.lreturn, 1) := by decide +kernel
theorem dJ9_min_7cf53_0 : decode cJ9_min_7cf53 0 = .ok (.iload_n 0, 1) := by decide +kernel
theorem dJ9_min_7cf53_1 : decode cJ9_min_7cf53 1 = .ok (.iload_n 1, 1) := by decide +kernel
theorem dJ9_min_7cf53_2 : decode cJ9_min_7cf53 2 = .ok (.if_icmp .gt 7, 3) := by decide +kernel
theorem dJ9_min_7cf53_5 : decode cJ9_min_7cf53 5 = .ok (.iload_n 0, 1) := by decide +kernel
theorem dJ9_min_7cf53_6 : decode cJ9_min_7cf53 6 = .ok (.goto 4, 3) := by decide +kernel
theorem dJ9_min_7cf53_9 : decode cJ9_min_7cf53 9 = .ok (.iload_n 1, 1) := by decide +kernel
theorem dJ9_min_7cf53_10 : decode cJ9_min_7cf53 10 = .ok (.ireturn, 1) := by decide +kernel
theorem dJ9_min_f86c9_0 : decode cJ9_min_f86c9 0 = .ok (.lload_n 0, 1) := by decide +kernel
theorem dJ9_min_f86c9_1 : decode cJ9_min_f86c9 1 = .ok (.lload_n 2, 1) := by decide +kernel
theorem dJ9_min_f86c9_2 : decode cJ9_min_f86c9 2 = .ok (.lcmp, 1) := by decide +kernel
theorem dJ9_min_f86c9_3 : decode cJ9_min_f86c9 3 = .ok (.ifCond .gt 7, 3) := by decide +kernel
theorem dJ9_min_f86c9_6 : decode cJ9_min_f86c9 6 = .ok (.lload_n 0, 1) := by decide +kernel
theorem dJ9_min_f86c9_7 : decode cJ9_min_f86c9 7 = .ok (.goto 4, 3) := by decide +kernel
theorem dJ9_min_f86c9_10 : decode cJ9_min_f86c9 10 = .ok (.lload_n 2, 1) := by decide +kernel
theorem dJ9_min_f86c9_11 : decode cJ9_min_f86c9 11 = .ok (.lreturn, 1) := by decide +kernel
theorem dJ0_length_8abf5_0 : decode cJ0_length_8abf5 0 = .ok (.aload_n 0, 1) := by decide +kernel
theorem dJ0_length_8abf5_1 : decode cJ0_length_8abf5 1 = .ok (.getfield 9, 3) := by decide +kernel
theorem dJ0_length_8abf5_4 : decode cJ0_length_8abf5 4 = .ok (.arraylength, 1) := by decide +kernel
theorem dJ0_length_8abf5_5 : decode cJ0_length_8abf5 5 = .ok (.aload_n 0, 1) := by decide +kernel
theorem dJ0_length_8abf5_6 : decode cJ0_length_8abf5 6 = .ok (.invokevirtual 335, 3) := by decide +kernel
theorem dJ0_length_8abf5_9 : decode cJ0_length_8abf5 9 = .ok (.ishr, 1) := by decide +kernel
theorem dJ0_length_8abf5_10 : decode cJ0_length_8abf5 10 = .ok (.ireturn, 1) := by decide +kernel
theorem dJ0_charAt_5068e_0 : decode cJ0_charAt_5068e 0 = .ok (.aload_n 0, 1) := by decide +kernel
theorem dJ0_charAt_5068e_1 : decode cJ0_charAt_5068e 1 = .ok (.invokevirtual 492, 3) := by decide +kernel
theorem dJ0_charAt_5068e_4 : decode cJ0_charAt_5068e 4 = .ok (.ifCond .eq 12, 3) := by decide +kernel
theorem dJ0_charAt_5068e_7 : decode cJ0_charAt_5068e 7 = .ok (.aload_n 0, 1) := by decide +kernel
theorem dJ0_charAt_5068e_8 : decode cJ0_charAt_5068e 8 = .ok (.getfield 9, 3) := by decide +kernel
theorem dJ0_charAt_5068e_11 : decode cJ0_charAt_5068e 11 = .ok (.iload_n 1, 1) := by decide +kernel
theorem dJ0_charAt_5068e_12 : decode cJ0_charAt_5068e 12 = .ok (.invokestatic 495, 3) := by decide +kernel
theorem dJ0_charAt_5068e_15 : decode cJ0_charAt_5068e 15 = .ok (.ireturn, 1) := by decide +kernel
theorem dJ0_charAt_5068e_16 : decode cJ0_charAt_5068e 16 = .ok (.aload_n 0, 1) := by decide +kernel
theorem dJ0_charAt_5068e_17 : decode cJ0_charAt_5068e 17 = .ok (.getfield 9, 3) := by decide +kernel
theorem dJ0_charAt_5068e_20 : decode cJ0_charAt_5068e 20 = .ok (.iload_n 1, 1) := by decide +kernel
theorem dJ0_charAt_5068e_21 : decode cJ0_charAt_5068e 21 = .ok (.invokestatic 498, 3) := by decide +kernel
theorem dJ0_charAt_5068e_24 : decode cJ0_charAt_5068e 24 = .ok (.ireturn, 1) := by decide +kernel
theorem dJ0_coder_7d493_0 : decode cJ0_coder_7d493 0 = .ok (.getstatic 38, 3) := by decide +kernel
theorem dJ0_coder_7d493_3 : decode cJ0_coder_7d493 3 = .ok (.ifCond .eq 10, 3) := by decide +kernel
theorem dJ0_coder_7d493_6 : decode cJ0_coder_7d493 6 = .ok (.aload_n 0, 1) := by decide +kernel
theorem dJ0_coder_7d493_7 : decode cJ0_coder_7d493 7 = .ok (.getfield 15, 3) := by decide +kernel
theorem dJ0_coder_7d493_10 : decode cJ0_coder_7d493 10 = .ok (.goto 4, 3) := by decide +kernel
theorem dJ0_coder_7d493_13 : decode cJ0_coder_7d493 13 = .ok (.iconst 1, 1) := by decide +kernel
theorem dJ0_coder_7d493_14 : decode cJ0_coder_7d493 14 = .ok (.ireturn, 1) := by decide +kernel
theorem dJ0_isLatin1_aae02_0 : decode cJ0_isLatin1_aae02 0 = .ok (.getstatic 38, 3) := by decide +kernel
theorem dJ0_isLatin1_aae02_3 : decode cJ0_isLatin1_aae02 3 = .ok (.ifCond .eq 14, 3) := by decide +kernel
theorem dJ0_isLatin1_aae02_6 : decode cJ0_isLatin1_aae02 6 = .ok (.aload_n 0, 1) := by decide +kernel
theorem dJ0_isLatin1_aae02_7 : decode cJ0_isLatin1_aae02 7 = .ok (.getfield 15, 3) := by decide +kernel
theorem dJ0_isLatin1_aae02_10 : decode cJ0_isLatin1_aae02 10 = .ok (.ifCond .ne 7, 3) := by decide +kernel
theorem dJ0_isLatin1_aae02_13 : decode cJ0_isLatin1_aae02 13 = .ok (.iconst 1, 1) := by decide +kernel
theorem dJ0_isLatin1_aae02_14 : decode cJ0_isLatin1_aae02 14 = .ok (.goto 4, 3) := by decide +kernel
theorem dJ0_isLatin1_aae02_17 : decode cJ0_isLatin1_aae02 17 = .ok (.iconst 0, 1) := by decide +kernel
theorem dJ0_isLatin1_aae02_18 : decode cJ0_isLatin1_aae02 18 = .ok (.ireturn, 1) := by decide +kernel
theorem dJ0_checkIndex_df160_0 : decode cJ0_checkIndex_df160 0 = .ok (.iload_n 0, 1) := by decide +kernel
theorem dJ0_checkIndex_df160_1 : decode cJ0_checkIndex_df160 1 = .ok (.iload_n 1, 1) := by decide +kernel
theorem dJ0_checkIndex_df160_2 : decode cJ0_checkIndex_df160 2 = .ok (.getstatic 1053, 3) := by decide +kernel
theorem dJ0_checkIndex_df160_5 : decode cJ0_checkIndex_df160 5 = .ok (.invokestatic 1059, 3) := by decide +kernel
theorem dJ0_checkIndex_df160_8 : decode cJ0_checkIndex_df160 8 = .ok (.pop, 1) := by decide +kernel
theorem dJ0_checkIndex_df160_9 : decode cJ0_checkIndex_df160 9 = .ok (.return_, 1) := by decide +kernel
theorem dJ1_charAt_3b067_0 : decode cJ1_charAt_3b067 0 = .ok (.iload_n 1, 1) := by decide +kernel
theorem dJ1_charAt_3b067_1 : decode cJ1_charAt_3b067 1 = .ok (.aload_n 0, 1) := by decide +kernel
theorem dJ1_charAt_3b067_2 : decode cJ1_charAt_3b067 2 = .ok (.arraylength, 1) := by decide +kernel
theorem dJ1_charAt_3b067_3 : decode cJ1_charAt_3b067 3 = .ok (.invokestatic 9, 3) := by decide +kernel
theorem dJ1_charAt_3b067_6 : decode cJ1_charAt_3b067 6 = .ok (.aload_n 0, 1) := by decide +kernel
theorem dJ1_charAt_3b067_7 : decode cJ1_charAt_3b067 7 = .ok (.iload_n 1, 1) := by decide +kernel
theorem dJ1_charAt_3b067_8 : decode cJ1_charAt_3b067 8 = .ok (.baload, 1) := by decide +kernel
theorem dJ1_charAt_3b067_9 : decode cJ1_charAt_3b067 9 = .ok (.sipush 255, 3) := by decide +kernel
theorem dJ1_charAt_3b067_12 : decode cJ1_charAt_3b067 12 = .ok (.iand, 1) := by decide +kernel
theorem dJ1_charAt_3b067_13 : decode cJ1_charAt_3b067 13 = .ok (.i2c, 1) := by decide +kernel
theorem dJ1_charAt_3b067_14 : decode cJ1_charAt_3b067 14 = .ok (.ireturn, 1) := by decide +kernel
theorem dJ2_getChar_3b067_0 : decode cJ2_getChar_3b067 0 = .ok (.getstatic 44, 3) := by decide +kernel
theorem dJ2_getChar_3b067_3 : decode cJ2_getChar_3b067 3 = .ok (.ifCond .ne 25, 3) := by decide +kernel
theorem dJ2_getChar_3b067_6 : decode cJ2_getChar_3b067 6 = .ok (.iload_n 1, 1) := by decide +kernel
theorem dJ2_getChar_3b067_7 : decode cJ2_getChar_3b067 7 = .ok (.ifCond .lt 11, 3) := by decide +kernel
theorem dJ2_getChar_3b067_10 : decode cJ2_getChar_3b067 10 = .ok (.iload_n 1, 1) := by decide +kernel
theorem dJ2_getChar_3b067_11 : decode cJ2_getChar_3b067 11 = .ok (.aload_n 0, 1) := by decide +kernel
theorem dJ2_getChar_3b067_12 : decode cJ2_getChar_3b067 12 = .ok (.invokestatic 48, 3) := by decide +kernel
theorem dJ2_getChar_3b067_15 : decode cJ2_getChar_3b067 15 = .ok (.if_icmp .lt 13, 3) := by decide +kernel
theorem dJ2_getChar_3b067_18 : decode cJ2_getChar_3b067 18 = .ok (.new 52, 3) := by decide +kernel
theorem dJ2_getChar_3b067_21 : decode cJ2_getChar_3b067 21 = .ok (.dup, 1) := by decide +kernel
theorem dJ2_getChar_3b067_22 : decode cJ2_getChar_3b067 22 = .ok (.ldc 54, 2) := by decide +kernel
theorem dJ2_getChar_3b067_24 : decode cJ2_getChar_3b067 24 = .ok (.invokespecial 56, 3) := by decide +kernel
theorem dJ2_getChar_3b067_27 : decode cJ2_getChar_3b067 27 = .ok (.athrow, 1) := by decide +kernel
theorem dJ2_getChar_3b067_28 : decode cJ2_getChar_3b067 28 = .ok (.iload_n 1, 1) := by decide +kernel
theorem dJ2_getChar_3b067_29 : decode cJ2_getChar_3b067 29 = .ok (.iconst 1, 1) := by decide +kernel
theorem dJ2_getChar_3b067_30 : decode cJ2_getChar_3b067 30 = .ok (.ishl, 1) := by decide +kernel
theorem dJ2_getChar_3b067_31 : decode cJ2_getChar_3b067 31 = .ok (.istore_n 1, 1) := by decide +kernel
theorem dJ2_getChar_3b067_32 : decode cJ2_getChar_3b067 32 = .ok (.aload_n 0, 1) := by decide +kernel
theorem dJ2_getChar_3b067_33 : decode cJ2_getChar_3b067 33 = .ok (.iload_n 1, 1) := by decide +kernel
theorem dJ2_getChar_3b067_34 : decode cJ2_getChar_3b067 34 = .ok (.iinc 1 1, 3) := by decide +kernel
theorem dJ2_getChar_3b067_37 : decode cJ2_getChar_3b067 37 = .ok (.baload, 1) := by decide +kernel
theorem dJ2_getChar_3b067_38 : decode cJ2_getChar_3b067 38 = .ok (.sipush 255, 3) := by decide +kernel
theorem dJ2_getChar_3b067_41 : decode cJ2_getChar_3b067 41 = .ok (.iand, 1) := by decide +kernel
theorem dJ2_getChar_3b067_42 : decode cJ2_getChar_3b067 42 = .ok (.getstatic 59, 3) := by decide +kernel
theorem dJ2_getChar_3b067_45 : decode cJ2_getChar_3b067 45 = .ok (.ishl, 1) := by decide +kernel
theorem dJ2_getChar_3b067_46 : decode cJ2_getChar_3b067 46 = .ok (.aload_n 0, 1) := by decide +kernel
theorem dJ2_getChar_3b067_47 : decode cJ2_getChar_3b067 47 = .ok (.iload_n 1, 1) := by decide +kernel
theorem dJ2_getChar_3b067_48 : decode cJ2_getChar_3b067 48 = .ok (.baload, 1) := by decide +kernel
theorem dJ2_getChar_3b067_49 : decode cJ2_getChar_3b067 49 = .ok (.sipush 255, 3) := by decide +kernel
theorem dJ2_getChar_3b067_52 : decode cJ2_getChar_3b067 52 = .ok (.iand, 1) := by decide +kernel
theorem dJ2_getChar_3b067_53 : decode cJ2_getChar_3b067 53 = .ok (.getstatic 63, 3) := by decide +kernel
theorem dJ2_getChar_3b067_56 : decode cJ2_getChar_3b067 56 = .ok (.ishl, 1) := by decide +kernel
theorem dJ2_getChar_3b067_57 : decode cJ2_getChar_3b067 57 = .ok (.ior, 1) := by decide +kernel
theorem dJ2_getChar_3b067_58 : decode cJ2_getChar_3b067 58 = .ok (.i2c, 1) := by decide +kernel
theorem dJ2_getChar_3b067_59 : decode cJ2_getChar_3b067 59 = .ok (.ireturn, 1) := by decide +kernel
theorem dJ2_length_9d52b_0 : decode cJ2_length_9d52b 0 = .ok (.aload_n 0, 1) := by decide +kernel
theorem dJ2_length_9d52b_1 : decode cJ2_length_9d52b 1 = .ok (.arraylength, 1) := by decide +kernel
theorem dJ2_length_9d52b_2 : decode cJ2_length_9d52b 2 = .ok (.iconst 1, 1) := by decide +kernel
theorem dJ2_length_9d52b_3 : decode cJ2_length_9d52b 3 = .ok (.ishr, 1) := by decide +kernel
theorem dJ2_length_9d52b_4 : decode cJ2_length_9d52b 4 = .ok (.ireturn, 1) := by decide +kernel
theorem dJ2_charAt_3b067_0 : decode cJ2_charAt_3b067 0 = .ok (.iload_n 1, 1) := by decide +kernel
theorem dJ2_charAt_3b067_1 : decode cJ2_charAt_3b067 1 = .ok (.aload_n 0, 1) := by decide +kernel
theorem dJ2_charAt_3b067_2 : decode cJ2_charAt_3b067 2 = .ok (.invokestatic 67, 3) := by decide +kernel
theorem dJ2_charAt_3b067_5 : decode cJ2_charAt_3b067 5 = .ok (.aload_n 0, 1) := by decide +kernel
theorem dJ2_charAt_3b067_6 : decode cJ2_charAt_3b067 6 = .ok (.iload_n 1, 1) := by decide +kernel
theorem dJ2_charAt_3b067_7 : decode cJ2_charAt_3b067 7 = .ok (.invokestatic 71, 3) := by decide +kernel
theorem dJ2_charAt_3b067_10 : decode cJ2_charAt_3b067 10 = .ok (.ireturn, 1) := by decide +kernel
theorem dJ2_checkIndex_2214a_0 : decode cJ2_checkIndex_2214a 0 = .ok (.iload_n 0, 1) := by decide +kernel
theorem dJ2_checkIndex_2214a_1 : decode cJ2_checkIndex_2214a 1 = .ok (.aload_n 1, 1) := by decide +kernel
theorem dJ2_checkIndex_2214a_2 : decode cJ2_checkIndex_2214a 2 = .ok (.invokestatic 48, 3) := by decide +kernel
theorem dJ2_checkIndex_2214a_5 : decode cJ2_checkIndex_2214a 5 = .ok (.invokestatic 414, 3) := by decide +kernel
theorem dJ2_checkIndex_2214a_8 : decode cJ2_checkIndex_2214a 8 = .ok (.return_, 1) := by decide +kernel
theorem dJ7_fill_53178_0 : decode cJ7_fill_53178 0 = .ok (.iconst 0, 1) := by decide +kernel
theorem dJ7_fill_53178_1 : decode cJ7_fill_53178 1 = .ok (.istore_n 2, 1) := by decide +kernel
theorem dJ7_fill_53178_2 : decode cJ7_fill_53178 2 = .ok (.aload_n 0, 1) := by decide +kernel
theorem dJ7_fill_53178_3 : decode cJ7_fill_53178 3 = .ok (.arraylength, 1) := by decide +kernel
theorem dJ7_fill_53178_4 : decode cJ7_fill_53178 4 = .ok (.istore_n 3, 1) := by decide +kernel
theorem dJ7_fill_53178_5 : decode cJ7_fill_53178 5 = .ok (.iload_n 2, 1) := by decide +kernel
theorem dJ7_fill_53178_6 : decode cJ7_fill_53178 6 = .ok (.iload_n 3, 1) := by decide +kernel
theorem dJ7_fill_53178_7 : decode cJ7_fill_53178 7 = .ok (.if_icmp .ge 13, 3) := by decide +kernel
theorem dJ7_fill_53178_10 : decode cJ7_fill_53178 10 = .ok (.aload_n 0, 1) := by decide +kernel
theorem dJ7_fill_53178_11 : decode cJ7_fill_53178 11 = .ok (.iload_n 2, 1) := by decide +kernel
theorem dJ7_fill_53178_12 : decode cJ7_fill_53178 12 = .ok (.iload_n 1, 1) := by decide +kernel
theorem dJ7_fill_53178_13 : decode cJ7_fill_53178 13 = .ok (.iastore, 1) := by decide +kernel
theorem dJ7_fill_53178_14 : decode cJ7_fill_53178 14 = .ok (.iinc 2 1, 3) := by decide +kernel
theorem dJ7_fill_53178_17 : decode cJ7_fill_53178 17 = .ok (.goto (-12), 3) := by decide +kernel
theorem dJ7_fill_53178_20 : decode cJ7_fill_53178 20 = .ok (.return_, 1) := by decide +kernel
theorem dJ3_checkIndex_8e157_0 : decode cJ3_checkIndex_8e157 0 = .ok (.iload_n 0, 1) := by decide +kernel
theorem dJ3_checkIndex_8e157_1 : decode cJ3_checkIndex_8e157 1 = .ok (.ifCond .lt 8, 3) := by decide +kernel
theorem dJ3_checkIndex_8e157_4 : decode cJ3_checkIndex_8e157 4 = .ok (.iload_n 0, 1) := by decide +kernel
theorem dJ3_checkIndex_8e157_5 : decode cJ3_checkIndex_8e157 5 = .ok (.iload_n 1, 1) := by decide +kernel
theorem dJ3_checkIndex_8e157_6 : decode cJ3_checkIndex_8e157 6 = .ok (.if_icmp .lt 10, 3) := by decide +kernel
theorem dJ3_checkIndex_8e157_9 : decode cJ3_checkIndex_8e157 9 = .ok (.aload_n 2, 1) := by decide +kernel
theorem dJ3_checkIndex_8e157_10 : decode cJ3_checkIndex_8e157 10 = .ok (.iload_n 0, 1) := by decide +kernel
theorem dJ3_checkIndex_8e157_11 : decode cJ3_checkIndex_8e157 11 = .ok (.iload_n 1, 1) := by decide +kernel
theorem dJ3_checkIndex_8e157_12 : decode cJ3_checkIndex_8e157 12 = .ok (.invokestatic 95, 3) := by decide +kernel
theorem dJ3_checkIndex_8e157_15 : decode cJ3_checkIndex_8e157 15 = .ok (.athrow, 1) := by decide +kernel
theorem dJ3_checkIndex_8e157_16 : decode cJ3_checkIndex_8e157 16 = .ok (.iload_n 0, 1) := by decide +kernel
theorem dJ3_checkIndex_8e157_17 : decode cJ3_checkIndex_8e157 17 = .ok (.ireturn, 1) := by decide +kernel
