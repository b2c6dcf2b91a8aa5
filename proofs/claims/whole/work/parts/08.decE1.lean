theorem dX11_wordAt_88 : decode cX11_wordAt 88 = .ok (.if_icmp .ne 7, 3) := by decide +kernel
theorem dX11_wordAt_91 : decode cX11_wordAt 91 = .ok (.iconst 1, 1) := by decide +kernel
theorem dX11_wordAt_92 : decode cX11_wordAt 92 = .ok (.goto 4, 3) := by decide +kernel
theorem dX11_wordAt_95 : decode cX11_wordAt 95 = .ok (.iconst 0, 1) := by decide +kernel
theorem dX11_wordAt_96 : decode cX11_wordAt 96 = .ok (.istore 6, 2) := by decide +kernel
theorem dX11_wordAt_98 : decode cX11_wordAt 98 = .ok (.iinc 7 1, 3) := by decide +kernel
theorem dX11_wordAt_101 : decode cX11_wordAt 101 = .ok (.goto (-44), 3) := by decide +kernel
theorem dX11_wordAt_104 : decode cX11_wordAt 104 = .ok (.iload 6, 2) := by decide +kernel
theorem dX11_wordAt_106 : decode cX11_wordAt 106 = .ok (.ifCond .eq 5, 3) := by decide +kernel
theorem dX11_wordAt_109 : decode cX11_wordAt 109 = .ok (.iload_n 3, 1) := by decide +kernel
theorem dX11_wordAt_110 : decode cX11_wordAt 110 = .ok (.ireturn, 1) := by decide +kernel
theorem dX11_wordAt_111 : decode cX11_wordAt 111 = .ok (.iload 4, 2) := by decide +kernel
theorem dX11_wordAt_113 : decode cX11_wordAt 113 = .ok (.iload 5, 2) := by decide +kernel
theorem dX11_wordAt_115 : decode cX11_wordAt 115 = .ok (.iconst 1, 1) := by decide +kernel
theorem dX11_wordAt_116 : decode cX11_wordAt 116 = .ok (.iadd, 1) := by decide +kernel
theorem dX11_wordAt_117 : decode cX11_wordAt 117 = .ok (.iadd, 1) := by decide +kernel
theorem dX11_wordAt_118 : decode cX11_wordAt 118 = .ok (.istore 4, 2) := by decide +kernel
theorem dX11_wordAt_120 : decode cX11_wordAt 120 = .ok (.iinc 3 1, 3) := by decide +kernel
theorem dX11_wordAt_123 : decode cX11_wordAt 123 = .ok (.goto (-118), 3) := by decide +kernel
theorem dX11_wordAt_126 : decode cX11_wordAt 126 = .ok (.iconst (-1), 1) := by decide +kernel
theorem dX11_wordAt_127 : decode cX11_wordAt 127 = .ok (.ireturn, 1) := by decide +kernel
theorem dX11_isSmall_0 : decode cX11_isSmall 0 = .ok (.iload_n 1, 1) := by decide +kernel
theorem dX11_isSmall_1 : decode cX11_isSmall 1 = .ok (.aload_n 0, 1) := by decide +kernel
theorem dX11_isSmall_2 : decode cX11_isSmall 2 = .ok (.getfield 221, 3) := by decide +kernel
theorem dX11_isSmall_5 : decode cX11_isSmall 5 = .ok (.if_icmp .ge 29, 3) := by decide +kernel
theorem dX11_isSmall_8 : decode cX11_isSmall 8 = .ok (.aload_n 0, 1) := by decide +kernel
theorem dX11_isSmall_9 : decode cX11_isSmall 9 = .ok (.getfield 7, 3) := by decide +kernel
theorem dX11_isSmall_12 : decode cX11_isSmall 12 = .ok (.iload_n 1, 1) := by decide +kernel
theorem dX11_isSmall_13 : decode cX11_isSmall 13 = .ok (.iaload, 1) := by decide +kernel
theorem dX11_isSmall_14 : decode cX11_isSmall 14 = .ok (.bipush 97, 2) := by decide +kernel
theorem dX11_isSmall_16 : decode cX11_isSmall 16 = .ok (.if_icmp .lt 18, 3) := by decide +kernel
theorem dX11_isSmall_19 : decode cX11_isSmall 19 = .ok (.aload_n 0, 1) := by decide +kernel
theorem dX11_isSmall_20 : decode cX11_isSmall 20 = .ok (.getfield 7, 3) := by decide +kernel
theorem dX11_isSmall_23 : decode cX11_isSmall 23 = .ok (.iload_n 1, 1) := by decide +kernel
theorem dX11_isSmall_24 : decode cX11_isSmall 24 = .ok (.iaload, 1) := by decide +kernel
theorem dX11_isSmall_25 : decode cX11_isSmall 25 = .ok (.bipush 122, 2) := by decide +kernel
theorem dX11_isSmall_27 : decode cX11_isSmall 27 = .ok (.if_icmp .gt 7, 3) := by decide +kernel
theorem dX11_isSmall_30 : decode cX11_isSmall 30 = .ok (.iconst 1, 1) := by decide +kernel
theorem dX11_isSmall_31 : decode cX11_isSmall 31 = .ok (.goto 4, 3) := by decide +kernel
theorem dX11_isSmall_34 : decode cX11_isSmall 34 = .ok (.iconst 0, 1) := by decide +kernel
theorem dX11_isSmall_35 : decode cX11_isSmall 35 = .ok (.ireturn, 1) := by decide +kernel
theorem dX11_isDigit_0 : decode cX11_isDigit 0 = .ok (.iload_n 1, 1) := by decide +kernel
theorem dX11_isDigit_1 : decode cX11_isDigit 1 = .ok (.aload_n 0, 1) := by decide +kernel
theorem dX11_isDigit_2 : decode cX11_isDigit 2 = .ok (.getfield 221, 3) := by decide +kernel
theorem dX11_isDigit_5 : decode cX11_isDigit 5 = .ok (.if_icmp .ge 29, 3) := by decide +kernel
theorem dX11_isDigit_8 : decode cX11_isDigit 8 = .ok (.aload_n 0, 1) := by decide +kernel
theorem dX11_isDigit_9 : decode cX11_isDigit 9 = .ok (.getfield 7, 3) := by decide +kernel
theorem dX11_isDigit_12 : decode cX11_isDigit 12 = .ok (.iload_n 1, 1) := by decide +kernel
theorem dX11_isDigit_13 : decode cX11_isDigit 13 = .ok (.iaload, 1) := by decide +kernel
theorem dX11_isDigit_14 : decode cX11_isDigit 14 = .ok (.bipush 48, 2) := by decide +kernel
theorem dX11_isDigit_16 : decode cX11_isDigit 16 = .ok (.if_icmp .lt 18, 3) := by decide +kernel
theorem dX11_isDigit_19 : decode cX11_isDigit 19 = .ok (.aload_n 0, 1) := by decide +kernel
theorem dX11_isDigit_20 : decode cX11_isDigit 20 = .ok (.getfield 7, 3) := by decide +kernel
theorem dX11_isDigit_23 : decode cX11_isDigit 23 = .ok (.iload_n 1, 1) := by decide +kernel
theorem dX11_isDigit_24 : decode cX11_isDigit 24 = .ok (.iaload, 1) := by decide +kernel
theorem dX11_isDigit_25 : decode cX11_isDigit 25 = .ok (.bipush 57, 2) := by decide +kernel
theorem dX11_isDigit_27 : decode cX11_isDigit 27 = .ok (.if_icmp .gt 7, 3) := by decide +kernel
theorem dX11_isDigit_30 : decode cX11_isDigit 30 = .ok (.iconst 1, 1) := by decide +kernel
theorem dX11_isDigit_31 : decode cX11_isDigit 31 = .ok (.goto 4, 3) := by decide +kernel
theorem dX11_isDigit_34 : decode cX11_isDigit 34 = .ok (.iconst 0, 1) := by decide +kernel
theorem dX11_isDigit_35 : decode cX11_isDigit 35 = .ok (.ireturn, 1) := by decide +kernel
theorem dX11_isAt_0 : decode cX11_isAt 0 = .ok (.iload_n 1, 1) := by decide +kernel
theorem dX11_isAt_1 : decode cX11_isAt 1 = .ok (.aload_n 0, 1) := by decide +kernel
theorem dX11_isAt_2 : decode cX11_isAt 2 = .ok (.getfield 221, 3) := by decide +kernel
theorem dX11_isAt_5 : decode cX11_isAt 5 = .ok (.if_icmp .ge 17, 3) := by decide +kernel
theorem dX11_isAt_8 : decode cX11_isAt 8 = .ok (.aload_n 0, 1) := by decide +kernel
theorem dX11_isAt_9 : decode cX11_isAt 9 = .ok (.getfield 7, 3) := by decide +kernel
theorem dX11_isAt_12 : decode cX11_isAt 12 = .ok (.iload_n 1, 1) := by decide +kernel
theorem dX11_isAt_13 : decode cX11_isAt 13 = .ok (.iaload, 1) := by decide +kernel
theorem dX11_isAt_14 : decode cX11_isAt 14 = .ok (.iload_n 2, 1) := by decide +kernel
theorem dX11_isAt_15 : decode cX11_isAt 15 = .ok (.if_icmp .ne 7, 3) := by decide +kernel
theorem dX11_isAt_18 : decode cX11_isAt 18 = .ok (.iconst 1, 1) := by decide +kernel
theorem dX11_isAt_19 : decode cX11_isAt 19 = .ok (.goto 4, 3) := by decide +kernel
theorem dX11_isAt_22 : decode cX11_isAt 22 = .ok (.iconst 0, 1) := by decide +kernel
theorem dX11_isAt_23 : decode cX11_isAt 23 = .ok (.ireturn, 1) := by decide +kernel
theorem dX11_signOf_0 : decode cX11_signOf 0 = .ok (.iload_n 1, 1) := by decide +kernel
theorem dX11_signOf_1 : decode cX11_signOf 1 = .ok (.bipush 60, 2) := by decide +kernel
theorem dX11_signOf_3 : decode cX11_signOf 3 = .ok (.if_icmp .ne 39, 3) := by decide +kernel
theorem dX11_signOf_6 : decode cX11_signOf 6 = .ok (.aload_n 0, 1) := by decide +kernel
theorem dX11_signOf_7 : decode cX11_signOf 7 = .ok (.aload_n 0, 1) := by decide +kernel
theorem dX11_signOf_8 : decode cX11_signOf 8 = .ok (.getfield 224, 3) := by decide +kernel
theorem dX11_signOf_11 : decode cX11_signOf 11 = .ok (.bipush 61, 2) := by decide +kernel
theorem dX11_signOf_13 : decode cX11_signOf 13 = .ok (.invokevirtual 227, 3) := by decide +kernel
theorem dX11_signOf_16 : decode cX11_signOf 16 = .ok (.ifCond .eq 7, 3) := by decide +kernel
theorem dX11_signOf_19 : decode cX11_signOf 19 = .ok (.iconst 2, 1) := by decide +kernel
theorem dX11_signOf_20 : decode cX11_signOf 20 = .ok (.goto 21, 3) := by decide +kernel
theorem dX11_signOf_23 : decode cX11_signOf 23 = .ok (.aload_n 0, 1) := by decide +kernel
theorem dX11_signOf_24 : decode cX11_signOf 24 = .ok (.aload_n 0, 1) := by decide +kernel
theorem dX11_signOf_25 : decode cX11_signOf 25 = .ok (.getfield 224, 3) := by decide +kernel
theorem dX11_signOf_28 : decode cX11_signOf 28 = .ok (.bipush 62, 2) := by decide +kernel
theorem dX11_signOf_30 : decode cX11_signOf 30 = .ok (.invokevirtual 227, 3) := by decide +kernel
theorem dX11_signOf_33 : decode cX11_signOf 33 = .ok (.ifCond .eq 7, 3) := by decide +kernel
theorem dX11_signOf_36 : decode cX11_signOf 36 = .ok (.iconst 4, 1) := by decide +kernel
theorem dX11_signOf_37 : decode cX11_signOf 37 = .ok (.goto 4, 3) := by decide +kernel
theorem dX11_signOf_40 : decode cX11_signOf 40 = .ok (.iconst 1, 1) := by decide +kernel
theorem dX11_signOf_41 : decode cX11_signOf 41 = .ok (.ireturn, 1) := by decide +kernel
theorem dX11_signOf_42 : decode cX11_signOf 42 = .ok (.iload_n 1, 1) := by decide +kernel
theorem dX11_signOf_43 : decode cX11_signOf 43 = .ok (.bipush 62, 2) := by decide +kernel
theorem dX11_signOf_45 : decode cX11_signOf 45 = .ok (.if_icmp .ne 23, 3) := by decide +kernel
theorem dX11_signOf_48 : decode cX11_signOf 48 = .ok (.aload_n 0, 1) := by decide +kernel
theorem dX11_signOf_49 : decode cX11_signOf 49 = .ok (.aload_n 0, 1) := by decide +kernel
theorem dX11_signOf_50 : decode cX11_signOf 50 = .ok (.getfield 224, 3) := by decide +kernel
theorem dX11_signOf_53 : decode cX11_signOf 53 = .ok (.bipush 61, 2) := by decide +kernel
theorem dX11_signOf_55 : decode cX11_signOf 55 = .ok (.invokevirtual 227, 3) := by decide +kernel
theorem dX11_signOf_58 : decode cX11_signOf 58 = .ok (.ifCond .eq 7, 3) := by decide +kernel
theorem dX11_signOf_61 : decode cX11_signOf 61 = .ok (.iconst 5, 1) := by decide +kernel
theorem dX11_signOf_62 : decode cX11_signOf 62 = .ok (.goto 5, 3) := by decide +kernel
theorem dX11_signOf_65 : decode cX11_signOf 65 = .ok (.bipush 6, 2) := by decide +kernel
theorem dX11_signOf_67 : decode cX11_signOf 67 = .ok (.ireturn, 1) := by decide +kernel
theorem dX11_signOf_68 : decode cX11_signOf 68 = .ok (.iload_n 1, 1) := by decide +kernel
theorem dX11_signOf_69 : decode cX11_signOf 69 = .ok (.bipush 61, 2) := by decide +kernel
theorem dX11_signOf_71 : decode cX11_signOf 71 = .ok (.if_icmp .ne 7, 3) := by decide +kernel
theorem dX11_signOf_74 : decode cX11_signOf 74 = .ok (.iconst 3, 1) := by decide +kernel
theorem dX11_signOf_75 : decode cX11_signOf 75 = .ok (.goto 81, 3) := by decide +kernel
theorem dX11_signOf_78 : decode cX11_signOf 78 = .ok (.iload_n 1, 1) := by decide +kernel
theorem dX11_signOf_79 : decode cX11_signOf 79 = .ok (.bipush 43, 2) := by decide +kernel
theorem dX11_signOf_81 : decode cX11_signOf 81 = .ok (.if_icmp .ne 8, 3) := by decide +kernel
theorem dX11_signOf_84 : decode cX11_signOf 84 = .ok (.bipush 7, 2) := by decide +kernel
theorem dX11_signOf_86 : decode cX11_signOf 86 = .ok (.goto 70, 3) := by decide +kernel
theorem dX11_signOf_89 : decode cX11_signOf 89 = .ok (.iload_n 1, 1) := by decide +kernel
theorem dX11_signOf_90 : decode cX11_signOf 90 = .ok (.bipush 45, 2) := by decide +kernel
theorem dX11_signOf_92 : decode cX11_signOf 92 = .ok (.if_icmp .ne 8, 3) := by decide +kernel
theorem dX11_signOf_95 : decode cX11_signOf 95 = .ok (.bipush 8, 2) := by decide +kernel
theorem dX11_signOf_97 : decode cX11_signOf 97 = .ok (.goto 59, 3) := by decide +kernel
theorem dX11_signOf_100 : decode cX11_signOf 100 = .ok (.iload_n 1, 1) := by decide +kernel
theorem dX11_signOf_101 : decode cX11_signOf 101 = .ok (.bipush 42, 2) := by decide +kernel
theorem dX11_signOf_103 : decode cX11_signOf 103 = .ok (.if_icmp .ne 8, 3) := by decide +kernel
theorem dX11_signOf_106 : decode cX11_signOf 106 = .ok (.bipush 9, 2) := by decide +kernel
theorem dX11_signOf_108 : decode cX11_signOf 108 = .ok (.goto 48, 3) := by decide +kernel
theorem dX11_signOf_111 : decode cX11_signOf 111 = .ok (.iload_n 1, 1) := by decide +kernel
theorem dX11_signOf_112 : decode cX11_signOf 112 = .ok (.bipush 47, 2) := by decide +kernel
theorem dX11_signOf_114 : decode cX11_signOf 114 = .ok (.if_icmp .ne 8, 3) := by decide +kernel
theorem dX11_signOf_117 : decode cX11_signOf 117 = .ok (.bipush 10, 2) := by decide +kernel
theorem dX11_signOf_119 : decode cX11_signOf 119 = .ok (.goto 37, 3) := by decide +kernel
theorem dX11_signOf_122 : decode cX11_signOf 122 = .ok (.iload_n 1, 1) := by decide +kernel
theorem dX11_signOf_123 : decode cX11_signOf 123 = .ok (.bipush 37, 2) := by decide +kernel
theorem dX11_signOf_125 : decode cX11_signOf 125 = .ok (.if_icmp .ne 8, 3) := by decide +kernel
theorem dX11_signOf_128 : decode cX11_signOf 128 = .ok (.bipush 11, 2) := by decide +kernel
theorem dX11_signOf_130 : decode cX11_signOf 130 = .ok (.goto 26, 3) := by decide +kernel
theorem dX11_signOf_133 : decode cX11_signOf 133 = .ok (.iload_n 1, 1) := by decide +kernel
theorem dX11_signOf_134 : decode cX11_signOf 134 = .ok (.bipush 59, 2) := by decide +kernel
theorem dX11_signOf_136 : decode cX11_signOf 136 = .ok (.if_icmp .eq 15, 3) := by decide +kernel
theorem dX11_signOf_139 : decode cX11_signOf 139 = .ok (.iload_n 1, 1) := by decide +kernel
theorem dX11_signOf_140 : decode cX11_signOf 140 = .ok (.bipush 40, 2) := by decide +kernel
theorem dX11_signOf_142 : decode cX11_signOf 142 = .ok (.if_icmp .eq 9, 3) := by decide +kernel
theorem dX11_signOf_145 : decode cX11_signOf 145 = .ok (.iload_n 1, 1) := by decide +kernel
theorem dX11_signOf_146 : decode cX11_signOf 146 = .ok (.bipush 41, 2) := by decide +kernel
theorem dX11_signOf_148 : decode cX11_signOf 148 = .ok (.if_icmp .ne 7, 3) := by decide +kernel
theorem dX11_signOf_151 : decode cX11_signOf 151 = .ok (.iload_n 1, 1) := by decide +kernel
theorem dX11_signOf_152 : decode cX11_signOf 152 = .ok (.goto 4, 3) := by decide +kernel
theorem dX11_signOf_155 : decode cX11_signOf 155 = .ok (.iconst (-1), 1) := by decide +kernel
theorem dX11_signOf_156 : decode cX11_signOf 156 = .ok (.ireturn, 1) := by decide +kernel
theorem dX11_take_0 : decode cX11_take 0 = .ok (.aload_n 0, 1) := by decide +kernel
theorem dX11_take_1 : decode cX11_take 1 = .ok (.getfield 224, 3) := by decide +kernel
theorem dX11_take_4 : decode cX11_take 4 = .ok (.aload_n 0, 1) := by decide +kernel
theorem dX11_take_5 : decode cX11_take 5 = .ok (.getfield 221, 3) := by decide +kernel
theorem dX11_take_8 : decode cX11_take 8 = .ok (.if_icmp .ge 44, 3) := by decide +kernel
theorem dX11_take_11 : decode cX11_take 11 = .ok (.aload_n 0, 1) := by decide +kernel
theorem dX11_take_12 : decode cX11_take 12 = .ok (.getfield 7, 3) := by decide +kernel
theorem dX11_take_15 : decode cX11_take 15 = .ok (.aload_n 0, 1) := by decide +kernel
theorem dX11_take_16 : decode cX11_take 16 = .ok (.getfield 224, 3) := by decide +kernel
theorem dX11_take_19 : decode cX11_take 19 = .ok (.iaload, 1) := by decide +kernel
theorem dX11_take_20 : decode cX11_take 20 = .ok (.bipush 10, 2) := by decide +kernel
theorem dX11_take_22 : decode cX11_take 22 = .ok (.if_icmp .eq 17, 3) := by decide +kernel
theorem dX11_take_25 : decode cX11_take 25 = .ok (.aload_n 0, 1) := by decide +kernel
theorem dX11_take_26 : decode cX11_take 26 = .ok (.getfield 7, 3) := by decide +kernel
theorem dX11_take_29 : decode cX11_take 29 = .ok (.aload_n 0, 1) := by decide +kernel
theorem dX11_take_30 : decode cX11_take 30 = .ok (.getfield 224, 3) := by decide +kernel
theorem dX11_take_33 : decode cX11_take 33 = .ok (.iaload, 1) := by decide +kernel
theorem dX11_take_34 : decode cX11_take 34 = .ok (.bipush 32, 2) := by decide +kernel
theorem dX11_take_36 : decode cX11_take 36 = .ok (.if_icmp .ne 16, 3) := by decide +kernel
theorem dX11_take_39 : decode cX11_take 39 = .ok (.aload_n 0, 1) := by decide +kernel
theorem dX11_take_40 : decode cX11_take 40 = .ok (.dup, 1) := by decide +kernel
theorem dX11_take_41 : decode cX11_take 41 = .ok (.getfield 224, 3) := by decide +kernel
theorem dX11_take_44 : decode cX11_take 44 = .ok (.iconst 1, 1) := by decide +kernel
theorem dX11_take_45 : decode cX11_take 45 = .ok (.iadd, 1) := by decide +kernel
theorem dX11_take_46 : decode cX11_take 46 = .ok (.putfield 224, 3) := by decide +kernel
theorem dX11_take_49 : decode cX11_take 49 = .ok (.goto (-49), 3) := by decide +kernel
theorem dX11_take_52 : decode cX11_take 52 = .ok (.aload_n 0, 1) := by decide +kernel
theorem dX11_take_53 : decode cX11_take 53 = .ok (.aload_n 0, 1) := by decide +kernel
theorem dX11_take_54 : decode cX11_take 54 = .ok (.getfield 224, 3) := by decide +kernel
theorem dX11_take_57 : decode cX11_take 57 = .ok (.putfield 218, 3) := by decide +kernel
theorem dX11_take_60 : decode cX11_take 60 = .ok (.aload_n 0, 1) := by decide +kernel
theorem dX11_take_61 : decode cX11_take 61 = .ok (.getfield 224, 3) := by decide +kernel
theorem dX11_take_64 : decode cX11_take 64 = .ok (.aload_n 0, 1) := by decide +kernel
theorem dX11_take_65 : decode cX11_take 65 = .ok (.getfield 221, 3) := by decide +kernel
theorem dX11_take_68 : decode cX11_take 68 = .ok (.if_icmp .ne 11, 3) := by decide +kernel
theorem dX11_take_71 : decode cX11_take 71 = .ok (.aload_n 0, 1) := by decide +kernel
theorem dX11_take_72 : decode cX11_take 72 = .ok (.iconst 0, 1) := by decide +kernel
theorem dX11_take_73 : decode cX11_take 73 = .ok (.putfield 231, 3) := by decide +kernel
theorem dX11_take_76 : decode cX11_take 76 = .ok (.goto 237, 3) := by decide +kernel
theorem dX11_take_79 : decode cX11_take 79 = .ok (.aload_n 0, 1) := by decide +kernel
theorem dX11_take_80 : decode cX11_take 80 = .ok (.aload_n 0, 1) := by decide +kernel
theorem dX11_take_81 : decode cX11_take 81 = .ok (.getfield 224, 3) := by decide +kernel
theorem dX11_take_84 : decode cX11_take 84 = .ok (.invokevirtual 234, 3) := by decide +kernel
theorem dX11_take_87 : decode cX11_take 87 = .ok (.ifCond .eq 62, 3) := by decide +kernel
theorem dX11_take_90 : decode cX11_take 90 = .ok (.aload_n 0, 1) := by decide +kernel
theorem dX11_take_91 : decode cX11_take 91 = .ok (.aload_n 0, 1) := by decide +kernel
theorem dX11_take_92 : decode cX11_take 92 = .ok (.getfield 224, 3) := by decide +kernel
theorem dX11_take_95 : decode cX11_take 95 = .ok (.invokevirtual 234, 3) := by decide +kernel
theorem dX11_take_98 : decode cX11_take 98 = .ok (.ifCond .eq 16, 3) := by decide +kernel
theorem dX11_take_101 : decode cX11_take 101 = .ok (.aload_n 0, 1) := by decide +kernel
theorem dX11_take_102 : decode cX11_take 102 = .ok (.dup, 1) := by decide +kernel
theorem dX11_take_103 : decode cX11_take 103 = .ok (.getfield 224, 3) := by decide +kernel
theorem dX11_take_106 : decode cX11_take 106 = .ok (.iconst 1, 1) := by decide +kernel
theorem dX11_take_107 : decode cX11_take 107 = .ok (.iadd, 1) := by decide +kernel
theorem dX11_take_108 : decode cX11_take 108 = .ok (.putfield 224, 3) := by decide +kernel
theorem dX11_take_111 : decode cX11_take 111 = .ok (.goto (-21), 3) := by decide +kernel
theorem dX11_take_114 : decode cX11_take 114 = .ok (.aload_n 0, 1) := by decide +kernel
theorem dX11_take_115 : decode cX11_take 115 = .ok (.aload_n 0, 1) := by decide +kernel
theorem dX11_take_116 : decode cX11_take 116 = .ok (.aload_n 0, 1) := by decide +kernel
theorem dX11_take_117 : decode cX11_take 117 = .ok (.getfield 218, 3) := by decide +kernel
theorem dX11_take_120 : decode cX11_take 120 = .ok (.aload_n 0, 1) := by decide +kernel
theorem dX11_take_121 : decode cX11_take 121 = .ok (.getfield 224, 3) := by decide +kernel
theorem dX11_take_124 : decode cX11_take 124 = .ok (.invokevirtual 237, 3) := by decide +kernel
theorem dX11_take_127 : decode cX11_take 127 = .ok (.putfield 241, 3) := by decide +kernel
theorem dX11_take_130 : decode cX11_take 130 = .ok (.aload_n 0, 1) := by decide +kernel
theorem dX11_take_131 : decode cX11_take 131 = .ok (.aload_n 0, 1) := by decide +kernel
theorem dX11_take_132 : decode cX11_take 132 = .ok (.getfield 241, 3) := by decide +kernel
theorem dX11_take_135 : decode cX11_take 135 = .ok (.ifCond .ge 7, 3) := by decide +kernel
theorem dX11_take_138 : decode cX11_take 138 = .ok (.iconst 4, 1) := by decide +kernel
theorem dX11_take_139 : decode cX11_take 139 = .ok (.goto 4, 3) := by decide +kernel
theorem dX11_take_142 : decode cX11_take 142 = .ok (.iconst 1, 1) := by decide +kernel
theorem dX11_take_143 : decode cX11_take 143 = .ok (.putfield 231, 3) := by decide +kernel
theorem dX11_take_146 : decode cX11_take 146 = .ok (.goto 167, 3) := by decide +kernel
theorem dX11_take_149 : decode cX11_take 149 = .ok (.aload_n 0, 1) := by decide +kernel
theorem dX11_take_150 : decode cX11_take 150 = .ok (.aload_n 0, 1) := by decide +kernel
theorem dX11_take_151 : decode cX11_take 151 = .ok (.getfield 224, 3) := by decide +kernel
theorem dX11_take_154 : decode cX11_take 154 = .ok (.invokevirtual 244, 3) := by decide +kernel
theorem dX11_take_157 : decode cX11_take 157 = .ok (.ifCond .eq 77, 3) := by decide +kernel
theorem dX11_take_160 : decode cX11_take 160 = .ok (.aload_n 0, 1) := by decide +kernel
theorem dX11_take_161 : decode cX11_take 161 = .ok (.iconst 2, 1) := by decide +kernel
theorem dX11_take_162 : decode cX11_take 162 = .ok (.putfield 231, 3) := by decide +kernel
theorem dX11_take_165 : decode cX11_take 165 = .ok (.aload_n 0, 1) := by decide +kernel
theorem dX11_take_166 : decode cX11_take 166 = .ok (.iconst 0, 1) := by decide +kernel
theorem dX11_take_167 : decode cX11_take 167 = .ok (.putfield 241, 3) := by decide +kernel
theorem dX11_take_170 : decode cX11_take 170 = .ok (.aload_n 0, 1) := by decide +kernel
theorem dX11_take_171 : decode cX11_take 171 = .ok (.aload_n 0, 1) := by decide +kernel
theorem dX11_take_172 : decode cX11_take 172 = .ok (.getfield 224, 3) := by decide +kernel
theorem dX11_take_175 : decode cX11_take 175 = .ok (.invokevirtual 244, 3) := by decide +kernel
theorem dX11_take_178 : decode cX11_take 178 = .ok (.ifCond .eq 135, 3) := by decide +kernel
theorem dX11_take_181 : decode cX11_take 181 = .ok (.aload_n 0, 1) := by decide +kernel
theorem dX11_take_182 : decode cX11_take 182 = .ok (.aload_n 0, 1) := by decide +kernel
theorem dX11_take_183 : decode cX11_take 183 = .ok (.getfield 241, 3) := by decide +kernel
theorem dX11_take_186 : decode cX11_take 186 = .ok (.ldc 247, 2) := by decide +kernel
theorem dX11_take_188 : decode cX11_take 188 = .ok (.if_icmp .le 10, 3) := by decide +kernel
theorem dX11_take_191 : decode cX11_take 191 = .ok (.aload_n 0, 1) := by decide +kernel
theorem dX11_take_192 : decode cX11_take 192 = .ok (.getfield 241, 3) := by decide +kernel
theorem dX11_take_195 : decode cX11_take 195 = .ok (.goto 23, 3) := by decide +kernel
theorem dX11_take_198 : decode cX11_take 198 = .ok (.bipush 10, 2) := by decide +kernel
theorem dX11_take_200 : decode cX11_take 200 = .ok (.aload_n 0, 1) := by decide +kernel
theorem dX11_take_201 : decode cX11_take 201 = .ok (.getfield 241, 3) := by decide +kernel
theorem dX11_take_204 : decode cX11_take 204 = .ok (.imul, 1) := by decide +kernel
theorem dX11_take_205 : decode cX11_take 205 = .ok (.aload_n 0, 1) := by decide +kernel
theorem dX11_take_206 : decode cX11_take 206 = .ok (.getfield 7, 3) := by decide +kernel
theorem dX11_take_209 : decode cX11_take 209 = .ok (.aload_n 0, 1) := by decide +kernel
theorem dX11_take_210 : decode cX11_take 210 = .ok (.getfield 224, 3) := by decide +kernel
theorem dX11_take_213 : decode cX11_take 213 = .ok (.iaload, 1) := by decide +kernel
theorem dX11_take_214 : decode cX11_take 214 = .ok (.iadd, 1) := by decide +kernel
theorem dX11_take_215 : decode cX11_take 215 = .ok (.bipush 48, 2) := by decide +kernel
theorem dX11_take_217 : decode cX11_take 217 = .ok (.isub, 1) := by decide +kernel
theorem dX11_take_218 : decode cX11_take 218 = .ok (.putfield 241, 3) := by decide +kernel
theorem dX11_take_221 : decode cX11_take 221 = .ok (.aload_n 0, 1) := by decide +kernel
theorem dX11_take_222 : decode cX11_take 222 = .ok (.dup, 1) := by decide +kernel
theorem dX11_take_223 : decode cX11_take 223 = .ok (.getfield 224, 3) := by decide +kernel
theorem dX11_take_226 : decode cX11_take 226 = .ok (.iconst 1, 1) := by decide +kernel
theorem dX11_take_227 : decode cX11_take 227 = .ok (.iadd, 1) := by decide +kernel
theorem dX11_take_228 : decode cX11_take 228 = .ok (.putfield 224, 3) := by decide +kernel
theorem dX11_take_231 : decode cX11_take 231 = .ok (.goto (-61), 3) := by decide +kernel
theorem dX11_take_234 : decode cX11_take 234 = .ok (.aload_n 0, 1) := by decide +kernel
theorem dX11_take_235 : decode cX11_take 235 = .ok (.getfield 7, 3) := by decide +kernel
theorem dX11_take_238 : decode cX11_take 238 = .ok (.aload_n 0, 1) := by decide +kernel
theorem dX11_take_239 : decode cX11_take 239 = .ok (.getfield 224, 3) := by decide +kernel
theorem dX11_take_242 : decode cX11_take 242 = .ok (.iaload, 1) := by decide +kernel
theorem dX11_take_243 : decode cX11_take 243 = .ok (.istore_n 1, 1) := by decide +kernel
theorem dX11_take_244 : decode cX11_take 244 = .ok (.aload_n 0, 1) := by decide +kernel
theorem dX11_take_245 : decode cX11_take 245 = .ok (.dup, 1) := by decide +kernel
theorem dX11_take_246 : decode cX11_take 246 = .ok (.getfield 224, 3) := by decide +kernel
theorem dX11_take_249 : decode cX11_take 249 = .ok (.iconst 1, 1) := by decide +kernel
theorem dX11_take_250 : decode cX11_take 250 = .ok (.iadd, 1) := by decide +kernel
theorem dX11_take_251 : decode cX11_take 251 = .ok (.putfield 224, 3) := by decide +kernel
theorem dX11_take_254 : decode cX11_take 254 = .ok (.aload_n 0, 1) := by decide +kernel
theorem dX11_take_255 : decode cX11_take 255 = .ok (.aload_n 0, 1) := by decide +kernel
theorem dX11_take_256 : decode cX11_take 256 = .ok (.iload_n 1, 1) := by decide +kernel
theorem dX11_take_257 : decode cX11_take 257 = .ok (.invokevirtual 248, 3) := by decide +kernel
theorem dX11_take_260 : decode cX11_take 260 = .ok (.putfield 241, 3) := by decide +kernel
theorem dX11_take_263 : decode cX11_take 263 = .ok (.aload_n 0, 1) := by decide +kernel
theorem dX11_take_264 : decode cX11_take 264 = .ok (.aload_n 0, 1) := by decide +kernel
theorem dX11_take_265 : decode cX11_take 265 = .ok (.getfield 241, 3) := by decide +kernel
theorem dX11_take_268 : decode cX11_take 268 = .ok (.ifCond .ge 7, 3) := by decide +kernel
theorem dX11_take_271 : decode cX11_take 271 = .ok (.iconst 4, 1) := by decide +kernel
theorem dX11_take_272 : decode cX11_take 272 = .ok (.goto 4, 3) := by decide +kernel
theorem dX11_take_275 : decode cX11_take 275 = .ok (.iconst 3, 1) := by decide +kernel
theorem dX11_take_276 : decode cX11_take 276 = .ok (.putfield 231, 3) := by decide +kernel
theorem dX11_take_279 : decode cX11_take 279 = .ok (.aload_n 0, 1) := by decide +kernel
theorem dX11_take_280 : decode cX11_take 280 = .ok (.getfield 241, 3) := by decide +kernel
theorem dX11_take_283 : decode cX11_take 283 = .ok (.iconst 2, 1) := by decide +kernel
theorem dX11_take_284 : decode cX11_take 284 = .ok (.if_icmp .eq 19, 3) := by decide +kernel
theorem dX11_take_287 : decode cX11_take 287 = .ok (.aload_n 0, 1) := by decide +kernel
theorem dX11_take_288 : decode cX11_take 288 = .ok (.getfield 241, 3) := by decide +kernel
theorem dX11_take_291 : decode cX11_take 291 = .ok (.iconst 4, 1) := by decide +kernel
theorem dX11_take_292 : decode cX11_take 292 = .ok (.if_icmp .eq 11, 3) := by decide +kernel
theorem dX11_take_295 : decode cX11_take 295 = .ok (.aload_n 0, 1) := by decide +kernel
theorem dX11_take_296 : decode cX11_take 296 = .ok (.getfield 241, 3) := by decide +kernel
theorem dX11_take_299 : decode cX11_take 299 = .ok (.iconst 5, 1) := by decide +kernel
theorem dX11_take_300 : decode cX11_take 300 = .ok (.if_icmp .ne 13, 3) := by decide +kernel
theorem dX11_take_303 : decode cX11_take 303 = .ok (.aload_n 0, 1) := by decide +kernel
theorem dX11_take_304 : decode cX11_take 304 = .ok (.dup, 1) := by decide +kernel
theorem dX11_take_305 : decode cX11_take 305 = .ok (.getfield 224, 3) := by decide +kernel
theorem dX11_take_308 : decode cX11_take 308 = .ok (.iconst 1, 1) := by decide +kernel
theorem dX11_take_309 : decode cX11_take 309 = .ok (.iadd, 1) := by decide +kernel
theorem dX11_take_310 : decode cX11_take 310 = .ok (.putfield 224, 3) := by decide +kernel
theorem dX11_take_313 : decode cX11_take 313 = .ok (.return_, 1) := by decide +kernel
theorem dX11_isSign_0 : decode cX11_isSign 0 = .ok (.aload_n 0, 1) := by decide +kernel
theorem dX11_isSign_1 : decode cX11_isSign 1 = .ok (.getfield 231, 3) := by decide +kernel
theorem dX11_isSign_4 : decode cX11_isSign 4 = .ok (.iconst 3, 1) := by decide +kernel
theorem dX11_isSign_5 : decode cX11_isSign 5 = .ok (.if_icmp .ne 15, 3) := by decide +kernel
theorem dX11_isSign_8 : decode cX11_isSign 8 = .ok (.aload_n 0, 1) := by decide +kernel
theorem dX11_isSign_9 : decode cX11_isSign 9 = .ok (.getfield 241, 3) := by decide +kernel
theorem dX11_isSign_12 : decode cX11_isSign 12 = .ok (.iload_n 1, 1) := by decide +kernel
theorem dX11_isSign_13 : decode cX11_isSign 13 = .ok (.if_icmp .ne 7, 3) := by decide +kernel
theorem dX11_isSign_16 : decode cX11_isSign 16 = .ok (.iconst 1, 1) := by decide +kernel
theorem dX11_isSign_17 : decode cX11_isSign 17 = .ok (.goto 4, 3) := by decide +kernel
theorem dX11_isSign_20 : decode cX11_isSign 20 = .ok (.iconst 0, 1) := by decide +kernel
theorem dX11_isSign_21 : decode cX11_isSign 21 = .ok (.ireturn, 1) := by decide +kernel
theorem dX11_nameNow_0 : decode cX11_nameNow 0 = .ok (.aload_n 0, 1) := by decide +kernel
theorem dX11_nameNow_1 : decode cX11_nameNow 1 = .ok (.getfield 231, 3) := by decide +kernel
theorem dX11_nameNow_4 : decode cX11_nameNow 4 = .ok (.iconst 1, 1) := by decide +kernel
theorem dX11_nameNow_5 : decode cX11_nameNow 5 = .ok (.if_icmp .eq 7, 3) := by decide +kernel
theorem dX11_nameNow_8 : decode cX11_nameNow 8 = .ok (.iconst (-1), 1) := by decide +kernel
theorem dX11_nameNow_9 : decode cX11_nameNow 9 = .ok (.goto 35, 3) := by decide +kernel
theorem dX11_nameNow_12 : decode cX11_nameNow 12 = .ok (.aload_n 0, 1) := by decide +kernel
theorem dX11_nameNow_13 : decode cX11_nameNow 13 = .ok (.getfield 241, 3) := by decide +kernel
theorem dX11_nameNow_16 : decode cX11_nameNow 16 = .ok (.ifCond .ne 8, 3) := by decide +kernel
theorem dX11_nameNow_19 : decode cX11_nameNow 19 = .ok (.bipush 8, 2) := by decide +kernel
theorem dX11_nameNow_21 : decode cX11_nameNow 21 = .ok (.goto 23, 3) := by decide +kernel
theorem dX11_nameNow_24 : decode cX11_nameNow 24 = .ok (.aload_n 0, 1) := by decide +kernel
theorem dX11_nameNow_25 : decode cX11_nameNow 25 = .ok (.getfield 241, 3) := by decide +kernel
theorem dX11_nameNow_28 : decode cX11_nameNow 28 = .ok (.bipush 10, 2) := by decide +kernel
theorem dX11_nameNow_30 : decode cX11_nameNow 30 = .ok (.if_icmp .lt 13, 3) := by decide +kernel
theorem dX11_nameNow_33 : decode cX11_nameNow 33 = .ok (.aload_n 0, 1) := by decide +kernel
theorem dX11_nameNow_34 : decode cX11_nameNow 34 = .ok (.getfield 241, 3) := by decide +kernel
theorem dX11_nameNow_37 : decode cX11_nameNow 37 = .ok (.bipush 10, 2) := by decide +kernel
theorem dX11_nameNow_39 : decode cX11_nameNow 39 = .ok (.isub, 1) := by decide +kernel
theorem dX11_nameNow_40 : decode cX11_nameNow 40 = .ok (.goto 4, 3) := by decide +kernel
theorem dX11_nameNow_43 : decode cX11_nameNow 43 = .ok (.iconst (-1), 1) := by decide +kernel
theorem dX11_nameNow_44 : decode cX11_nameNow 44 = .ok (.ireturn, 1) := by decide +kernel
theorem dX11_weight_0 : decode cX11_weight 0 = .ok (.iload_n 0, 1) := by decide +kernel
theorem dX11_weight_1 : decode cX11_weight 1 = .ok (.bipush 100, 2) := by decide +kernel
theorem dX11_weight_3 : decode cX11_weight 3 = .ok (.if_icmp .ne 7, 3) := by decide +kernel
theorem dX11_weight_6 : decode cX11_weight 6 = .ok (.iconst 0, 1) := by decide +kernel
theorem dX11_weight_7 : decode cX11_weight 7 = .ok (.goto 66, 3) := by decide +kernel
theorem dX11_weight_10 : decode cX11_weight 10 = .ok (.iload_n 0, 1) := by decide +kernel
theorem dX11_weight_11 : decode cX11_weight 11 = .ok (.bipush 15, 2) := by decide +kernel
theorem dX11_weight_13 : decode cX11_weight 13 = .ok (.if_icmp .ne 7, 3) := by decide +kernel
theorem dX11_weight_16 : decode cX11_weight 16 = .ok (.iconst 1, 1) := by decide +kernel
theorem dX11_weight_17 : decode cX11_weight 17 = .ok (.goto 56, 3) := by decide +kernel
theorem dX11_weight_20 : decode cX11_weight 20 = .ok (.iload_n 0, 1) := by decide +kernel
theorem dX11_weight_21 : decode cX11_weight 21 = .ok (.bipush 14, 2) := by decide +kernel
theorem dX11_weight_23 : decode cX11_weight 23 = .ok (.if_icmp .ne 7, 3) := by decide +kernel
theorem dX11_weight_26 : decode cX11_weight 26 = .ok (.iconst 2, 1) := by decide +kernel
theorem dX11_weight_27 : decode cX11_weight 27 = .ok (.goto 46, 3) := by decide +kernel
theorem dX11_weight_30 : decode cX11_weight 30 = .ok (.iload_n 0, 1) := by decide +kernel
theorem dX11_weight_31 : decode cX11_weight 31 = .ok (.bipush 13, 2) := by decide +kernel
theorem dX11_weight_33 : decode cX11_weight 33 = .ok (.if_icmp .ne 7, 3) := by decide +kernel
theorem dX11_weight_36 : decode cX11_weight 36 = .ok (.iconst 3, 1) := by decide +kernel
theorem dX11_weight_37 : decode cX11_weight 37 = .ok (.goto 36, 3) := by decide +kernel
theorem dX11_weight_40 : decode cX11_weight 40 = .ok (.iload_n 0, 1) := by decide +kernel
theorem dX11_weight_41 : decode cX11_weight 41 = .ok (.bipush 7, 2) := by decide +kernel
theorem dX11_weight_43 : decode cX11_weight 43 = .ok (.if_icmp .ge 7, 3) := by decide +kernel
theorem dX11_weight_46 : decode cX11_weight 46 = .ok (.iconst 4, 1) := by decide +kernel
theorem dX11_weight_47 : decode cX11_weight 47 = .ok (.goto 26, 3) := by decide +kernel
theorem dX11_weight_50 : decode cX11_weight 50 = .ok (.iload_n 0, 1) := by decide +kernel
theorem dX11_weight_51 : decode cX11_weight 51 = .ok (.bipush 9, 2) := by decide +kernel
theorem dX11_weight_53 : decode cX11_weight 53 = .ok (.if_icmp .ge 7, 3) := by decide +kernel
theorem dX11_weight_56 : decode cX11_weight 56 = .ok (.iconst 5, 1) := by decide +kernel
theorem dX11_weight_57 : decode cX11_weight 57 = .ok (.goto 16, 3) := by decide +kernel
theorem dX11_weight_60 : decode cX11_weight 60 = .ok (.iload_n 0, 1) := by decide +kernel
theorem dX11_weight_61 : decode cX11_weight 61 = .ok (.bipush 12, 2) := by decide +kernel
theorem dX11_weight_63 : decode cX11_weight 63 = .ok (.if_icmp .ge 8, 3) := by decide +kernel
theorem dX11_weight_66 : decode cX11_weight 66 = .ok (.bipush 6, 2) := by decide +kernel
theorem dX11_weight_68 : decode cX11_weight 68 = .ok (.goto 5, 3) := by decide +kernel
theorem dX11_weight_71 : decode cX11_weight 71 = .ok (.bipush 7, 2) := by decide +kernel
theorem dX11_weight_73 : decode cX11_weight 73 = .ok (.ireturn, 1) := by decide +kernel
theorem dX11_grown_0 : decode cX11_grown 0 = .ok (.aload_n 0, 1) := by decide +kernel
theorem dX11_grown_1 : decode cX11_grown 1 = .ok (.getfield 252, 3) := by decide +kernel
theorem dX11_grown_4 : decode cX11_grown 4 = .ok (.bipush 64, 2) := by decide +kernel
theorem dX11_grown_6 : decode cX11_grown 6 = .ok (.if_icmp .ne 11, 3) := by decide +kernel
theorem dX11_grown_9 : decode cX11_grown 9 = .ok (.aload_n 0, 1) := by decide +kernel
theorem dX11_grown_10 : decode cX11_grown 10 = .ok (.iconst 2, 1) := by decide +kernel
theorem dX11_grown_11 : decode cX11_grown 11 = .ok (.invokevirtual 255, 3) := by decide +kernel
theorem dX11_grown_14 : decode cX11_grown 14 = .ok (.istore_n 3, 1) := by decide +kernel
theorem dX11_grown_15 : decode cX11_grown 15 = .ok (.iconst (-1), 1) := by decide +kernel
theorem dX11_grown_16 : decode cX11_grown 16 = .ok (.ireturn, 1) := by decide +kernel
theorem dX11_grown_17 : decode cX11_grown 17 = .ok (.bipush 64, 2) := by decide +kernel
theorem dX11_grown_19 : decode cX11_grown 19 = .ok (.aload_n 0, 1) := by decide +kernel
theorem dX11_grown_20 : decode cX11_grown 20 = .ok (.getfield 252, 3) := by decide +kernel
theorem dX11_grown_23 : decode cX11_grown 23 = .ok (.iadd, 1) := by decide +kernel
theorem dX11_grown_24 : decode cX11_grown 24 = .ok (.istore_n 3, 1) := by decide +kernel
theorem dX11_grown_25 : decode cX11_grown 25 = .ok (.aload_n 0, 1) := by decide +kernel
theorem dX11_grown_26 : decode cX11_grown 26 = .ok (.dup, 1) := by decide +kernel
theorem dX11_grown_27 : decode cX11_grown 27 = .ok (.getfield 252, 3) := by decide +kernel
theorem dX11_grown_30 : decode cX11_grown 30 = .ok (.iconst 1, 1) := by decide +kernel
theorem dX11_grown_31 : decode cX11_grown 31 = .ok (.iadd, 1) := by decide +kernel
theorem dX11_grown_32 : decode cX11_grown 32 = .ok (.putfield 252, 3) := by decide +kernel
theorem dX11_grown_35 : decode cX11_grown 35 = .ok (.aload_n 0, 1) := by decide +kernel
theorem dX11_grown_36 : decode cX11_grown 36 = .ok (.getfield 81, 3) := by decide +kernel
theorem dX11_grown_39 : decode cX11_grown 39 = .ok (.iload_n 3, 1) := by decide +kernel
theorem dX11_grown_40 : decode cX11_grown 40 = .ok (.iload_n 1, 1) := by decide +kernel
theorem dX11_grown_41 : decode cX11_grown 41 = .ok (.iastore, 1) := by decide +kernel
theorem dX11_grown_42 : decode cX11_grown 42 = .ok (.aload_n 0, 1) := by decide +kernel
theorem dX11_grown_43 : decode cX11_grown 43 = .ok (.getfield 84, 3) := by decide +kernel
theorem dX11_grown_46 : decode cX11_grown 46 = .ok (.iload_n 3, 1) := by decide +kernel
theorem dX11_grown_47 : decode cX11_grown 47 = .ok (.iconst (-1), 1) := by decide +kernel
theorem dX11_grown_48 : decode cX11_grown 48 = .ok (.iastore, 1) := by decide +kernel
theorem dX11_grown_49 : decode cX11_grown 49 = .ok (.aload_n 0, 1) := by decide +kernel
theorem dX11_grown_50 : decode cX11_grown 50 = .ok (.getfield 87, 3) := by decide +kernel
theorem dX11_grown_53 : decode cX11_grown 53 = .ok (.iload_n 3, 1) := by decide +kernel
theorem dX11_grown_54 : decode cX11_grown 54 = .ok (.iconst (-1), 1) := by decide +kernel
theorem dX11_grown_55 : decode cX11_grown 55 = .ok (.iastore, 1) := by decide +kernel
theorem dX11_grown_56 : decode cX11_grown 56 = .ok (.aload_n 0, 1) := by decide +kernel
theorem dX11_grown_57 : decode cX11_grown 57 = .ok (.getfield 90, 3) := by decide +kernel
theorem dX11_grown_60 : decode cX11_grown 60 = .ok (.iload_n 3, 1) := by decide +kernel
theorem dX11_grown_61 : decode cX11_grown 61 = .ok (.iload_n 2, 1) := by decide +kernel
theorem dX11_grown_62 : decode cX11_grown 62 = .ok (.iastore, 1) := by decide +kernel
theorem dX11_grown_63 : decode cX11_grown 63 = .ok (.iload_n 3, 1) := by decide +kernel
theorem dX11_grown_64 : decode cX11_grown 64 = .ok (.ireturn, 1) := by decide +kernel
theorem dX11_done_0 : decode cX11_done 0 = .ok (.aload_n 0, 1) := by decide +kernel
theorem dX11_done_1 : decode cX11_done 1 = .ok (.getfield 93, 3) := by decide +kernel
theorem dX11_done_4 : decode cX11_done 4 = .ok (.bipush 64, 2) := by decide +kernel
theorem dX11_done_6 : decode cX11_done 6 = .ok (.aload_n 0, 1) := by decide +kernel
theorem dX11_done_7 : decode cX11_done 7 = .ok (.getfield 258, 3) := by decide +kernel
theorem dX11_done_10 : decode cX11_done 10 = .ok (.iadd, 1) := by decide +kernel
theorem dX11_done_11 : decode cX11_done 11 = .ok (.iload_n 1, 1) := by decide +kernel
theorem dX11_done_12 : decode cX11_done 12 = .ok (.iastore, 1) := by decide +kernel
theorem dX11_done_13 : decode cX11_done 13 = .ok (.aload_n 0, 1) := by decide +kernel
theorem dX11_done_14 : decode cX11_done 14 = .ok (.dup, 1) := by decide +kernel
theorem dX11_done_15 : decode cX11_done 15 = .ok (.getfield 258, 3) := by decide +kernel
theorem dX11_done_18 : decode cX11_done 18 = .ok (.iconst 1, 1) := by decide +kernel
theorem dX11_done_19 : decode cX11_done 19 = .ok (.iadd, 1) := by decide +kernel
theorem dX11_done_20 : decode cX11_done 20 = .ok (.putfield 258, 3) := by decide +kernel
theorem dX11_done_23 : decode cX11_done 23 = .ok (.aload_n 0, 1) := by decide +kernel
theorem dX11_done_24 : decode cX11_done 24 = .ok (.getfield 108, 3) := by decide +kernel
theorem dX11_done_27 : decode cX11_done 27 = .ok (.aload_n 0, 1) := by decide +kernel
theorem dX11_done_28 : decode cX11_done 28 = .ok (.getfield 261, 3) := by decide +kernel
theorem dX11_done_31 : decode cX11_done 31 = .ok (.iload_n 1, 1) := by decide +kernel
theorem dX11_done_32 : decode cX11_done 32 = .ok (.iastore, 1) := by decide +kernel
theorem dX11_done_33 : decode cX11_done 33 = .ok (.aload_n 0, 1) := by decide +kernel
theorem dX11_done_34 : decode cX11_done 34 = .ok (.dup, 1) := by decide +kernel
theorem dX11_done_35 : decode cX11_done 35 = .ok (.getfield 261, 3) := by decide +kernel
theorem dX11_done_38 : decode cX11_done 38 = .ok (.iconst 1, 1) := by decide +kernel
theorem dX11_done_39 : decode cX11_done 39 = .ok (.iadd, 1) := by decide +kernel
theorem dX11_done_40 : decode cX11_done 40 = .ok (.putfield 261, 3) := by decide +kernel
theorem dX11_done_43 : decode cX11_done 43 = .ok (.return_, 1) := by decide +kernel
theorem dX11_drop_0 : decode cX11_drop 0 = .ok (.aload_n 0, 1) := by decide +kernel
theorem dX11_drop_1 : decode cX11_drop 1 = .ok (.dup, 1) := by decide +kernel
theorem dX11_drop_2 : decode cX11_drop 2 = .ok (.getfield 261, 3) := by decide +kernel
theorem dX11_drop_5 : decode cX11_drop 5 = .ok (.iconst 1, 1) := by decide +kernel
theorem dX11_drop_6 : decode cX11_drop 6 = .ok (.isub, 1) := by decide +kernel
theorem dX11_drop_7 : decode cX11_drop 7 = .ok (.putfield 261, 3) := by decide +kernel
theorem dX11_drop_10 : decode cX11_drop 10 = .ok (.aload_n 0, 1) := by decide +kernel
theorem dX11_drop_11 : decode cX11_drop 11 = .ok (.getfield 108, 3) := by decide +kernel
theorem dX11_drop_14 : decode cX11_drop 14 = .ok (.aload_n 0, 1) := by decide +kernel
theorem dX11_drop_15 : decode cX11_drop 15 = .ok (.getfield 261, 3) := by decide +kernel
theorem dX11_drop_18 : decode cX11_drop 18 = .ok (.iaload, 1) := by decide +kernel
theorem dX11_drop_19 : decode cX11_drop 19 = .ok (.ireturn, 1) := by decide +kernel
theorem dX11_bind_0 : decode cX11_bind 0 = .ok (.aload_n 0, 1) := by decide +kernel
theorem dX11_bind_1 : decode cX11_bind 1 = .ok (.getfield 264, 3) := by decide +kernel
theorem dX11_bind_4 : decode cX11_bind 4 = .ok (.ifCond .le 97, 3) := by decide +kernel
theorem dX11_bind_7 : decode cX11_bind 7 = .ok (.aload_n 0, 1) := by decide +kernel
theorem dX11_bind_8 : decode cX11_bind 8 = .ok (.getfield 102, 3) := by decide +kernel
theorem dX11_bind_11 : decode cX11_bind 11 = .ok (.aload_n 0, 1) := by decide +kernel
theorem dX11_bind_12 : decode cX11_bind 12 = .ok (.getfield 264, 3) := by decide +kernel
theorem dX11_bind_15 : decode cX11_bind 15 = .ok (.iconst 1, 1) := by decide +kernel
theorem dX11_bind_16 : decode cX11_bind 16 = .ok (.isub, 1) := by decide +kernel
theorem dX11_bind_17 : decode cX11_bind 17 = .ok (.iaload, 1) := by decide +kernel
theorem dX11_bind_18 : decode cX11_bind 18 = .ok (.invokestatic 267, 3) := by decide +kernel
theorem dX11_bind_21 : decode cX11_bind 21 = .ok (.iload_n 1, 1) := by decide +kernel
theorem dX11_bind_22 : decode cX11_bind 22 = .ok (.if_icmp .lt 79, 3) := by decide +kernel
theorem dX11_bind_25 : decode cX11_bind 25 = .ok (.aload_n 0, 1) := by decide +kernel
theorem dX11_bind_26 : decode cX11_bind 26 = .ok (.dup, 1) := by decide +kernel
theorem dX11_bind_27 : decode cX11_bind 27 = .ok (.getfield 264, 3) := by decide +kernel
theorem dX11_bind_30 : decode cX11_bind 30 = .ok (.iconst 1, 1) := by decide +kernel
theorem dX11_bind_31 : decode cX11_bind 31 = .ok (.isub, 1) := by decide +kernel
theorem dX11_bind_32 : decode cX11_bind 32 = .ok (.putfield 264, 3) := by decide +kernel
theorem dX11_bind_35 : decode cX11_bind 35 = .ok (.aload_n 0, 1) := by decide +kernel
theorem dX11_bind_36 : decode cX11_bind 36 = .ok (.getfield 105, 3) := by decide +kernel
theorem dX11_bind_39 : decode cX11_bind 39 = .ok (.aload_n 0, 1) := by decide +kernel
theorem dX11_bind_40 : decode cX11_bind 40 = .ok (.getfield 264, 3) := by decide +kernel
theorem dX11_bind_43 : decode cX11_bind 43 = .ok (.iaload, 1) := by decide +kernel
theorem dX11_bind_44 : decode cX11_bind 44 = .ok (.istore_n 2, 1) := by decide +kernel
theorem dX11_bind_45 : decode cX11_bind 45 = .ok (.aload_n 0, 1) := by decide +kernel
theorem dX11_bind_46 : decode cX11_bind 46 = .ok (.getfield 102, 3) := by decide +kernel
theorem dX11_bind_49 : decode cX11_bind 49 = .ok (.aload_n 0, 1) := by decide +kernel
theorem dX11_bind_50 : decode cX11_bind 50 = .ok (.getfield 264, 3) := by decide +kernel
theorem dX11_bind_53 : decode cX11_bind 53 = .ok (.iaload, 1) := by decide +kernel
theorem dX11_bind_54 : decode cX11_bind 54 = .ok (.bipush 12, 2) := by decide +kernel
theorem dX11_bind_56 : decode cX11_bind 56 = .ok (.if_icmp .eq 27, 3) := by decide +kernel
theorem dX11_bind_59 : decode cX11_bind 59 = .ok (.aload_n 0, 1) := by decide +kernel
theorem dX11_bind_60 : decode cX11_bind 60 = .ok (.getfield 102, 3) := by decide +kernel
theorem dX11_bind_63 : decode cX11_bind 63 = .ok (.aload_n 0, 1) := by decide +kernel
theorem dX11_bind_64 : decode cX11_bind 64 = .ok (.getfield 264, 3) := by decide +kernel
theorem dX11_bind_67 : decode cX11_bind 67 = .ok (.iaload, 1) := by decide +kernel
theorem dX11_bind_68 : decode cX11_bind 68 = .ok (.bipush 13, 2) := by decide +kernel
theorem dX11_bind_70 : decode cX11_bind 70 = .ok (.if_icmp .eq 13, 3) := by decide +kernel
theorem dX11_bind_73 : decode cX11_bind 73 = .ok (.aload_n 0, 1) := by decide +kernel
theorem dX11_bind_74 : decode cX11_bind 74 = .ok (.getfield 87, 3) := by decide +kernel
theorem dX11_bind_77 : decode cX11_bind 77 = .ok (.iload_n 2, 1) := by decide +kernel
theorem dX11_bind_78 : decode cX11_bind 78 = .ok (.aload_n 0, 1) := by decide +kernel
theorem dX11_bind_79 : decode cX11_bind 79 = .ok (.invokevirtual 270, 3) := by decide +kernel
theorem dX11_bind_82 : decode cX11_bind 82 = .ok (.iastore, 1) := by decide +kernel
theorem dX11_bind_83 : decode cX11_bind 83 = .ok (.aload_n 0, 1) := by decide +kernel
theorem dX11_bind_84 : decode cX11_bind 84 = .ok (.getfield 84, 3) := by decide +kernel
theorem dX11_bind_87 : decode cX11_bind 87 = .ok (.iload_n 2, 1) := by decide +kernel
theorem dX11_bind_88 : decode cX11_bind 88 = .ok (.aload_n 0, 1) := by decide +kernel
theorem dX11_bind_89 : decode cX11_bind 89 = .ok (.invokevirtual 270, 3) := by decide +kernel
theorem dX11_bind_92 : decode cX11_bind 92 = .ok (.iastore, 1) := by decide +kernel
theorem dX11_bind_93 : decode cX11_bind 93 = .ok (.aload_n 0, 1) := by decide +kernel
theorem dX11_bind_94 : decode cX11_bind 94 = .ok (.iload_n 2, 1) := by decide +kernel
theorem dX11_bind_95 : decode cX11_bind 95 = .ok (.invokevirtual 274, 3) := by decide +kernel
theorem dX11_bind_98 : decode cX11_bind 98 = .ok (.goto (-98), 3) := by decide +kernel
theorem dX11_bind_101 : decode cX11_bind 101 = .ok (.return_, 1) := by decide +kernel
theorem dX11_waitFor_0 : decode cX11_waitFor 0 = .ok (.aload_n 0, 1) := by decide +kernel
theorem dX11_waitFor_1 : decode cX11_waitFor 1 = .ok (.getfield 102, 3) := by decide +kernel
theorem dX11_waitFor_4 : decode cX11_waitFor 4 = .ok (.aload_n 0, 1) := by decide +kernel
theorem dX11_waitFor_5 : decode cX11_waitFor 5 = .ok (.getfield 264, 3) := by decide +kernel
theorem dX11_waitFor_8 : decode cX11_waitFor 8 = .ok (.iload_n 1, 1) := by decide +kernel
theorem dX11_waitFor_9 : decode cX11_waitFor 9 = .ok (.iastore, 1) := by decide +kernel
theorem dX11_waitFor_10 : decode cX11_waitFor 10 = .ok (.aload_n 0, 1) := by decide +kernel
theorem dX11_waitFor_11 : decode cX11_waitFor 11 = .ok (.getfield 105, 3) := by decide +kernel
theorem dX11_waitFor_14 : decode cX11_waitFor 14 = .ok (.aload_n 0, 1) := by decide +kernel
theorem dX11_waitFor_15 : decode cX11_waitFor 15 = .ok (.getfield 264, 3) := by decide +kernel
theorem dX11_waitFor_18 : decode cX11_waitFor 18 = .ok (.iload_n 2, 1) := by decide +kernel
theorem dX11_waitFor_19 : decode cX11_waitFor 19 = .ok (.iastore, 1) := by decide +kernel
theorem dX11_waitFor_20 : decode cX11_waitFor 20 = .ok (.aload_n 0, 1) := by decide +kernel
theorem dX11_waitFor_21 : decode cX11_waitFor 21 = .ok (.dup, 1) := by decide +kernel
theorem dX11_waitFor_22 : decode cX11_waitFor 22 = .ok (.getfield 264, 3) := by decide +kernel
theorem dX11_waitFor_25 : decode cX11_waitFor 25 = .ok (.iconst 1, 1) := by decide +kernel
theorem dX11_waitFor_26 : decode cX11_waitFor 26 = .ok (.iadd, 1) := by decide +kernel
theorem dX11_waitFor_27 : decode cX11_waitFor 27 = .ok (.putfield 264, 3) := by decide +kernel
theorem dX11_waitFor_30 : decode cX11_waitFor 30 = .ok (.return_, 1) := by decide +kernel
theorem dX11_ofOne_0 : decode cX11_ofOne 0 = .ok (.aload_n 0, 1) := by decide +kernel
theorem dX11_ofOne_1 : decode cX11_ofOne 1 = .ok (.iload_n 1, 1) := by decide +kernel
theorem dX11_ofOne_2 : decode cX11_ofOne 2 = .ok (.iconst 0, 1) := by decide +kernel
theorem dX11_ofOne_3 : decode cX11_ofOne 3 = .ok (.invokevirtual 278, 3) := by decide +kernel
theorem dX11_ofOne_6 : decode cX11_ofOne 6 = .ok (.istore_n 2, 1) := by decide +kernel
theorem dX11_ofOne_7 : decode cX11_ofOne 7 = .ok (.iload_n 2, 1) := by decide +kernel
theorem dX11_ofOne_8 : decode cX11_ofOne 8 = .ok (.ifCond .ge 5, 3) := by decide +kernel
theorem dX11_ofOne_11 : decode cX11_ofOne 11 = .ok (.iconst 0, 1) := by decide +kernel
theorem dX11_ofOne_12 : decode cX11_ofOne 12 = .ok (.ireturn, 1) := by decide +kernel
theorem dX11_ofOne_13 : decode cX11_ofOne 13 = .ok (.aload_n 0, 1) := by decide +kernel
theorem dX11_ofOne_14 : decode cX11_ofOne 14 = .ok (.iload_n 1, 1) := by decide +kernel
theorem dX11_ofOne_15 : decode cX11_ofOne 15 = .ok (.iload_n 2, 1) := by decide +kernel
theorem dX11_ofOne_16 : decode cX11_ofOne 16 = .ok (.invokevirtual 281, 3) := by decide +kernel
theorem dX11_ofOne_19 : decode cX11_ofOne 19 = .ok (.iload_n 1, 1) := by decide +kernel
theorem dX11_ofOne_20 : decode cX11_ofOne 20 = .ok (.bipush 12, 2) := by decide +kernel
theorem dX11_ofOne_22 : decode cX11_ofOne 22 = .ok (.if_icmp .ne 8, 3) := by decide +kernel
theorem dX11_ofOne_25 : decode cX11_ofOne 25 = .ok (.aload_n 0, 1) := by decide +kernel
theorem dX11_ofOne_26 : decode cX11_ofOne 26 = .ok (.iconst 0, 1) := by decide +kernel
theorem dX11_ofOne_27 : decode cX11_ofOne 27 = .ok (.putfield 285, 3) := by decide +kernel
theorem dX11_ofOne_30 : decode cX11_ofOne 30 = .ok (.aload_n 0, 1) := by decide +kernel
theorem dX11_ofOne_31 : decode cX11_ofOne 31 = .ok (.invokevirtual 289, 3) := by decide +kernel
theorem dX11_ofOne_34 : decode cX11_ofOne 34 = .ok (.iconst 1, 1) := by decide +kernel
theorem dX11_ofOne_35 : decode cX11_ofOne 35 = .ok (.ireturn, 1) := by decide +kernel
theorem dX11_valueRead_0 : decode cX11_valueRead 0 = .ok (.aload_n 0, 1) := by decide +kernel
theorem dX11_valueRead_1 : decode cX11_valueRead 1 = .ok (.bipush 40, 2) := by decide +kernel
theorem dX11_valueRead_3 : decode cX11_valueRead 3 = .ok (.invokevirtual 292, 3) := by decide +kernel
theorem dX11_valueRead_6 : decode cX11_valueRead 6 = .ok (.ifCond .eq 64, 3) := by decide +kernel
theorem dX11_valueRead_9 : decode cX11_valueRead 9 = .ok (.aload_n 0, 1) := by decide +kernel
theorem dX11_valueRead_10 : decode cX11_valueRead 10 = .ok (.getfield 295, 3) := by decide +kernel
theorem dX11_valueRead_13 : decode cX11_valueRead 13 = .ok (.bipush 8, 2) := by decide +kernel
theorem dX11_valueRead_15 : decode cX11_valueRead 15 = .ok (.if_icmp .ne 9, 3) := by decide +kernel
theorem dX11_valueRead_18 : decode cX11_valueRead 18 = .ok (.aload_n 0, 1) := by decide +kernel
theorem dX11_valueRead_19 : decode cX11_valueRead 19 = .ok (.iconst 2, 1) := by decide +kernel
theorem dX11_valueRead_20 : decode cX11_valueRead 20 = .ok (.invokevirtual 255, 3) := by decide +kernel
theorem dX11_valueRead_23 : decode cX11_valueRead 23 = .ok (.ireturn, 1) := by decide +kernel
theorem dX11_valueRead_24 : decode cX11_valueRead 24 = .ok (.aload_n 0, 1) := by decide +kernel
theorem dX11_valueRead_25 : decode cX11_valueRead 25 = .ok (.getfield 111, 3) := by decide +kernel
theorem dX11_valueRead_28 : decode cX11_valueRead 28 = .ok (.aload_n 0, 1) := by decide +kernel
theorem dX11_valueRead_29 : decode cX11_valueRead 29 = .ok (.getfield 295, 3) := by decide +kernel
theorem dX11_valueRead_32 : decode cX11_valueRead 32 = .ok (.aload_n 0, 1) := by decide +kernel
theorem dX11_valueRead_33 : decode cX11_valueRead 33 = .ok (.getfield 298, 3) := by decide +kernel
theorem dX11_valueRead_36 : decode cX11_valueRead 36 = .ok (.bastore, 1) := by decide +kernel
theorem dX11_valueRead_37 : decode cX11_valueRead 37 = .ok (.aload_n 0, 1) := by decide +kernel
theorem dX11_valueRead_38 : decode cX11_valueRead 38 = .ok (.dup, 1) := by decide +kernel
theorem dX11_valueRead_39 : decode cX11_valueRead 39 = .ok (.getfield 295, 3) := by decide +kernel
theorem dX11_valueRead_42 : decode cX11_valueRead 42 = .ok (.iconst 1, 1) := by decide +kernel
theorem dX11_valueRead_43 : decode cX11_valueRead 43 = .ok (.iadd, 1) := by decide +kernel
theorem dX11_valueRead_44 : decode cX11_valueRead 44 = .ok (.putfield 295, 3) := by decide +kernel
theorem dX11_valueRead_47 : decode cX11_valueRead 47 = .ok (.aload_n 0, 1) := by decide +kernel
theorem dX11_valueRead_48 : decode cX11_valueRead 48 = .ok (.bipush 100, 2) := by decide +kernel
theorem dX11_valueRead_50 : decode cX11_valueRead 50 = .ok (.iconst (-1), 1) := by decide +kernel
theorem dX11_valueRead_51 : decode cX11_valueRead 51 = .ok (.invokevirtual 281, 3) := by decide +kernel
theorem dX11_valueRead_54 : decode cX11_valueRead 54 = .ok (.aload_n 0, 1) := by decide +kernel
theorem dX11_valueRead_55 : decode cX11_valueRead 55 = .ok (.iconst 0, 1) := by decide +kernel
theorem dX11_valueRead_56 : decode cX11_valueRead 56 = .ok (.putfield 298, 3) := by decide +kernel
theorem dX11_valueRead_59 : decode cX11_valueRead 59 = .ok (.aload_n 0, 1) := by decide +kernel
theorem dX11_valueRead_60 : decode cX11_valueRead 60 = .ok (.iconst 1, 1) := by decide +kernel
theorem dX11_valueRead_61 : decode cX11_valueRead 61 = .ok (.putfield 285, 3) := by decide +kernel
theorem dX11_valueRead_64 : decode cX11_valueRead 64 = .ok (.aload_n 0, 1) := by decide +kernel
theorem dX11_valueRead_65 : decode cX11_valueRead 65 = .ok (.invokevirtual 289, 3) := by decide +kernel
theorem dX11_valueRead_68 : decode cX11_valueRead 68 = .ok (.iconst 1, 1) := by decide +kernel
theorem dX11_valueRead_69 : decode cX11_valueRead 69 = .ok (.ireturn, 1) := by decide +kernel
theorem dX11_valueRead_70 : decode cX11_valueRead 70 = .ok (.aload_n 0, 1) := by decide +kernel
theorem dX11_valueRead_71 : decode cX11_valueRead 71 = .ok (.bipush 8, 2) := by decide +kernel
theorem dX11_valueRead_73 : decode cX11_valueRead 73 = .ok (.invokevirtual 292, 3) := by decide +kernel
theorem dX11_valueRead_76 : decode cX11_valueRead 76 = .ok (.ifCond .eq 10, 3) := by decide +kernel
theorem dX11_valueRead_79 : decode cX11_valueRead 79 = .ok (.aload_n 0, 1) := by decide +kernel
theorem dX11_valueRead_80 : decode cX11_valueRead 80 = .ok (.bipush 12, 2) := by decide +kernel
theorem dX11_valueRead_82 : decode cX11_valueRead 82 = .ok (.invokevirtual 301, 3) := by decide +kernel
theorem dX11_valueRead_85 : decode cX11_valueRead 85 = .ok (.ireturn, 1) := by decide +kernel
theorem dX11_valueRead_86 : decode cX11_valueRead 86 = .ok (.aload_n 0, 1) := by decide +kernel
theorem dX11_valueRead_87 : decode cX11_valueRead 87 = .ok (.getfield 231, 3) := by decide +kernel
theorem dX11_valueRead_90 : decode cX11_valueRead 90 = .ok (.iconst 1, 1) := by decide +kernel
theorem dX11_valueRead_91 : decode cX11_valueRead 91 = .ok (.if_icmp .ne 26, 3) := by decide +kernel
theorem dX11_valueRead_94 : decode cX11_valueRead 94 = .ok (.aload_n 0, 1) := by decide +kernel
theorem dX11_valueRead_95 : decode cX11_valueRead 95 = .ok (.getfield 241, 3) := by decide +kernel
theorem dX11_valueRead_98 : decode cX11_valueRead 98 = .ok (.bipush 9, 2) := by decide +kernel
theorem dX11_valueRead_100 : decode cX11_valueRead 100 = .ok (.if_icmp .ne 17, 3) := by decide +kernel
theorem dX11_valueRead_103 : decode cX11_valueRead 103 = .ok (.aload_n 0, 1) := by decide +kernel
theorem dX11_valueRead_104 : decode cX11_valueRead 104 = .ok (.getfield 285, 3) := by decide +kernel
theorem dX11_valueRead_107 : decode cX11_valueRead 107 = .ok (.ifCond .eq 10, 3) := by decide +kernel
theorem dX11_valueRead_110 : decode cX11_valueRead 110 = .ok (.aload_n 0, 1) := by decide +kernel
theorem dX11_valueRead_111 : decode cX11_valueRead 111 = .ok (.bipush 13, 2) := by decide +kernel
theorem dX11_valueRead_113 : decode cX11_valueRead 113 = .ok (.invokevirtual 301, 3) := by decide +kernel
theorem dX11_valueRead_116 : decode cX11_valueRead 116 = .ok (.ireturn, 1) := by decide +kernel
theorem dX11_valueRead_117 : decode cX11_valueRead 117 = .ok (.aload_n 0, 1) := by decide +kernel
theorem dX11_valueRead_118 : decode cX11_valueRead 118 = .ok (.invokevirtual 304, 3) := by decide +kernel
theorem dX11_valueRead_121 : decode cX11_valueRead 121 = .ok (.istore_n 2, 1) := by decide +kernel
theorem dX11_valueRead_122 : decode cX11_valueRead 122 = .ok (.iload_n 2, 1) := by decide +kernel
theorem dX11_valueRead_123 : decode cX11_valueRead 123 = .ok (.ifCond .ge 17, 3) := by decide +kernel
theorem dX11_valueRead_126 : decode cX11_valueRead 126 = .ok (.aload_n 0, 1) := by decide +kernel
theorem dX11_valueRead_127 : decode cX11_valueRead 127 = .ok (.getfield 231, 3) := by decide +kernel
theorem dX11_valueRead_130 : decode cX11_valueRead 130 = .ok (.iconst 2, 1) := by decide +kernel
theorem dX11_valueRead_131 : decode cX11_valueRead 131 = .ok (.if_icmp .eq 9, 3) := by decide +kernel
theorem dX11_valueRead_134 : decode cX11_valueRead 134 = .ok (.aload_n 0, 1) := by decide +kernel
theorem dX11_valueRead_135 : decode cX11_valueRead 135 = .ok (.iconst 1, 1) := by decide +kernel
theorem dX11_valueRead_136 : decode cX11_valueRead 136 = .ok (.invokevirtual 255, 3) := by decide +kernel
theorem dX11_valueRead_139 : decode cX11_valueRead 139 = .ok (.ireturn, 1) := by decide +kernel
theorem dX11_valueRead_140 : decode cX11_valueRead 140 = .ok (.iload_n 2, 1) := by decide +kernel
theorem dX11_valueRead_141 : decode cX11_valueRead 141 = .ok (.ifCond .ge 18, 3) := by decide +kernel
theorem dX11_valueRead_144 : decode cX11_valueRead 144 = .ok (.aload_n 0, 1) := by decide +kernel
theorem dX11_valueRead_145 : decode cX11_valueRead 145 = .ok (.getfield 241, 3) := by decide +kernel
theorem dX11_valueRead_148 : decode cX11_valueRead 148 = .ok (.ldc 247, 2) := by decide +kernel
theorem dX11_valueRead_150 : decode cX11_valueRead 150 = .ok (.if_icmp .le 9, 3) := by decide +kernel
theorem dX11_valueRead_153 : decode cX11_valueRead 153 = .ok (.aload_n 0, 1) := by decide +kernel
theorem dX11_valueRead_154 : decode cX11_valueRead 154 = .ok (.iconst 2, 1) := by decide +kernel
theorem dX11_valueRead_155 : decode cX11_valueRead 155 = .ok (.invokevirtual 255, 3) := by decide +kernel
theorem dX11_valueRead_158 : decode cX11_valueRead 158 = .ok (.ireturn, 1) := by decide +kernel
theorem dX11_valueRead_159 : decode cX11_valueRead 159 = .ok (.aload_n 0, 1) := by decide +kernel
theorem dX11_valueRead_160 : decode cX11_valueRead 160 = .ok (.iload_n 2, 1) := by decide +kernel
theorem dX11_valueRead_161 : decode cX11_valueRead 161 = .ok (.ifCond .ge 7, 3) := by decide +kernel
theorem dX11_valueRead_164 : decode cX11_valueRead 164 = .ok (.iconst 0, 1) := by decide +kernel
theorem dX11_valueRead_165 : decode cX11_valueRead 165 = .ok (.goto 5, 3) := by decide +kernel
theorem dX11_valueRead_168 : decode cX11_valueRead 168 = .ok (.bipush 16, 2) := by decide +kernel
theorem dX11_valueRead_170 : decode cX11_valueRead 170 = .ok (.iload_n 2, 1) := by decide +kernel
theorem dX11_valueRead_171 : decode cX11_valueRead 171 = .ok (.ifCond .ge 10, 3) := by decide +kernel
theorem dX11_valueRead_174 : decode cX11_valueRead 174 = .ok (.aload_n 0, 1) := by decide +kernel
theorem dX11_valueRead_175 : decode cX11_valueRead 175 = .ok (.getfield 241, 3) := by decide +kernel
theorem dX11_valueRead_178 : decode cX11_valueRead 178 = .ok (.goto 4, 3) := by decide +kernel
theorem dX11_valueRead_181 : decode cX11_valueRead 181 = .ok (.iload_n 2, 1) := by decide +kernel
theorem dX11_valueRead_182 : decode cX11_valueRead 182 = .ok (.invokevirtual 278, 3) := by decide +kernel
theorem dX11_valueRead_185 : decode cX11_valueRead 185 = .ok (.istore_n 3, 1) := by decide +kernel
theorem dX11_valueRead_186 : decode cX11_valueRead 186 = .ok (.iload_n 3, 1) := by decide +kernel
theorem dX11_valueRead_187 : decode cX11_valueRead 187 = .ok (.ifCond .ge 5, 3) := by decide +kernel
theorem dX11_valueRead_190 : decode cX11_valueRead 190 = .ok (.iconst 0, 1) := by decide +kernel
theorem dX11_valueRead_191 : decode cX11_valueRead 191 = .ok (.ireturn, 1) := by decide +kernel
theorem dX11_valueRead_192 : decode cX11_valueRead 192 = .ok (.iload_n 2, 1) := by decide +kernel
theorem dX11_valueRead_193 : decode cX11_valueRead 193 = .ok (.bipush 10, 2) := by decide +kernel
theorem dX11_valueRead_195 : decode cX11_valueRead 195 = .ok (.if_icmp .ne 13, 3) := by decide +kernel
theorem dX11_valueRead_198 : decode cX11_valueRead 198 = .ok (.iload_n 1, 1) := by decide +kernel
theorem dX11_valueRead_199 : decode cX11_valueRead 199 = .ok (.ifCond .ne 9, 3) := by decide +kernel
theorem dX11_valueRead_202 : decode cX11_valueRead 202 = .ok (.aload_n 0, 1) := by decide +kernel
theorem dX11_valueRead_203 : decode cX11_valueRead 203 = .ok (.iconst 4, 1) := by decide +kernel
theorem dX11_valueRead_204 : decode cX11_valueRead 204 = .ok (.invokevirtual 255, 3) := by decide +kernel
theorem dX11_valueRead_207 : decode cX11_valueRead 207 = .ok (.ireturn, 1) := by decide +kernel
theorem dX11_valueRead_208 : decode cX11_valueRead 208 = .ok (.aload_n 0, 1) := by decide +kernel
theorem dX11_valueRead_209 : decode cX11_valueRead 209 = .ok (.iconst 0, 1) := by decide +kernel
theorem dX11_valueRead_210 : decode cX11_valueRead 210 = .ok (.putfield 307, 3) := by decide +kernel
theorem dX11_valueRead_213 : decode cX11_valueRead 213 = .ok (.aload_n 0, 1) := by decide +kernel
theorem dX11_valueRead_214 : decode cX11_valueRead 214 = .ok (.invokevirtual 289, 3) := by decide +kernel
theorem dX11_valueRead_217 : decode cX11_valueRead 217 = .ok (.aload_n 0, 1) := by decide +kernel
theorem dX11_valueRead_218 : decode cX11_valueRead 218 = .ok (.iload_n 3, 1) := by decide +kernel
theorem dX11_valueRead_219 : decode cX11_valueRead 219 = .ok (.invokevirtual 274, 3) := by decide +kernel
theorem dX11_valueRead_222 : decode cX11_valueRead 222 = .ok (.iconst 1, 1) := by decide +kernel
theorem dX11_valueRead_223 : decode cX11_valueRead 223 = .ok (.ireturn, 1) := by decide +kernel
theorem dX11_signNow_0 : decode cX11_signNow 0 = .ok (.aload_n 0, 1) := by decide +kernel
theorem dX11_signNow_1 : decode cX11_signNow 1 = .ok (.getfield 231, 3) := by decide +kernel
theorem dX11_signNow_4 : decode cX11_signNow 4 = .ok (.iconst 1, 1) := by decide +kernel
theorem dX11_signNow_5 : decode cX11_signNow 5 = .ok (.if_icmp .ne 33, 3) := by decide +kernel
theorem dX11_signNow_8 : decode cX11_signNow 8 = .ok (.aload_n 0, 1) := by decide +kernel
theorem dX11_signNow_9 : decode cX11_signNow 9 = .ok (.getfield 241, 3) := by decide +kernel
theorem dX11_signNow_12 : decode cX11_signNow 12 = .ok (.bipush 8, 2) := by decide +kernel
theorem dX11_signNow_14 : decode cX11_signNow 14 = .ok (.if_icmp .ne 8, 3) := by decide +kernel
theorem dX11_signNow_17 : decode cX11_signNow 17 = .ok (.bipush 14, 2) := by decide +kernel
theorem dX11_signNow_19 : decode cX11_signNow 19 = .ok (.goto 18, 3) := by decide +kernel
theorem dX11_signNow_22 : decode cX11_signNow 22 = .ok (.aload_n 0, 1) := by decide +kernel
theorem dX11_signNow_23 : decode cX11_signNow 23 = .ok (.getfield 241, 3) := by decide +kernel
theorem dX11_signNow_26 : decode cX11_signNow 26 = .ok (.bipush 7, 2) := by decide +kernel
theorem dX11_signNow_28 : decode cX11_signNow 28 = .ok (.if_icmp .ne 8, 3) := by decide +kernel
theorem dX11_signNow_31 : decode cX11_signNow 31 = .ok (.bipush 15, 2) := by decide +kernel
theorem dX11_signNow_33 : decode cX11_signNow 33 = .ok (.goto 4, 3) := by decide +kernel
theorem dX11_signNow_36 : decode cX11_signNow 36 = .ok (.iconst (-1), 1) := by decide +kernel
theorem dX11_signNow_37 : decode cX11_signNow 37 = .ok (.ireturn, 1) := by decide +kernel
theorem dX11_signNow_38 : decode cX11_signNow 38 = .ok (.aload_n 0, 1) := by decide +kernel
theorem dX11_signNow_39 : decode cX11_signNow 39 = .ok (.getfield 231, 3) := by decide +kernel
theorem dX11_signNow_42 : decode cX11_signNow 42 = .ok (.iconst 3, 1) := by decide +kernel
theorem dX11_signNow_43 : decode cX11_signNow 43 = .ok (.if_icmp .ne 19, 3) := by decide +kernel
theorem dX11_signNow_46 : decode cX11_signNow 46 = .ok (.aload_n 0, 1) := by decide +kernel
theorem dX11_signNow_47 : decode cX11_signNow 47 = .ok (.getfield 241, 3) := by decide +kernel
theorem dX11_signNow_50 : decode cX11_signNow 50 = .ok (.bipush 12, 2) := by decide +kernel
theorem dX11_signNow_52 : decode cX11_signNow 52 = .ok (.if_icmp .ge 10, 3) := by decide +kernel
theorem dX11_signNow_55 : decode cX11_signNow 55 = .ok (.aload_n 0, 1) := by decide +kernel
theorem dX11_signNow_56 : decode cX11_signNow 56 = .ok (.getfield 241, 3) := by decide +kernel
theorem dX11_signNow_59 : decode cX11_signNow 59 = .ok (.goto 4, 3) := by decide +kernel
theorem dX11_signNow_62 : decode cX11_signNow 62 = .ok (.iconst (-1), 1) := by decide +kernel
theorem dX11_signNow_63 : decode cX11_signNow 63 = .ok (.ireturn, 1) := by decide +kernel
theorem dX11_joins_0 : decode cX11_joins 0 = .ok (.iload_n 1, 1) := by decide +kernel
theorem dX11_joins_1 : decode cX11_joins 1 = .ok (.bipush 7, 2) := by decide +kernel
theorem dX11_joins_3 : decode cX11_joins 3 = .ok (.if_icmp .ge 7, 3) := by decide +kernel
theorem dX11_joins_6 : decode cX11_joins 6 = .ok (.iconst 1, 1) := by decide +kernel
theorem dX11_joins_7 : decode cX11_joins 7 = .ok (.goto 4, 3) := by decide +kernel
theorem dX11_joins_10 : decode cX11_joins 10 = .ok (.iconst 0, 1) := by decide +kernel
theorem dX11_joins_11 : decode cX11_joins 11 = .ok (.istore_n 2, 1) := by decide +kernel
theorem dX11_joins_12 : decode cX11_joins 12 = .ok (.iload_n 2, 1) := by decide +kernel
theorem dX11_joins_13 : decode cX11_joins 13 = .ok (.ifCond .eq 16, 3) := by decide +kernel
theorem dX11_joins_16 : decode cX11_joins 16 = .ok (.aload_n 0, 1) := by decide +kernel
theorem dX11_joins_17 : decode cX11_joins 17 = .ok (.getfield 298, 3) := by decide +kernel
theorem dX11_joins_20 : decode cX11_joins 20 = .ok (.ifCond .eq 9, 3) := by decide +kernel
theorem dX11_joins_23 : decode cX11_joins 23 = .ok (.aload_n 0, 1) := by decide +kernel
theorem dX11_joins_24 : decode cX11_joins 24 = .ok (.iconst 1, 1) := by decide +kernel
theorem dX11_joins_25 : decode cX11_joins 25 = .ok (.invokevirtual 255, 3) := by decide +kernel
theorem dX11_joins_28 : decode cX11_joins 28 = .ok (.ireturn, 1) := by decide +kernel
theorem dX11_joins_29 : decode cX11_joins 29 = .ok (.aload_n 0, 1) := by decide +kernel
theorem dX11_joins_30 : decode cX11_joins 30 = .ok (.iload_n 1, 1) := by decide +kernel
theorem dX11_joins_31 : decode cX11_joins 31 = .ok (.iconst 0, 1) := by decide +kernel
theorem dX11_joins_32 : decode cX11_joins 32 = .ok (.invokevirtual 278, 3) := by decide +kernel
theorem dX11_joins_35 : decode cX11_joins 35 = .ok (.istore_n 3, 1) := by decide +kernel
theorem dX11_joins_36 : decode cX11_joins 36 = .ok (.iload_n 3, 1) := by decide +kernel
theorem dX11_joins_37 : decode cX11_joins 37 = .ok (.ifCond .ge 5, 3) := by decide +kernel
theorem dX11_joins_40 : decode cX11_joins 40 = .ok (.iconst 0, 1) := by decide +kernel
theorem dX11_joins_41 : decode cX11_joins 41 = .ok (.ireturn, 1) := by decide +kernel
theorem dX11_joins_42 : decode cX11_joins 42 = .ok (.aload_n 0, 1) := by decide +kernel
theorem dX11_joins_43 : decode cX11_joins 43 = .ok (.iload_n 1, 1) := by decide +kernel
theorem dX11_joins_44 : decode cX11_joins 44 = .ok (.invokestatic 267, 3) := by decide +kernel
theorem dX11_joins_47 : decode cX11_joins 47 = .ok (.invokevirtual 310, 3) := by decide +kernel
theorem dX11_joins_50 : decode cX11_joins 50 = .ok (.aload_n 0, 1) := by decide +kernel
theorem dX11_joins_51 : decode cX11_joins 51 = .ok (.iload_n 1, 1) := by decide +kernel
theorem dX11_joins_52 : decode cX11_joins 52 = .ok (.iload_n 3, 1) := by decide +kernel
theorem dX11_joins_53 : decode cX11_joins 53 = .ok (.invokevirtual 281, 3) := by decide +kernel
theorem dX11_joins_56 : decode cX11_joins 56 = .ok (.aload_n 0, 1) := by decide +kernel
theorem dX11_joins_57 : decode cX11_joins 57 = .ok (.iload_n 2, 1) := by decide +kernel
theorem dX11_joins_58 : decode cX11_joins 58 = .ok (.ifCond .ne 16, 3) := by decide +kernel
theorem dX11_joins_61 : decode cX11_joins 61 = .ok (.iload_n 1, 1) := by decide +kernel
theorem dX11_joins_62 : decode cX11_joins 62 = .ok (.bipush 12, 2) := by decide +kernel
theorem dX11_joins_64 : decode cX11_joins 64 = .ok (.if_icmp .ge 14, 3) := by decide +kernel
theorem dX11_joins_67 : decode cX11_joins 67 = .ok (.aload_n 0, 1) := by decide +kernel
theorem dX11_joins_68 : decode cX11_joins 68 = .ok (.getfield 298, 3) := by decide +kernel
theorem dX11_joins_71 : decode cX11_joins 71 = .ok (.ifCond .eq 7, 3) := by decide +kernel
theorem dX11_joins_74 : decode cX11_joins 74 = .ok (.iconst 1, 1) := by decide +kernel
theorem dX11_joins_75 : decode cX11_joins 75 = .ok (.goto 4, 3) := by decide +kernel
theorem dX11_joins_78 : decode cX11_joins 78 = .ok (.iconst 0, 1) := by decide +kernel
theorem dX11_joins_79 : decode cX11_joins 79 = .ok (.putfield 298, 3) := by decide +kernel
theorem dX11_joins_82 : decode cX11_joins 82 = .ok (.aload_n 0, 1) := by decide +kernel
theorem dX11_joins_83 : decode cX11_joins 83 = .ok (.iload_n 1, 1) := by decide +kernel
theorem dX11_joins_84 : decode cX11_joins 84 = .ok (.bipush 13, 2) := by decide +kernel
theorem dX11_joins_86 : decode cX11_joins 86 = .ok (.if_icmp .le 7, 3) := by decide +kernel
theorem dX11_joins_89 : decode cX11_joins 89 = .ok (.iconst 1, 1) := by decide +kernel
theorem dX11_joins_90 : decode cX11_joins 90 = .ok (.goto 4, 3) := by decide +kernel
theorem dX11_joins_93 : decode cX11_joins 93 = .ok (.iconst 0, 1) := by decide +kernel
theorem dX11_joins_94 : decode cX11_joins 94 = .ok (.putfield 285, 3) := by decide +kernel
theorem dX11_joins_97 : decode cX11_joins 97 = .ok (.aload_n 0, 1) := by decide +kernel
theorem dX11_joins_98 : decode cX11_joins 98 = .ok (.iconst 1, 1) := by decide +kernel
theorem dX11_joins_99 : decode cX11_joins 99 = .ok (.putfield 307, 3) := by decide +kernel
theorem dX11_joins_102 : decode cX11_joins 102 = .ok (.aload_n 0, 1) := by decide +kernel
theorem dX11_joins_103 : decode cX11_joins 103 = .ok (.invokevirtual 289, 3) := by decide +kernel
theorem dX11_joins_106 : decode cX11_joins 106 = .ok (.iconst 1, 1) := by decide +kernel
theorem dX11_joins_107 : decode cX11_joins 107 = .ok (.ireturn, 1) := by decide +kernel
theorem dX11_expression_0 : decode cX11_expression 0 = .ok (.aload_n 0, 1) := by decide +kernel
theorem dX11_expression_1 : decode cX11_expression 1 = .ok (.iconst 0, 1) := by decide +kernel
theorem dX11_expression_2 : decode cX11_expression 2 = .ok (.putfield 264, 3) := by decide +kernel
theorem dX11_expression_5 : decode cX11_expression 5 = .ok (.aload_n 0, 1) := by decide +kernel
theorem dX11_expression_6 : decode cX11_expression 6 = .ok (.iconst 0, 1) := by decide +kernel
theorem dX11_expression_7 : decode cX11_expression 7 = .ok (.putfield 261, 3) := by decide +kernel
theorem dX11_expression_10 : decode cX11_expression 10 = .ok (.aload_n 0, 1) := by decide +kernel
theorem dX11_expression_11 : decode cX11_expression 11 = .ok (.iconst 0, 1) := by decide +kernel
theorem dX11_expression_12 : decode cX11_expression 12 = .ok (.putfield 295, 3) := by decide +kernel
theorem dX11_expression_15 : decode cX11_expression 15 = .ok (.aload_n 0, 1) := by decide +kernel
theorem dX11_expression_16 : decode cX11_expression 16 = .ok (.iconst 0, 1) := by decide +kernel
theorem dX11_expression_17 : decode cX11_expression 17 = .ok (.putfield 298, 3) := by decide +kernel
theorem dX11_expression_20 : decode cX11_expression 20 = .ok (.aload_n 0, 1) := by decide +kernel
theorem dX11_expression_21 : decode cX11_expression 21 = .ok (.iconst 1, 1) := by decide +kernel
theorem dX11_expression_22 : decode cX11_expression 22 = .ok (.putfield 307, 3) := by decide +kernel
theorem dX11_expression_25 : decode cX11_expression 25 = .ok (.aload_n 0, 1) := by decide +kernel
theorem dX11_expression_26 : decode cX11_expression 26 = .ok (.iconst 1, 1) := by decide +kernel
theorem dX11_expression_27 : decode cX11_expression 27 = .ok (.putfield 285, 3) := by decide +kernel
theorem dX11_expression_30 : decode cX11_expression 30 = .ok (.aload_n 0, 1) := by decide +kernel
theorem dX11_expression_31 : decode cX11_expression 31 = .ok (.getfield 96, 3) := by decide +kernel
theorem dX11_expression_34 : decode cX11_expression 34 = .ok (.iconst 5, 1) := by decide +kernel
theorem dX11_expression_35 : decode cX11_expression 35 = .ok (.iload_n 1, 1) := by decide +kernel
theorem dX11_expression_36 : decode cX11_expression 36 = .ok (.iadd, 1) := by decide +kernel
theorem dX11_expression_37 : decode cX11_expression 37 = .ok (.aload_n 0, 1) := by decide +kernel
theorem dX11_expression_38 : decode cX11_expression 38 = .ok (.getfield 258, 3) := by decide +kernel
theorem dX11_expression_41 : decode cX11_expression 41 = .ok (.iastore, 1) := by decide +kernel
theorem dX11_expression_42 : decode cX11_expression 42 = .ok (.iconst 1, 1) := by decide +kernel
theorem dX11_expression_43 : decode cX11_expression 43 = .ok (.istore_n 2, 1) := by decide +kernel
theorem dX11_expression_44 : decode cX11_expression 44 = .ok (.aload_n 0, 1) := by decide +kernel
theorem dX11_expression_45 : decode cX11_expression 45 = .ok (.getfield 307, 3) := by decide +kernel
theorem dX11_expression_48 : decode cX11_expression 48 = .ok (.ifCond .eq 21, 3) := by decide +kernel
theorem dX11_expression_51 : decode cX11_expression 51 = .ok (.aload_n 0, 1) := by decide +kernel
theorem dX11_expression_52 : decode cX11_expression 52 = .ok (.iload_n 1, 1) := by decide +kernel
theorem dX11_expression_53 : decode cX11_expression 53 = .ok (.iconst 1, 1) := by decide +kernel
theorem dX11_expression_54 : decode cX11_expression 54 = .ok (.if_icmp .le 7, 3) := by decide +kernel
theorem dX11_expression_57 : decode cX11_expression 57 = .ok (.iconst 1, 1) := by decide +kernel
theorem dX11_expression_58 : decode cX11_expression 58 = .ok (.goto 4, 3) := by decide +kernel
theorem dX11_expression_61 : decode cX11_expression 61 = .ok (.iconst 0, 1) := by decide +kernel
theorem dX11_expression_62 : decode cX11_expression 62 = .ok (.invokevirtual 313, 3) := by decide +kernel
theorem dX11_expression_65 : decode cX11_expression 65 = .ok (.istore_n 2, 1) := by decide +kernel
theorem dX11_expression_66 : decode cX11_expression 66 = .ok (.goto 127, 3) := by decide +kernel
theorem dX11_expression_69 : decode cX11_expression 69 = .ok (.aload_n 0, 1) := by decide +kernel
theorem dX11_expression_70 : decode cX11_expression 70 = .ok (.invokevirtual 317, 3) := by decide +kernel
theorem dX11_expression_73 : decode cX11_expression 73 = .ok (.ifCond .lt 15, 3) := by decide +kernel
theorem dX11_expression_76 : decode cX11_expression 76 = .ok (.aload_n 0, 1) := by decide +kernel
theorem dX11_expression_77 : decode cX11_expression 77 = .ok (.aload_n 0, 1) := by decide +kernel
theorem dX11_expression_78 : decode cX11_expression 78 = .ok (.invokevirtual 317, 3) := by decide +kernel
theorem dX11_expression_81 : decode cX11_expression 81 = .ok (.invokevirtual 320, 3) := by decide +kernel
theorem dX11_expression_84 : decode cX11_expression 84 = .ok (.istore_n 2, 1) := by decide +kernel
theorem dX11_expression_85 : decode cX11_expression 85 = .ok (.goto 108, 3) := by decide +kernel
theorem dX11_expression_88 : decode cX11_expression 88 = .ok (.aload_n 0, 1) := by decide +kernel
theorem dX11_expression_89 : decode cX11_expression 89 = .ok (.getfield 295, 3) := by decide +kernel
theorem dX11_expression_92 : decode cX11_expression 92 = .ok (.ifCond .le 57, 3) := by decide +kernel
theorem dX11_expression_95 : decode cX11_expression 95 = .ok (.aload_n 0, 1) := by decide +kernel
theorem dX11_expression_96 : decode cX11_expression 96 = .ok (.bipush 41, 2) := by decide +kernel
theorem dX11_expression_98 : decode cX11_expression 98 = .ok (.invokevirtual 292, 3) := by decide +kernel
theorem dX11_expression_101 : decode cX11_expression 101 = .ok (.ifCond .eq 48, 3) := by decide +kernel
theorem dX11_expression_104 : decode cX11_expression 104 = .ok (.aload_n 0, 1) := by decide +kernel
theorem dX11_expression_105 : decode cX11_expression 105 = .ok (.iconst 1, 1) := by decide +kernel
theorem dX11_expression_106 : decode cX11_expression 106 = .ok (.invokevirtual 310, 3) := by decide +kernel
theorem dX11_expression_109 : decode cX11_expression 109 = .ok (.aload_n 0, 1) := by decide +kernel
theorem dX11_expression_110 : decode cX11_expression 110 = .ok (.dup, 1) := by decide +kernel
theorem dX11_expression_111 : decode cX11_expression 111 = .ok (.getfield 264, 3) := by decide +kernel
theorem dX11_expression_114 : decode cX11_expression 114 = .ok (.iconst 1, 1) := by decide +kernel
theorem dX11_expression_115 : decode cX11_expression 115 = .ok (.isub, 1) := by decide +kernel
theorem dX11_expression_116 : decode cX11_expression 116 = .ok (.putfield 264, 3) := by decide +kernel
theorem dX11_expression_119 : decode cX11_expression 119 = .ok (.aload_n 0, 1) := by decide +kernel
theorem dX11_expression_120 : decode cX11_expression 120 = .ok (.dup, 1) := by decide +kernel
theorem dX11_expression_121 : decode cX11_expression 121 = .ok (.getfield 295, 3) := by decide +kernel
theorem dX11_expression_124 : decode cX11_expression 124 = .ok (.iconst 1, 1) := by decide +kernel
theorem dX11_expression_125 : decode cX11_expression 125 = .ok (.isub, 1) := by decide +kernel
theorem dX11_expression_126 : decode cX11_expression 126 = .ok (.putfield 295, 3) := by decide +kernel
theorem dX11_expression_129 : decode cX11_expression 129 = .ok (.aload_n 0, 1) := by decide +kernel
theorem dX11_expression_130 : decode cX11_expression 130 = .ok (.aload_n 0, 1) := by decide +kernel
theorem dX11_expression_131 : decode cX11_expression 131 = .ok (.getfield 111, 3) := by decide +kernel
theorem dX11_expression_134 : decode cX11_expression 134 = .ok (.aload_n 0, 1) := by decide +kernel
theorem dX11_expression_135 : decode cX11_expression 135 = .ok (.getfield 295, 3) := by decide +kernel
theorem dX11_expression_138 : decode cX11_expression 138 = .ok (.baload, 1) := by decide +kernel
theorem dX11_expression_139 : decode cX11_expression 139 = .ok (.putfield 298, 3) := by decide +kernel
theorem dX11_expression_142 : decode cX11_expression 142 = .ok (.aload_n 0, 1) := by decide +kernel
theorem dX11_expression_143 : decode cX11_expression 143 = .ok (.invokevirtual 289, 3) := by decide +kernel
theorem dX11_expression_146 : decode cX11_expression 146 = .ok (.goto 47, 3) := by decide +kernel
theorem dX11_expression_149 : decode cX11_expression 149 = .ok (.aload_n 0, 1) := by decide +kernel
theorem dX11_expression_150 : decode cX11_expression 150 = .ok (.getfield 295, 3) := by decide +kernel
theorem dX11_expression_153 : decode cX11_expression 153 = .ok (.ifCond .le 12, 3) := by decide +kernel
theorem dX11_expression_156 : decode cX11_expression 156 = .ok (.aload_n 0, 1) := by decide +kernel
theorem dX11_expression_157 : decode cX11_expression 157 = .ok (.iconst 1, 1) := by decide +kernel
theorem dX11_expression_158 : decode cX11_expression 158 = .ok (.invokevirtual 255, 3) := by decide +kernel
theorem dX11_expression_161 : decode cX11_expression 161 = .ok (.istore_n 2, 1) := by decide +kernel
theorem dX11_expression_162 : decode cX11_expression 162 = .ok (.goto 31, 3) := by decide +kernel
theorem dX11_expression_165 : decode cX11_expression 165 = .ok (.aload_n 0, 1) := by decide +kernel
theorem dX11_expression_166 : decode cX11_expression 166 = .ok (.iconst 1, 1) := by decide +kernel
theorem dX11_expression_167 : decode cX11_expression 167 = .ok (.invokevirtual 310, 3) := by decide +kernel
theorem dX11_expression_170 : decode cX11_expression 170 = .ok (.aload_n 0, 1) := by decide +kernel
theorem dX11_expression_171 : decode cX11_expression 171 = .ok (.getfield 99, 3) := by decide +kernel
theorem dX11_expression_174 : decode cX11_expression 174 = .ok (.iconst 5, 1) := by decide +kernel
theorem dX11_expression_175 : decode cX11_expression 175 = .ok (.iload_n 1, 1) := by decide +kernel
theorem dX11_expression_176 : decode cX11_expression 176 = .ok (.iadd, 1) := by decide +kernel
theorem dX11_expression_177 : decode cX11_expression 177 = .ok (.aload_n 0, 1) := by decide +kernel
theorem dX11_expression_178 : decode cX11_expression 178 = .ok (.getfield 258, 3) := by decide +kernel
theorem dX11_expression_181 : decode cX11_expression 181 = .ok (.aload_n 0, 1) := by decide +kernel
theorem dX11_expression_182 : decode cX11_expression 182 = .ok (.getfield 96, 3) := by decide +kernel
theorem dX11_expression_185 : decode cX11_expression 185 = .ok (.iconst 5, 1) := by decide +kernel
theorem dX11_expression_186 : decode cX11_expression 186 = .ok (.iload_n 1, 1) := by decide +kernel
theorem dX11_expression_187 : decode cX11_expression 187 = .ok (.iadd, 1) := by decide +kernel
theorem dX11_expression_188 : decode cX11_expression 188 = .ok (.iaload, 1) := by decide +kernel
theorem dX11_expression_189 : decode cX11_expression 189 = .ok (.isub, 1) := by decide +kernel
theorem dX11_expression_190 : decode cX11_expression 190 = .ok (.iastore, 1) := by decide +kernel
theorem dX11_expression_191 : decode cX11_expression 191 = .ok (.iconst 1, 1) := by decide +kernel
theorem dX11_expression_192 : decode cX11_expression 192 = .ok (.ireturn, 1) := by decide +kernel
theorem dX11_expression_193 : decode cX11_expression 193 = .ok (.iload_n 2, 1) := by decide +kernel
theorem dX11_expression_194 : decode cX11_expression 194 = .ok (.ifCond .ne 5, 3) := by decide +kernel
theorem dX11_expression_197 : decode cX11_expression 197 = .ok (.iconst 0, 1) := by decide +kernel
theorem dX11_expression_198 : decode cX11_expression 198 = .ok (.ireturn, 1) := by decide +kernel
theorem dX11_expression_199 : decode cX11_expression 199 = .ok (.goto (-157), 3) := by decide +kernel
theorem dX11_line_0 : decode cX11_line 0 = .ok (.aload_n 0, 1) := by decide +kernel
theorem dX11_line_1 : decode cX11_line 1 = .ok (.getfield 231, 3) := by decide +kernel
theorem dX11_line_4 : decode cX11_line 4 = .ok (.iconst 1, 1) := by decide +kernel
theorem dX11_line_5 : decode cX11_line 5 = .ok (.if_icmp .ne 12, 3) := by decide +kernel
theorem dX11_line_8 : decode cX11_line 8 = .ok (.aload_n 0, 1) := by decide +kernel
theorem dX11_line_9 : decode cX11_line 9 = .ok (.getfield 241, 3) := by decide +kernel
theorem dX11_line_12 : decode cX11_line 12 = .ok (.bipush 6, 2) := by decide +kernel
theorem dX11_line_14 : decode cX11_line 14 = .ok (.if_icmp .le 9, 3) := by decide +kernel
theorem dX11_line_17 : decode cX11_line 17 = .ok (.aload_n 0, 1) := by decide +kernel
theorem dX11_line_18 : decode cX11_line 18 = .ok (.iconst 1, 1) := by decide +kernel
theorem dX11_line_19 : decode cX11_line 19 = .ok (.invokevirtual 255, 3) := by decide +kernel
theorem dX11_line_22 : decode cX11_line 22 = .ok (.ireturn, 1) := by decide +kernel
theorem dX11_line_23 : decode cX11_line 23 = .ok (.aload_n 0, 1) := by decide +kernel
theorem dX11_line_24 : decode cX11_line 24 = .ok (.getfield 241, 3) := by decide +kernel
theorem dX11_line_27 : decode cX11_line 27 = .ok (.istore_n 1, 1) := by decide +kernel
theorem dX11_line_28 : decode cX11_line 28 = .ok (.aload_n 0, 1) := by decide +kernel
theorem dX11_line_29 : decode cX11_line 29 = .ok (.getfield 75, 3) := by decide +kernel
theorem dX11_line_32 : decode cX11_line 32 = .ok (.iload_n 1, 1) := by decide +kernel
theorem dX11_line_33 : decode cX11_line 33 = .ok (.baload, 1) := by decide +kernel
theorem dX11_line_34 : decode cX11_line 34 = .ok (.ifCond .eq 9, 3) := by decide +kernel
theorem dX11_line_37 : decode cX11_line 37 = .ok (.aload_n 0, 1) := by decide +kernel
theorem dX11_line_38 : decode cX11_line 38 = .ok (.iconst 3, 1) := by decide +kernel
theorem dX11_line_39 : decode cX11_line 39 = .ok (.invokevirtual 255, 3) := by decide +kernel
theorem dX11_line_42 : decode cX11_line 42 = .ok (.ireturn, 1) := by decide +kernel
theorem dX11_line_43 : decode cX11_line 43 = .ok (.aload_n 0, 1) := by decide +kernel
theorem dX11_line_44 : decode cX11_line 44 = .ok (.getfield 75, 3) := by decide +kernel
theorem dX11_line_47 : decode cX11_line 47 = .ok (.iload_n 1, 1) := by decide +kernel
theorem dX11_line_48 : decode cX11_line 48 = .ok (.iconst 1, 1) := by decide +kernel
theorem dX11_line_49 : decode cX11_line 49 = .ok (.bastore, 1) := by decide +kernel
theorem dX11_line_50 : decode cX11_line 50 = .ok (.aload_n 0, 1) := by decide +kernel
theorem dX11_line_51 : decode cX11_line 51 = .ok (.invokevirtual 289, 3) := by decide +kernel
theorem dX11_line_54 : decode cX11_line 54 = .ok (.iload_n 1, 1) := by decide +kernel
theorem dX11_line_55 : decode cX11_line 55 = .ok (.iconst 1, 1) := by decide +kernel
theorem dX11_line_56 : decode cX11_line 56 = .ok (.if_icmp .le 15, 3) := by decide +kernel
theorem dX11_line_59 : decode cX11_line 59 = .ok (.aload_n 0, 1) := by decide +kernel
theorem dX11_line_60 : decode cX11_line 60 = .ok (.iload_n 1, 1) := by decide +kernel
theorem dX11_line_61 : decode cX11_line 61 = .ok (.iconst 2, 1) := by decide +kernel
theorem dX11_line_62 : decode cX11_line 62 = .ok (.isub, 1) := by decide +kernel
theorem dX11_line_63 : decode cX11_line 63 = .ok (.invokevirtual 323, 3) := by decide +kernel
theorem dX11_line_66 : decode cX11_line 66 = .ok (.ifCond .ne 73, 3) := by decide +kernel
theorem dX11_line_69 : decode cX11_line 69 = .ok (.iconst 0, 1) := by decide +kernel
theorem dX11_line_70 : decode cX11_line 70 = .ok (.ireturn, 1) := by decide +kernel
theorem dX11_line_71 : decode cX11_line 71 = .ok (.aload_n 0, 1) := by decide +kernel
theorem dX11_line_72 : decode cX11_line 72 = .ok (.getfield 231, 3) := by decide +kernel
theorem dX11_line_75 : decode cX11_line 75 = .ok (.iconst 2, 1) := by decide +kernel
theorem dX11_line_76 : decode cX11_line 76 = .ok (.if_icmp .eq 9, 3) := by decide +kernel
theorem dX11_line_79 : decode cX11_line 79 = .ok (.aload_n 0, 1) := by decide +kernel
theorem dX11_line_80 : decode cX11_line 80 = .ok (.iconst 1, 1) := by decide +kernel
theorem dX11_line_81 : decode cX11_line 81 = .ok (.invokevirtual 255, 3) := by decide +kernel
theorem dX11_line_84 : decode cX11_line 84 = .ok (.ireturn, 1) := by decide +kernel
theorem dX11_line_85 : decode cX11_line 85 = .ok (.aload_n 0, 1) := by decide +kernel
theorem dX11_line_86 : decode cX11_line 86 = .ok (.getfield 241, 3) := by decide +kernel
theorem dX11_line_89 : decode cX11_line 89 = .ok (.iload_n 1, 1) := by decide +kernel
theorem dX11_line_90 : decode cX11_line 90 = .ok (.ifCond .ne 8, 3) := by decide +kernel
theorem dX11_line_93 : decode cX11_line 93 = .ok (.bipush 60, 2) := by decide +kernel
theorem dX11_line_95 : decode cX11_line 95 = .ok (.goto 4, 3) := by decide +kernel
theorem dX11_line_98 : decode cX11_line 98 = .ok (.iconst 0, 1) := by decide +kernel
theorem dX11_line_99 : decode cX11_line 99 = .ok (.iload_n 1, 1) := by decide +kernel
theorem dX11_line_100 : decode cX11_line 100 = .ok (.ifCond .ne 9, 3) := by decide +kernel
theorem dX11_line_103 : decode cX11_line 103 = .ok (.sipush 900, 3) := by decide +kernel
theorem dX11_line_106 : decode cX11_line 106 = .ok (.goto 5, 3) := by decide +kernel
theorem dX11_line_109 : decode cX11_line 109 = .ok (.bipush 99, 2) := by decide +kernel
theorem dX11_line_111 : decode cX11_line 111 = .ok (.invokestatic 172, 3) := by decide +kernel
theorem dX11_line_114 : decode cX11_line 114 = .ok (.ifCond .ne 9, 3) := by decide +kernel
theorem dX11_line_117 : decode cX11_line 117 = .ok (.aload_n 0, 1) := by decide +kernel
theorem dX11_line_118 : decode cX11_line 118 = .ok (.iconst 2, 1) := by decide +kernel
theorem dX11_line_119 : decode cX11_line 119 = .ok (.invokevirtual 255, 3) := by decide +kernel
theorem dX11_line_122 : decode cX11_line 122 = .ok (.ireturn, 1) := by decide +kernel
theorem dX11_line_123 : decode cX11_line 123 = .ok (.aload_n 0, 1) := by decide +kernel
theorem dX11_line_124 : decode cX11_line 124 = .ok (.getfield 72, 3) := by decide +kernel
theorem dX11_line_127 : decode cX11_line 127 = .ok (.iconst 2, 1) := by decide +kernel
theorem dX11_line_128 : decode cX11_line 128 = .ok (.iload_n 1, 1) := by decide +kernel
theorem dX11_line_129 : decode cX11_line 129 = .ok (.iadd, 1) := by decide +kernel
theorem dX11_line_130 : decode cX11_line 130 = .ok (.aload_n 0, 1) := by decide +kernel
theorem dX11_line_131 : decode cX11_line 131 = .ok (.getfield 241, 3) := by decide +kernel
theorem dX11_line_134 : decode cX11_line 134 = .ok (.iastore, 1) := by decide +kernel
theorem dX11_line_135 : decode cX11_line 135 = .ok (.aload_n 0, 1) := by decide +kernel
theorem dX11_line_136 : decode cX11_line 136 = .ok (.invokevirtual 289, 3) := by decide +kernel
theorem dX11_line_139 : decode cX11_line 139 = .ok (.aload_n 0, 1) := by decide +kernel
theorem dX11_line_140 : decode cX11_line 140 = .ok (.bipush 59, 2) := by decide +kernel
theorem dX11_line_142 : decode cX11_line 142 = .ok (.invokevirtual 292, 3) := by decide +kernel
theorem dX11_line_145 : decode cX11_line 145 = .ok (.ifCond .ne 9, 3) := by decide +kernel
theorem dX11_line_148 : decode cX11_line 148 = .ok (.aload_n 0, 1) := by decide +kernel
theorem dX11_line_149 : decode cX11_line 149 = .ok (.iconst 1, 1) := by decide +kernel
theorem dX11_line_150 : decode cX11_line 150 = .ok (.invokevirtual 255, 3) := by decide +kernel
theorem dX11_line_153 : decode cX11_line 153 = .ok (.ireturn, 1) := by decide +kernel
theorem dX11_line_154 : decode cX11_line 154 = .ok (.aload_n 0, 1) := by decide +kernel
theorem dX11_line_155 : decode cX11_line 155 = .ok (.invokevirtual 289, 3) := by decide +kernel
theorem dX11_line_158 : decode cX11_line 158 = .ok (.iconst 1, 1) := by decide +kernel
theorem dX11_line_159 : decode cX11_line 159 = .ok (.ireturn, 1) := by decide +kernel
theorem dX11_plain_0 : decode cX11_plain 0 = .ok (.iconst 0, 1) := by decide +kernel
theorem dX11_plain_1 : decode cX11_plain 1 = .ok (.istore_n 1, 1) := by decide +kernel
theorem dX11_plain_2 : decode cX11_plain 2 = .ok (.iload_n 1, 1) := by decide +kernel
theorem dX11_plain_3 : decode cX11_plain 3 = .ok (.bipush 7, 2) := by decide +kernel
theorem dX11_plain_5 : decode cX11_plain 5 = .ok (.if_icmp .ge 16, 3) := by decide +kernel
theorem dX11_plain_8 : decode cX11_plain 8 = .ok (.aload_n 0, 1) := by decide +kernel
theorem dX11_plain_9 : decode cX11_plain 9 = .ok (.getfield 75, 3) := by decide +kernel
theorem dX11_plain_12 : decode cX11_plain 12 = .ok (.iload_n 1, 1) := by decide +kernel
theorem dX11_plain_13 : decode cX11_plain 13 = .ok (.iconst 0, 1) := by decide +kernel
theorem dX11_plain_14 : decode cX11_plain 14 = .ok (.bastore, 1) := by decide +kernel
theorem dX11_plain_15 : decode cX11_plain 15 = .ok (.iinc 1 1, 3) := by decide +kernel
theorem dX11_plain_18 : decode cX11_plain 18 = .ok (.goto (-16), 3) := by decide +kernel
theorem dX11_plain_21 : decode cX11_plain 21 = .ok (.iconst 5, 1) := by decide +kernel
theorem dX11_plain_22 : decode cX11_plain 22 = .ok (.istore_n 1, 1) := by decide +kernel
theorem dX11_plain_23 : decode cX11_plain 23 = .ok (.iload_n 1, 1) := by decide +kernel
theorem dX11_plain_24 : decode cX11_plain 24 = .ok (.bipush 10, 2) := by decide +kernel
theorem dX11_plain_26 : decode cX11_plain 26 = .ok (.if_icmp .ge 16, 3) := by decide +kernel
theorem dX11_plain_29 : decode cX11_plain 29 = .ok (.aload_n 0, 1) := by decide +kernel
theorem dX11_plain_30 : decode cX11_plain 30 = .ok (.getfield 99, 3) := by decide +kernel
theorem dX11_plain_33 : decode cX11_plain 33 = .ok (.iload_n 1, 1) := by decide +kernel
theorem dX11_plain_34 : decode cX11_plain 34 = .ok (.iconst 0, 1) := by decide +kernel
theorem dX11_plain_35 : decode cX11_plain 35 = .ok (.iastore, 1) := by decide +kernel
theorem dX11_plain_36 : decode cX11_plain 36 = .ok (.iinc 1 1, 3) := by decide +kernel
theorem dX11_plain_39 : decode cX11_plain 39 = .ok (.goto (-16), 3) := by decide +kernel
theorem dX11_plain_42 : decode cX11_plain 42 = .ok (.aload_n 0, 1) := by decide +kernel
theorem dX11_plain_43 : decode cX11_plain 43 = .ok (.getfield 72, 3) := by decide +kernel
theorem dX11_plain_46 : decode cX11_plain 46 = .ok (.iconst 2, 1) := by decide +kernel
theorem dX11_plain_47 : decode cX11_plain 47 = .ok (.sipush 600, 3) := by decide +kernel
theorem dX11_plain_50 : decode cX11_plain 50 = .ok (.iastore, 1) := by decide +kernel
theorem dX11_plain_51 : decode cX11_plain 51 = .ok (.aload_n 0, 1) := by decide +kernel
theorem dX11_plain_52 : decode cX11_plain 52 = .ok (.getfield 72, 3) := by decide +kernel
theorem dX11_plain_55 : decode cX11_plain 55 = .ok (.iconst 3, 1) := by decide +kernel
theorem dX11_plain_56 : decode cX11_plain 56 = .ok (.iconst 5, 1) := by decide +kernel
theorem dX11_plain_57 : decode cX11_plain 57 = .ok (.iastore, 1) := by decide +kernel
theorem dX11_plain_58 : decode cX11_plain 58 = .ok (.aload_n 0, 1) := by decide +kernel
theorem dX11_plain_59 : decode cX11_plain 59 = .ok (.iconst 0, 1) := by decide +kernel
theorem dX11_plain_60 : decode cX11_plain 60 = .ok (.putfield 252, 3) := by decide +kernel
theorem dX11_plain_63 : decode cX11_plain 63 = .ok (.aload_n 0, 1) := by decide +kernel
theorem dX11_plain_64 : decode cX11_plain 64 = .ok (.iconst 0, 1) := by decide +kernel
theorem dX11_plain_65 : decode cX11_plain 65 = .ok (.putfield 258, 3) := by decide +kernel
theorem dX11_plain_68 : decode cX11_plain 68 = .ok (.return_, 1) := by decide +kernel
theorem dX11_keep_0 : decode cX11_keep 0 = .ok (.aload_n 0, 1) := by decide +kernel
theorem dX11_keep_1 : decode cX11_keep 1 = .ok (.getfield 72, 3) := by decide +kernel
theorem dX11_keep_4 : decode cX11_keep 4 = .ok (.iconst 0, 1) := by decide +kernel
theorem dX11_keep_5 : decode cX11_keep 5 = .ok (.aload_n 0, 1) := by decide +kernel
theorem dX11_keep_6 : decode cX11_keep 6 = .ok (.getfield 72, 3) := by decide +kernel
theorem dX11_keep_9 : decode cX11_keep 9 = .ok (.iconst 2, 1) := by decide +kernel
theorem dX11_keep_10 : decode cX11_keep 10 = .ok (.iaload, 1) := by decide +kernel
theorem dX11_keep_11 : decode cX11_keep 11 = .ok (.iastore, 1) := by decide +kernel
theorem dX11_keep_12 : decode cX11_keep 12 = .ok (.aload_n 0, 1) := by decide +kernel
theorem dX11_keep_13 : decode cX11_keep 13 = .ok (.getfield 72, 3) := by decide +kernel
theorem dX11_keep_16 : decode cX11_keep 16 = .ok (.iconst 1, 1) := by decide +kernel
theorem dX11_keep_17 : decode cX11_keep 17 = .ok (.aload_n 0, 1) := by decide +kernel
theorem dX11_keep_18 : decode cX11_keep 18 = .ok (.getfield 72, 3) := by decide +kernel
theorem dX11_keep_21 : decode cX11_keep 21 = .ok (.iconst 3, 1) := by decide +kernel
theorem dX11_keep_22 : decode cX11_keep 22 = .ok (.iaload, 1) := by decide +kernel
theorem dX11_keep_23 : decode cX11_keep 23 = .ok (.iastore, 1) := by decide +kernel
theorem dX11_keep_24 : decode cX11_keep 24 = .ok (.iconst 0, 1) := by decide +kernel
theorem dX11_keep_25 : decode cX11_keep 25 = .ok (.istore_n 1, 1) := by decide +kernel
theorem dX11_keep_26 : decode cX11_keep 26 = .ok (.iload_n 1, 1) := by decide +kernel
theorem dX11_keep_27 : decode cX11_keep 27 = .ok (.bipush 7, 2) := by decide +kernel
theorem dX11_keep_29 : decode cX11_keep 29 = .ok (.if_icmp .ge 21, 3) := by decide +kernel
theorem dX11_keep_32 : decode cX11_keep 32 = .ok (.aload_n 0, 1) := by decide +kernel
theorem dX11_keep_33 : decode cX11_keep 33 = .ok (.getfield 78, 3) := by decide +kernel
theorem dX11_keep_36 : decode cX11_keep 36 = .ok (.iload_n 1, 1) := by decide +kernel
theorem dX11_keep_37 : decode cX11_keep 37 = .ok (.aload_n 0, 1) := by decide +kernel
theorem dX11_keep_38 : decode cX11_keep 38 = .ok (.getfield 75, 3) := by decide +kernel
theorem dX11_keep_41 : decode cX11_keep 41 = .ok (.iload_n 1, 1) := by decide +kernel
theorem dX11_keep_42 : decode cX11_keep 42 = .ok (.baload, 1) := by decide +kernel
theorem dX11_keep_43 : decode cX11_keep 43 = .ok (.bastore, 1) := by decide +kernel
theorem dX11_keep_44 : decode cX11_keep 44 = .ok (.iinc 1 1, 3) := by decide +kernel
theorem dX11_keep_47 : decode cX11_keep 47 = .ok (.goto (-21), 3) := by decide +kernel
theorem dX11_keep_50 : decode cX11_keep 50 = .ok (.iconst 0, 1) := by decide +kernel
theorem dX11_keep_51 : decode cX11_keep 51 = .ok (.istore_n 1, 1) := by decide +kernel
theorem dX11_keep_52 : decode cX11_keep 52 = .ok (.iload_n 1, 1) := by decide +kernel
theorem dX11_keep_53 : decode cX11_keep 53 = .ok (.iconst 5, 1) := by decide +kernel
theorem dX11_keep_54 : decode cX11_keep 54 = .ok (.if_icmp .ge 37, 3) := by decide +kernel
theorem dX11_keep_57 : decode cX11_keep 57 = .ok (.aload_n 0, 1) := by decide +kernel
theorem dX11_keep_58 : decode cX11_keep 58 = .ok (.getfield 96, 3) := by decide +kernel
theorem dX11_keep_61 : decode cX11_keep 61 = .ok (.iload_n 1, 1) := by decide +kernel
theorem dX11_keep_62 : decode cX11_keep 62 = .ok (.aload_n 0, 1) := by decide +kernel
theorem dX11_keep_63 : decode cX11_keep 63 = .ok (.getfield 96, 3) := by decide +kernel
theorem dX11_keep_66 : decode cX11_keep 66 = .ok (.iconst 5, 1) := by decide +kernel
theorem dX11_keep_67 : decode cX11_keep 67 = .ok (.iload_n 1, 1) := by decide +kernel
theorem dX11_keep_68 : decode cX11_keep 68 = .ok (.iadd, 1) := by decide +kernel
theorem dX11_keep_69 : decode cX11_keep 69 = .ok (.iaload, 1) := by decide +kernel
theorem dX11_keep_70 : decode cX11_keep 70 = .ok (.iastore, 1) := by decide +kernel
theorem dX11_keep_71 : decode cX11_keep 71 = .ok (.aload_n 0, 1) := by decide +kernel
theorem dX11_keep_72 : decode cX11_keep 72 = .ok (.getfield 99, 3) := by decide +kernel
theorem dX11_keep_75 : decode cX11_keep 75 = .ok (.iload_n 1, 1) := by decide +kernel
theorem dX11_keep_76 : decode cX11_keep 76 = .ok (.aload_n 0, 1) := by decide +kernel
theorem dX11_keep_77 : decode cX11_keep 77 = .ok (.getfield 99, 3) := by decide +kernel
theorem dX11_keep_80 : decode cX11_keep 80 = .ok (.iconst 5, 1) := by decide +kernel
theorem dX11_keep_81 : decode cX11_keep 81 = .ok (.iload_n 1, 1) := by decide +kernel
theorem dX11_keep_82 : decode cX11_keep 82 = .ok (.iadd, 1) := by decide +kernel
theorem dX11_keep_83 : decode cX11_keep 83 = .ok (.iaload, 1) := by decide +kernel
theorem dX11_keep_84 : decode cX11_keep 84 = .ok (.iastore, 1) := by decide +kernel
theorem dX11_keep_85 : decode cX11_keep 85 = .ok (.iinc 1 1, 3) := by decide +kernel
theorem dX11_keep_88 : decode cX11_keep 88 = .ok (.goto (-36), 3) := by decide +kernel
theorem dX11_keep_91 : decode cX11_keep 91 = .ok (.aload_n 0, 1) := by decide +kernel
theorem dX11_keep_92 : decode cX11_keep 92 = .ok (.aload_n 0, 1) := by decide +kernel
theorem dX11_keep_93 : decode cX11_keep 93 = .ok (.getfield 252, 3) := by decide +kernel
theorem dX11_keep_96 : decode cX11_keep 96 = .ok (.putfield 326, 3) := by decide +kernel
theorem dX11_keep_99 : decode cX11_keep 99 = .ok (.iconst 0, 1) := by decide +kernel
theorem dX11_keep_100 : decode cX11_keep 100 = .ok (.istore_n 1, 1) := by decide +kernel
theorem dX11_keep_101 : decode cX11_keep 101 = .ok (.iload_n 1, 1) := by decide +kernel
theorem dX11_keep_102 : decode cX11_keep 102 = .ok (.aload_n 0, 1) := by decide +kernel
theorem dX11_keep_103 : decode cX11_keep 103 = .ok (.getfield 326, 3) := by decide +kernel
theorem dX11_keep_106 : decode cX11_keep 106 = .ok (.if_icmp .ge 93, 3) := by decide +kernel
theorem dX11_keep_109 : decode cX11_keep 109 = .ok (.aload_n 0, 1) := by decide +kernel
theorem dX11_keep_110 : decode cX11_keep 110 = .ok (.getfield 81, 3) := by decide +kernel
theorem dX11_keep_113 : decode cX11_keep 113 = .ok (.iload_n 1, 1) := by decide +kernel
theorem dX11_keep_114 : decode cX11_keep 114 = .ok (.aload_n 0, 1) := by decide +kernel
theorem dX11_keep_115 : decode cX11_keep 115 = .ok (.getfield 81, 3) := by decide +kernel
theorem dX11_keep_118 : decode cX11_keep 118 = .ok (.bipush 64, 2) := by decide +kernel
theorem dX11_keep_120 : decode cX11_keep 120 = .ok (.iload_n 1, 1) := by decide +kernel
theorem dX11_keep_121 : decode cX11_keep 121 = .ok (.iadd, 1) := by decide +kernel
theorem dX11_keep_122 : decode cX11_keep 122 = .ok (.iaload, 1) := by decide +kernel
theorem dX11_keep_123 : decode cX11_keep 123 = .ok (.iastore, 1) := by decide +kernel
theorem dX11_keep_124 : decode cX11_keep 124 = .ok (.aload_n 0, 1) := by decide +kernel
theorem dX11_keep_125 : decode cX11_keep 125 = .ok (.getfield 84, 3) := by decide +kernel
theorem dX11_keep_128 : decode cX11_keep 128 = .ok (.iload_n 1, 1) := by decide +kernel
theorem dX11_keep_129 : decode cX11_keep 129 = .ok (.aload_n 0, 1) := by decide +kernel
theorem dX11_keep_130 : decode cX11_keep 130 = .ok (.getfield 84, 3) := by decide +kernel
theorem dX11_keep_133 : decode cX11_keep 133 = .ok (.bipush 64, 2) := by decide +kernel
theorem dX11_keep_135 : decode cX11_keep 135 = .ok (.iload_n 1, 1) := by decide +kernel
theorem dX11_keep_136 : decode cX11_keep 136 = .ok (.iadd, 1) := by decide +kernel
theorem dX11_keep_137 : decode cX11_keep 137 = .ok (.iaload, 1) := by decide +kernel
theorem dX11_keep_138 : decode cX11_keep 138 = .ok (.bipush 64, 2) := by decide +kernel
theorem dX11_keep_140 : decode cX11_keep 140 = .ok (.isub, 1) := by decide +kernel
theorem dX11_keep_141 : decode cX11_keep 141 = .ok (.iastore, 1) := by decide +kernel
theorem dX11_keep_142 : decode cX11_keep 142 = .ok (.aload_n 0, 1) := by decide +kernel
theorem dX11_keep_143 : decode cX11_keep 143 = .ok (.getfield 87, 3) := by decide +kernel
theorem dX11_keep_146 : decode cX11_keep 146 = .ok (.iload_n 1, 1) := by decide +kernel
theorem dX11_keep_147 : decode cX11_keep 147 = .ok (.aload_n 0, 1) := by decide +kernel
theorem dX11_keep_148 : decode cX11_keep 148 = .ok (.getfield 87, 3) := by decide +kernel
theorem dX11_keep_151 : decode cX11_keep 151 = .ok (.bipush 64, 2) := by decide +kernel
theorem dX11_keep_153 : decode cX11_keep 153 = .ok (.iload_n 1, 1) := by decide +kernel
theorem dX11_keep_154 : decode cX11_keep 154 = .ok (.iadd, 1) := by decide +kernel
theorem dX11_keep_155 : decode cX11_keep 155 = .ok (.iaload, 1) := by decide +kernel
theorem dX11_keep_156 : decode cX11_keep 156 = .ok (.bipush 64, 2) := by decide +kernel
theorem dX11_keep_158 : decode cX11_keep 158 = .ok (.isub, 1) := by decide +kernel
theorem dX11_keep_159 : decode cX11_keep 159 = .ok (.iastore, 1) := by decide +kernel
theorem dX11_keep_160 : decode cX11_keep 160 = .ok (.aload_n 0, 1) := by decide +kernel
theorem dX11_keep_161 : decode cX11_keep 161 = .ok (.getfield 90, 3) := by decide +kernel
theorem dX11_keep_164 : decode cX11_keep 164 = .ok (.iload_n 1, 1) := by decide +kernel
theorem dX11_keep_165 : decode cX11_keep 165 = .ok (.aload_n 0, 1) := by decide +kernel
theorem dX11_keep_166 : decode cX11_keep 166 = .ok (.getfield 90, 3) := by decide +kernel
theorem dX11_keep_169 : decode cX11_keep 169 = .ok (.bipush 64, 2) := by decide +kernel
theorem dX11_keep_171 : decode cX11_keep 171 = .ok (.iload_n 1, 1) := by decide +kernel
theorem dX11_keep_172 : decode cX11_keep 172 = .ok (.iadd, 1) := by decide +kernel
theorem dX11_keep_173 : decode cX11_keep 173 = .ok (.iaload, 1) := by decide +kernel
theorem dX11_keep_174 : decode cX11_keep 174 = .ok (.iastore, 1) := by decide +kernel
theorem dX11_keep_175 : decode cX11_keep 175 = .ok (.aload_n 0, 1) := by decide +kernel
theorem dX11_keep_176 : decode cX11_keep 176 = .ok (.getfield 93, 3) := by decide +kernel
theorem dX11_keep_179 : decode cX11_keep 179 = .ok (.iload_n 1, 1) := by decide +kernel
theorem dX11_keep_180 : decode cX11_keep 180 = .ok (.aload_n 0, 1) := by decide +kernel
theorem dX11_keep_181 : decode cX11_keep 181 = .ok (.getfield 93, 3) := by decide +kernel
theorem dX11_keep_184 : decode cX11_keep 184 = .ok (.bipush 64, 2) := by decide +kernel
theorem dX11_keep_186 : decode cX11_keep 186 = .ok (.iload_n 1, 1) := by decide +kernel
theorem dX11_keep_187 : decode cX11_keep 187 = .ok (.iadd, 1) := by decide +kernel
theorem dX11_keep_188 : decode cX11_keep 188 = .ok (.iaload, 1) := by decide +kernel
theorem dX11_keep_189 : decode cX11_keep 189 = .ok (.bipush 64, 2) := by decide +kernel
theorem dX11_keep_191 : decode cX11_keep 191 = .ok (.isub, 1) := by decide +kernel
theorem dX11_keep_192 : decode cX11_keep 192 = .ok (.iastore, 1) := by decide +kernel
theorem dX11_keep_193 : decode cX11_keep 193 = .ok (.iinc 1 1, 3) := by decide +kernel
theorem dX11_keep_196 : decode cX11_keep 196 = .ok (.goto (-95), 3) := by decide +kernel
theorem dX11_keep_199 : decode cX11_keep 199 = .ok (.return_, 1) := by decide +kernel
theorem dX11_terms_0 : decode cX11_terms 0 = .ok (.aload_n 0, 1) := by decide +kernel
theorem dX11_terms_1 : decode cX11_terms 1 = .ok (.iconst 0, 1) := by decide +kernel
theorem dX11_terms_2 : decode cX11_terms 2 = .ok (.putfield 163, 3) := by decide +kernel
theorem dX11_terms_5 : decode cX11_terms 5 = .ok (.iload_n 1, 1) := by decide +kernel
theorem dX11_terms_6 : decode cX11_terms 6 = .ok (.ifCond .lt 11, 3) := by decide +kernel
theorem dX11_terms_9 : decode cX11_terms 9 = .ok (.iload_n 1, 1) := by decide +kernel
theorem dX11_terms_10 : decode cX11_terms 10 = .ok (.aload_n 0, 1) := by decide +kernel
theorem dX11_terms_11 : decode cX11_terms 11 = .ok (.getfield 166, 3) := by decide +kernel
theorem dX11_terms_14 : decode cX11_terms 14 = .ok (.if_icmp .le 6, 3) := by decide +kernel
theorem dX11_terms_17 : decode cX11_terms 17 = .ok (.bipush (-2), 2) := by decide +kernel
theorem dX11_terms_19 : decode cX11_terms 19 = .ok (.ireturn, 1) := by decide +kernel
theorem dX11_terms_20 : decode cX11_terms 20 = .ok (.aload_n 0, 1) := by decide +kernel
theorem dX11_terms_21 : decode cX11_terms 21 = .ok (.iload_n 1, 1) := by decide +kernel
theorem dX11_terms_22 : decode cX11_terms 22 = .ok (.putfield 221, 3) := by decide +kernel
theorem dX11_terms_25 : decode cX11_terms 25 = .ok (.aload_n 0, 1) := by decide +kernel
theorem dX11_terms_26 : decode cX11_terms 26 = .ok (.iconst 0, 1) := by decide +kernel
theorem dX11_terms_27 : decode cX11_terms 27 = .ok (.putfield 166, 3) := by decide +kernel
theorem dX11_terms_30 : decode cX11_terms 30 = .ok (.aload_n 0, 1) := by decide +kernel
theorem dX11_terms_31 : decode cX11_terms 31 = .ok (.iconst 0, 1) := by decide +kernel
theorem dX11_terms_32 : decode cX11_terms 32 = .ok (.putfield 215, 3) := by decide +kernel
theorem dX11_terms_35 : decode cX11_terms 35 = .ok (.aload_n 0, 1) := by decide +kernel
theorem dX11_terms_36 : decode cX11_terms 36 = .ok (.iconst (-1), 1) := by decide +kernel
theorem dX11_terms_37 : decode cX11_terms 37 = .ok (.putfield 68, 3) := by decide +kernel
theorem dX11_terms_40 : decode cX11_terms 40 = .ok (.aload_n 0, 1) := by decide +kernel
theorem dX11_terms_41 : decode cX11_terms 41 = .ok (.iconst 0, 1) := by decide +kernel
theorem dX11_terms_42 : decode cX11_terms 42 = .ok (.putfield 224, 3) := by decide +kernel
theorem dX11_terms_45 : decode cX11_terms 45 = .ok (.aload_n 0, 1) := by decide +kernel
theorem dX11_terms_46 : decode cX11_terms 46 = .ok (.invokevirtual 157, 3) := by decide +kernel
theorem dX11_terms_49 : decode cX11_terms 49 = .ok (.iconst 0, 1) := by decide +kernel
theorem dX11_terms_50 : decode cX11_terms 50 = .ok (.istore_n 2, 1) := by decide +kernel
theorem dX11_terms_51 : decode cX11_terms 51 = .ok (.aload_n 0, 1) := by decide +kernel
theorem dX11_terms_52 : decode cX11_terms 52 = .ok (.invokevirtual 289, 3) := by decide +kernel
theorem dX11_terms_55 : decode cX11_terms 55 = .ok (.aload_n 0, 1) := by decide +kernel
theorem dX11_terms_56 : decode cX11_terms 56 = .ok (.getfield 231, 3) := by decide +kernel
theorem dX11_terms_59 : decode cX11_terms 59 = .ok (.ifCond .eq 18, 3) := by decide +kernel
theorem dX11_terms_62 : decode cX11_terms 62 = .ok (.aload_n 0, 1) := by decide +kernel
theorem dX11_terms_63 : decode cX11_terms 63 = .ok (.invokevirtual 329, 3) := by decide +kernel
theorem dX11_terms_66 : decode cX11_terms 66 = .ok (.ifCond .ne 5, 3) := by decide +kernel
theorem dX11_terms_69 : decode cX11_terms 69 = .ok (.iconst (-1), 1) := by decide +kernel
theorem dX11_terms_70 : decode cX11_terms 70 = .ok (.ireturn, 1) := by decide +kernel
theorem dX11_terms_71 : decode cX11_terms 71 = .ok (.iinc 2 1, 3) := by decide +kernel
theorem dX11_terms_74 : decode cX11_terms 74 = .ok (.goto (-19), 3) := by decide +kernel
theorem dX11_terms_77 : decode cX11_terms 77 = .ok (.aload_n 0, 1) := by decide +kernel
theorem dX11_terms_78 : decode cX11_terms 78 = .ok (.invokevirtual 160, 3) := by decide +kernel
theorem dX11_terms_81 : decode cX11_terms 81 = .ok (.iload_n 2, 1) := by decide +kernel
theorem dX11_terms_82 : decode cX11_terms 82 = .ok (.ireturn, 1) := by decide +kernel
theorem dX11_fault_0 : decode cX11_fault 0 = .ok (.aload_n 0, 1) := by decide +kernel
theorem dX11_fault_1 : decode cX11_fault 1 = .ok (.iconst 0, 1) := by decide +kernel
theorem dX11_fault_2 : decode cX11_fault 2 = .ok (.putfield 163, 3) := by decide +kernel
theorem dX11_fault_5 : decode cX11_fault 5 = .ok (.iload_n 1, 1) := by decide +kernel
theorem dX11_fault_6 : decode cX11_fault 6 = .ok (.ifCond .ne 10, 3) := by decide +kernel
theorem dX11_fault_9 : decode cX11_fault 9 = .ok (.aload_n 0, 1) := by decide +kernel
theorem dX11_fault_10 : decode cX11_fault 10 = .ok (.getfield 215, 3) := by decide +kernel
theorem dX11_fault_13 : decode cX11_fault 13 = .ok (.goto 16, 3) := by decide +kernel
theorem dX11_fault_16 : decode cX11_fault 16 = .ok (.iload_n 1, 1) := by decide +kernel
theorem dX11_fault_17 : decode cX11_fault 17 = .ok (.iconst 1, 1) := by decide +kernel
theorem dX11_fault_18 : decode cX11_fault 18 = .ok (.if_icmp .ne 10, 3) := by decide +kernel
theorem dX11_fault_21 : decode cX11_fault 21 = .ok (.aload_n 0, 1) := by decide +kernel
theorem dX11_fault_22 : decode cX11_fault 22 = .ok (.getfield 68, 3) := by decide +kernel
theorem dX11_fault_25 : decode cX11_fault 25 = .ok (.goto 4, 3) := by decide +kernel
theorem dX11_fault_28 : decode cX11_fault 28 = .ok (.iconst (-1), 1) := by decide +kernel
theorem dX11_fault_29 : decode cX11_fault 29 = .ok (.ireturn, 1) := by decide +kernel
theorem dX11_truth_0 : decode cX11_truth 0 = .ok (.iload_n 0, 1) := by decide +kernel
theorem dX11_truth_1 : decode cX11_truth 1 = .ok (.ifCond .eq 7, 3) := by decide +kernel
theorem dX11_truth_4 : decode cX11_truth 4 = .ok (.lconst 1, 1) := by decide +kernel
theorem dX11_truth_5 : decode cX11_truth 5 = .ok (.goto 4, 3) := by decide +kernel
theorem dX11_truth_8 : decode cX11_truth 8 = .ok (.lconst 0, 1) := by decide +kernel
theorem dX11_truth_9 : decode cX11_truth 9 = .ok (.lreturn, 1) := by decide +kernel
theorem dX11_big_0 : decode cX11_big 0 = .ok (.lload_n 0, 1) := by decide +kernel
theorem dX11_big_1 : decode cX11_big 1 = .ok (.lconst 0, 1) := by decide +kernel
theorem dX11_big_2 : decode cX11_big 2 = .ok (.lcmp, 1) := by decide +kernel
theorem dX11_big_3 : decode cX11_big 3 = .ok (.ifCond .ge 8, 3) := by decide +kernel
theorem dX11_big_6 : decode cX11_big 6 = .ok (.lload_n 0, 1) := by decide +kernel
theorem dX11_big_7 : decode cX11_big 7 = .ok (.lneg, 1) := by decide +kernel
theorem dX11_big_8 : decode cX11_big 8 = .ok (.goto 4, 3) := by decide +kernel
theorem dX11_big_11 : decode cX11_big 11 = .ok (.lload_n 0, 1) := by decide +kernel
theorem dX11_big_12 : decode cX11_big 12 = .ok (.lreturn, 1) := by decide +kernel
theorem dX11_bounded_0 : decode cX11_bounded 0 = .ok (.aload_n 0, 1) := by decide +kernel
theorem dX11_bounded_1 : decode cX11_bounded 1 = .ok (.aload_n 0, 1) := by decide +kernel
theorem dX11_bounded_2 : decode cX11_bounded 2 = .ok (.getfield 333, 3) := by decide +kernel
theorem dX11_bounded_5 : decode cX11_bounded 5 = .ok (.ifCond .ne 14, 3) := by decide +kernel
theorem dX11_bounded_8 : decode cX11_bounded 8 = .ok (.lload_n 1, 1) := by decide +kernel
theorem dX11_bounded_9 : decode cX11_bounded 9 = .ok (.invokestatic 336, 3) := by decide +kernel
theorem dX11_bounded_12 : decode cX11_bounded 12 = .ok (.ldc2_w 340, 3) := by decide +kernel
theorem dX11_bounded_15 : decode cX11_bounded 15 = .ok (.lcmp, 1) := by decide +kernel
theorem dX11_bounded_16 : decode cX11_bounded 16 = .ok (.ifCond .le 7, 3) := by decide +kernel
theorem dX11_bounded_19 : decode cX11_bounded 19 = .ok (.iconst 1, 1) := by decide +kernel
theorem dX11_bounded_20 : decode cX11_bounded 20 = .ok (.goto 4, 3) := by decide +kernel
theorem dX11_bounded_23 : decode cX11_bounded 23 = .ok (.iconst 0, 1) := by decide +kernel
theorem dX11_bounded_24 : decode cX11_bounded 24 = .ok (.putfield 333, 3) := by decide +kernel
theorem dX11_bounded_27 : decode cX11_bounded 27 = .ok (.aload_n 0, 1) := by decide +kernel
theorem dX11_bounded_28 : decode cX11_bounded 28 = .ok (.getfield 333, 3) := by decide +kernel
theorem dX11_bounded_31 : decode cX11_bounded 31 = .ok (.ifCond .eq 7, 3) := by decide +kernel
theorem dX11_bounded_34 : decode cX11_bounded 34 = .ok (.lconst 0, 1) := by decide +kernel
theorem dX11_bounded_35 : decode cX11_bounded 35 = .ok (.goto 4, 3) := by decide +kernel
theorem dX11_bounded_38 : decode cX11_bounded 38 = .ok (.lload_n 1, 1) := by decide +kernel
theorem dX11_bounded_39 : decode cX11_bounded 39 = .ok (.lreturn, 1) := by decide +kernel
theorem dX11_made_0 : decode cX11_made 0 = .ok (.iload_n 1, 1) := by decide +kernel
theorem dX11_made_1 : decode cX11_made 1 = .ok (.tableswitch 314 1 14 #[71, 87, 103, 119, 135, 151, 167, 176, 185, 240, 240, 314, 314, 292], 71) := by decide +kernel
theorem dX11_made_72 : decode cX11_made 72 = .ok (.lload_n 2, 1) := by decide +kernel
theorem dX11_made_73 : decode cX11_made 73 = .ok (.lload 4, 2) := by decide +kernel
theorem dX11_made_75 : decode cX11_made 75 = .ok (.lcmp, 1) := by decide +kernel
theorem dX11_made_76 : decode cX11_made 76 = .ok (.ifCond .ge 7, 3) := by decide +kernel
theorem dX11_made_79 : decode cX11_made 79 = .ok (.iconst 1, 1) := by decide +kernel
theorem dX11_made_80 : decode cX11_made 80 = .ok (.goto 4, 3) := by decide +kernel
theorem dX11_made_83 : decode cX11_made 83 = .ok (.iconst 0, 1) := by decide +kernel
theorem dX11_made_84 : decode cX11_made 84 = .ok (.invokestatic 342, 3) := by decide +kernel
theorem dX11_made_87 : decode cX11_made 87 = .ok (.lreturn, 1) := by decide +kernel
theorem dX11_made_88 : decode cX11_made 88 = .ok (.lload_n 2, 1) := by decide +kernel
theorem dX11_made_89 : decode cX11_made 89 = .ok (.lload 4, 2) := by decide +kernel
theorem dX11_made_91 : decode cX11_made 91 = .ok (.lcmp, 1) := by decide +kernel
theorem dX11_made_92 : decode cX11_made 92 = .ok (.ifCond .gt 7, 3) := by decide +kernel
theorem dX11_made_95 : decode cX11_made 95 = .ok (.iconst 1, 1) := by decide +kernel
theorem dX11_made_96 : decode cX11_made 96 = .ok (.goto 4, 3) := by decide +kernel
theorem dX11_made_99 : decode cX11_made 99 = .ok (.iconst 0, 1) := by decide +kernel
theorem dX11_made_100 : decode cX11_made 100 = .ok (.invokestatic 342, 3) := by decide +kernel
theorem dX11_made_103 : decode cX11_made 103 = .ok (.lreturn, 1) := by decide +kernel
theorem dX11_made_104 : decode cX11_made 104 = .ok (.lload_n 2, 1) := by decide +kernel
theorem dX11_made_105 : decode cX11_made 105 = .ok (.lload 4, 2) := by decide +kernel
theorem dX11_made_107 : decode cX11_made 107 = .ok (.lcmp, 1) := by decide +kernel
theorem dX11_made_108 : decode cX11_made 108 = .ok (.ifCond .ne 7, 3) := by decide +kernel
theorem dX11_made_111 : decode cX11_made 111 = .ok (.iconst 1, 1) := by decide +kernel
theorem dX11_made_112 : decode cX11_made 112 = .ok (.goto 4, 3) := by decide +kernel
theorem dX11_made_115 : decode cX11_made 115 = .ok (.iconst 0, 1) := by decide +kernel
theorem dX11_made_116 : decode cX11_made 116 = .ok (.invokestatic 342, 3) := by decide +kernel
theorem dX11_made_119 : decode cX11_made 119 = .ok (.lreturn, 1) := by decide +kernel
theorem dX11_made_120 : decode cX11_made 120 = .ok (.lload_n 2, 1) := by decide +kernel
theorem dX11_made_121 : decode cX11_made 121 = .ok (.lload 4, 2) := by decide +kernel
theorem dX11_made_123 : decode cX11_made 123 = .ok (.lcmp, 1) := by decide +kernel
theorem dX11_made_124 : decode cX11_made 124 = .ok (.ifCond .eq 7, 3) := by decide +kernel
theorem dX11_made_127 : decode cX11_made 127 = .ok (.iconst 1, 1) := by decide +kernel
theorem dX11_made_128 : decode cX11_made 128 = .ok (.goto 4, 3) := by decide +kernel
theorem dX11_made_131 : decode cX11_made 131 = .ok (.iconst 0, 1) := by decide +kernel
theorem dX11_made_132 : decode cX11_made 132 = .ok (.invokestatic 342, 3) := by decide +kernel
theorem dX11_made_135 : decode cX11_made 135 = .ok (.lreturn, 1) := by decide +kernel
theorem dX11_made_136 : decode cX11_made 136 = .ok (.lload_n 2, 1) := by decide +kernel
theorem dX11_made_137 : decode cX11_made 137 = .ok (.lload 4, 2) := by decide +kernel
theorem dX11_made_139 : decode cX11_made 139 = .ok (.lcmp, 1) := by decide +kernel
theorem dX11_made_140 : decode cX11_made 140 = .ok (.ifCond .lt 7, 3) := by decide +kernel
theorem dX11_made_143 : decode cX11_made 143 = .ok (.iconst 1, 1) := by decide +kernel
theorem dX11_made_144 : decode cX11_made 144 = .ok (.goto 4, 3) := by decide +kernel
theorem dX11_made_147 : decode cX11_made 147 = .ok (.iconst 0, 1) := by decide +kernel
theorem dX11_made_148 : decode cX11_made 148 = .ok (.invokestatic 342, 3) := by decide +kernel
theorem dX11_made_151 : decode cX11_made 151 = .ok (.lreturn, 1) := by decide +kernel
theorem dX11_made_152 : decode cX11_made 152 = .ok (.lload_n 2, 1) := by decide +kernel
theorem dX11_made_153 : decode cX11_made 153 = .ok (.lload 4, 2) := by decide +kernel
theorem dX11_made_155 : decode cX11_made 155 = .ok (.lcmp, 1) := by decide +kernel
theorem dX11_made_156 : decode cX11_made 156 = .ok (.ifCond .le 7, 3) := by decide +kernel
theorem dX11_made_159 : decode cX11_made 159 = .ok (.iconst 1, 1) := by decide +kernel
theorem dX11_made_160 : decode cX11_made 160 = .ok (.goto 4, 3) := by decide +kernel
theorem dX11_made_163 : decode cX11_made 163 = .ok (.iconst 0, 1) := by decide +kernel
theorem dX11_made_164 : decode cX11_made 164 = .ok (.invokestatic 342, 3) := by decide +kernel
theorem dX11_made_167 : decode cX11_made 167 = .ok (.lreturn, 1) := by decide +kernel
theorem dX11_made_168 : decode cX11_made 168 = .ok (.aload_n 0, 1) := by decide +kernel
theorem dX11_made_169 : decode cX11_made 169 = .ok (.lload_n 2, 1) := by decide +kernel
theorem dX11_made_170 : decode cX11_made 170 = .ok (.lload 4, 2) := by decide +kernel
theorem dX11_made_172 : decode cX11_made 172 = .ok (.ladd, 1) := by decide +kernel
theorem dX11_made_173 : decode cX11_made 173 = .ok (.invokevirtual 346, 3) := by decide +kernel
theorem dX11_made_176 : decode cX11_made 176 = .ok (.lreturn, 1) := by decide +kernel
theorem dX11_made_177 : decode cX11_made 177 = .ok (.aload_n 0, 1) := by decide +kernel
theorem dX11_made_178 : decode cX11_made 178 = .ok (.lload_n 2, 1) := by decide +kernel
theorem dX11_made_179 : decode cX11_made 179 = .ok (.lload 4, 2) := by decide +kernel
theorem dX11_made_181 : decode cX11_made 181 = .ok (.lsub, 1) := by decide +kernel
theorem dX11_made_182 : decode cX11_made 182 = .ok (.invokevirtual 346, 3) := by decide +kernel
theorem dX11_made_185 : decode cX11_made 185 = .ok (.lreturn, 1) := by decide +kernel
theorem dX11_made_186 : decode cX11_made 186 = .ok (.aload_n 0, 1) := by decide +kernel
theorem dX11_made_187 : decode cX11_made 187 = .ok (.aload_n 0, 1) := by decide +kernel
theorem dX11_made_188 : decode cX11_made 188 = .ok (.getfield 333, 3) := by decide +kernel
theorem dX11_made_191 : decode cX11_made 191 = .ok (.ifCond .ne 26, 3) := by decide +kernel
theorem dX11_made_194 : decode cX11_made 194 = .ok (.lload_n 2, 1) := by decide +kernel
theorem dX11_made_195 : decode cX11_made 195 = .ok (.lconst 0, 1) := by decide +kernel
theorem dX11_made_196 : decode cX11_made 196 = .ok (.lcmp, 1) := by decide +kernel
theorem dX11_made_197 : decode cX11_made 197 = .ok (.ifCond .eq 24, 3) := by decide +kernel
theorem dX11_made_200 : decode cX11_made 200 = .ok (.lload 4, 2) := by decide +kernel
theorem dX11_made_202 : decode cX11_made 202 = .ok (.invokestatic 336, 3) := by decide +kernel
theorem dX11_made_205 : decode cX11_made 205 = .ok (.ldc2_w 340, 3) := by decide +kernel
theorem dX11_made_208 : decode cX11_made 208 = .ok (.lload_n 2, 1) := by decide +kernel
theorem dX11_made_209 : decode cX11_made 209 = .ok (.invokestatic 336, 3) := by decide +kernel
theorem dX11_made_212 : decode cX11_made 212 = .ok (.ldiv, 1) := by decide +kernel
theorem dX11_made_213 : decode cX11_made 213 = .ok (.lcmp, 1) := by decide +kernel
theorem dX11_made_214 : decode cX11_made 214 = .ok (.ifCond .le 7, 3) := by decide +kernel
theorem dX11_made_217 : decode cX11_made 217 = .ok (.iconst 1, 1) := by decide +kernel
theorem dX11_made_218 : decode cX11_made 218 = .ok (.goto 4, 3) := by decide +kernel
theorem dX11_made_221 : decode cX11_made 221 = .ok (.iconst 0, 1) := by decide +kernel
theorem dX11_made_222 : decode cX11_made 222 = .ok (.putfield 333, 3) := by decide +kernel
theorem dX11_made_225 : decode cX11_made 225 = .ok (.aload_n 0, 1) := by decide +kernel
theorem dX11_made_226 : decode cX11_made 226 = .ok (.getfield 333, 3) := by decide +kernel
theorem dX11_made_229 : decode cX11_made 229 = .ok (.ifCond .eq 7, 3) := by decide +kernel
theorem dX11_made_232 : decode cX11_made 232 = .ok (.lconst 0, 1) := by decide +kernel
theorem dX11_made_233 : decode cX11_made 233 = .ok (.goto 7, 3) := by decide +kernel
theorem dX11_made_236 : decode cX11_made 236 = .ok (.lload_n 2, 1) := by decide +kernel
theorem dX11_made_237 : decode cX11_made 237 = .ok (.lload 4, 2) := by decide +kernel
theorem dX11_made_239 : decode cX11_made 239 = .ok (.lmul, 1) := by decide +kernel
theorem dX11_made_240 : decode cX11_made 240 = .ok (.lreturn, 1) := by decide +kernel
theorem dX11_made_241 : decode cX11_made 241 = .ok (.aload_n 0, 1) := by decide +kernel
theorem dX11_made_242 : decode cX11_made 242 = .ok (.aload_n 0, 1) := by decide +kernel
theorem dX11_made_243 : decode cX11_made 243 = .ok (.getfield 333, 3) := by decide +kernel
theorem dX11_made_246 : decode cX11_made 246 = .ok (.ifCond .ne 10, 3) := by decide +kernel
theorem dX11_made_249 : decode cX11_made 249 = .ok (.lload 4, 2) := by decide +kernel
theorem dX11_made_251 : decode cX11_made 251 = .ok (.lconst 0, 1) := by decide +kernel
theorem dX11_made_252 : decode cX11_made 252 = .ok (.lcmp, 1) := by decide +kernel
theorem dX11_made_253 : decode cX11_made 253 = .ok (.ifCond .ne 7, 3) := by decide +kernel
theorem dX11_made_256 : decode cX11_made 256 = .ok (.iconst 1, 1) := by decide +kernel
theorem dX11_made_257 : decode cX11_made 257 = .ok (.goto 4, 3) := by decide +kernel
theorem dX11_made_260 : decode cX11_made 260 = .ok (.iconst 0, 1) := by decide +kernel
theorem dX11_made_261 : decode cX11_made 261 = .ok (.putfield 333, 3) := by decide +kernel
theorem dX11_made_264 : decode cX11_made 264 = .ok (.aload_n 0, 1) := by decide +kernel
theorem dX11_made_265 : decode cX11_made 265 = .ok (.getfield 333, 3) := by decide +kernel
theorem dX11_made_268 : decode cX11_made 268 = .ok (.ifCond .eq 7, 3) := by decide +kernel
theorem dX11_made_271 : decode cX11_made 271 = .ok (.lconst 0, 1) := by decide +kernel
theorem dX11_made_272 : decode cX11_made 272 = .ok (.goto 20, 3) := by decide +kernel
theorem dX11_made_275 : decode cX11_made 275 = .ok (.iload_n 1, 1) := by decide +kernel
theorem dX11_made_276 : decode cX11_made 276 = .ok (.bipush 10, 2) := by decide +kernel
theorem dX11_made_278 : decode cX11_made 278 = .ok (.if_icmp .ne 10, 3) := by decide +kernel
theorem dX11_made_281 : decode cX11_made 281 = .ok (.lload_n 2, 1) := by decide +kernel
theorem dX11_made_282 : decode cX11_made 282 = .ok (.lload 4, 2) := by decide +kernel
theorem dX11_made_284 : decode cX11_made 284 = .ok (.ldiv, 1) := by decide +kernel
theorem dX11_made_285 : decode cX11_made 285 = .ok (.goto 7, 3) := by decide +kernel
theorem dX11_made_288 : decode cX11_made 288 = .ok (.lload_n 2, 1) := by decide +kernel
theorem dX11_made_289 : decode cX11_made 289 = .ok (.lload 4, 2) := by decide +kernel
theorem dX11_made_291 : decode cX11_made 291 = .ok (.lrem, 1) := by decide +kernel
theorem dX11_made_292 : decode cX11_made 292 = .ok (.lreturn, 1) := by decide +kernel
theorem dX11_made_293 : decode cX11_made 293 = .ok (.lload_n 2, 1) := by decide +kernel
theorem dX11_made_294 : decode cX11_made 294 = .ok (.lconst 0, 1) := by decide +kernel
theorem dX11_made_295 : decode cX11_made 295 = .ok (.lcmp, 1) := by decide +kernel
theorem dX11_made_296 : decode cX11_made 296 = .ok (.ifCond .eq 14, 3) := by decide +kernel
theorem dX11_made_299 : decode cX11_made 299 = .ok (.lload 4, 2) := by decide +kernel
theorem dX11_made_301 : decode cX11_made 301 = .ok (.lconst 0, 1) := by decide +kernel
theorem dX11_made_302 : decode cX11_made 302 = .ok (.lcmp, 1) := by decide +kernel
theorem dX11_made_303 : decode cX11_made 303 = .ok (.ifCond .eq 7, 3) := by decide +kernel
theorem dX11_made_306 : decode cX11_made 306 = .ok (.iconst 1, 1) := by decide +kernel
theorem dX11_made_307 : decode cX11_made 307 = .ok (.goto 4, 3) := by decide +kernel
theorem dX11_made_310 : decode cX11_made 310 = .ok (.iconst 0, 1) := by decide +kernel
theorem dX11_made_311 : decode cX11_made 311 = .ok (.invokestatic 342, 3) := by decide +kernel
theorem dX11_made_314 : decode cX11_made 314 = .ok (.lreturn, 1) := by decide +kernel
theorem dX11_made_315 : decode cX11_made 315 = .ok (.lload_n 2, 1) := by decide +kernel
theorem dX11_made_316 : decode cX11_made 316 = .ok (.lconst 0, 1) := by decide +kernel
theorem dX11_made_317 : decode cX11_made 317 = .ok (.lcmp, 1) := by decide +kernel
theorem dX11_made_318 : decode cX11_made 318 = .ok (.ifCond .ne 10, 3) := by decide +kernel
theorem dX11_made_321 : decode cX11_made 321 = .ok (.lload 4, 2) := by decide +kernel
theorem dX11_made_323 : decode cX11_made 323 = .ok (.lconst 0, 1) := by decide +kernel
theorem dX11_made_324 : decode cX11_made 324 = .ok (.lcmp, 1) := by decide +kernel
theorem dX11_made_325 : decode cX11_made 325 = .ok (.ifCond .eq 7, 3) := by decide +kernel
theorem dX11_made_328 : decode cX11_made 328 = .ok (.iconst 1, 1) := by decide +kernel
theorem dX11_made_329 : decode cX11_made 329 = .ok (.goto 4, 3) := by decide +kernel
theorem dX11_made_332 : decode cX11_made 332 = .ok (.iconst 0, 1) := by decide +kernel
theorem dX11_made_333 : decode cX11_made 333 = .ok (.invokestatic 342, 3) := by decide +kernel
theorem dX11_made_336 : decode cX11_made 336 = .ok (.lreturn, 1) := by decide +kernel
theorem dX11_nameValue_0 : decode cX11_nameValue 0 = .ok (.iload_n 1, 1) := by decide +kernel
theorem dX11_nameValue_1 : decode cX11_nameValue 1 = .ok (.tableswitch 125 0 9 #[55, 55, 55, 55, 70, 98, 98, 98, 115, 120], 55) := by decide +kernel
theorem dX11_nameValue_56 : decode cX11_nameValue 56 = .ok (.aload_n 0, 1) := by decide +kernel
theorem dX11_nameValue_57 : decode cX11_nameValue 57 = .ok (.getfield 13, 3) := by decide +kernel
theorem dX11_nameValue_60 : decode cX11_nameValue 60 = .ok (.bipush 8, 2) := by decide +kernel
theorem dX11_nameValue_62 : decode cX11_nameValue 62 = .ok (.aload_n 0, 1) := by decide +kernel
theorem dX11_nameValue_63 : decode cX11_nameValue 63 = .ok (.getfield 349, 3) := by decide +kernel
theorem dX11_nameValue_66 : decode cX11_nameValue 66 = .ok (.imul, 1) := by decide +kernel
theorem dX11_nameValue_67 : decode cX11_nameValue 67 = .ok (.iload_n 1, 1) := by decide +kernel
theorem dX11_nameValue_68 : decode cX11_nameValue 68 = .ok (.iadd, 1) := by decide +kernel
theorem dX11_nameValue_69 : decode cX11_nameValue 69 = .ok (.iaload, 1) := by decide +kernel
theorem dX11_nameValue_70 : decode cX11_nameValue 70 = .ok (.ireturn, 1) := by decide +kernel
theorem dX11_nameValue_71 : decode cX11_nameValue 71 = .ok (.aload_n 0, 1) := by decide +kernel
theorem dX11_nameValue_72 : decode cX11_nameValue 72 = .ok (.getfield 13, 3) := by decide +kernel
theorem dX11_nameValue_75 : decode cX11_nameValue 75 = .ok (.bipush 8, 2) := by decide +kernel
theorem dX11_nameValue_77 : decode cX11_nameValue 77 = .ok (.aload_n 0, 1) := by decide +kernel
theorem dX11_nameValue_78 : decode cX11_nameValue 78 = .ok (.getfield 349, 3) := by decide +kernel
theorem dX11_nameValue_81 : decode cX11_nameValue 81 = .ok (.imul, 1) := by decide +kernel
theorem dX11_nameValue_82 : decode cX11_nameValue 82 = .ok (.iconst 4, 1) := by decide +kernel
theorem dX11_nameValue_83 : decode cX11_nameValue 83 = .ok (.iadd, 1) := by decide +kernel
theorem dX11_nameValue_84 : decode cX11_nameValue 84 = .ok (.aload_n 0, 1) := by decide +kernel
theorem dX11_nameValue_85 : decode cX11_nameValue 85 = .ok (.getfield 37, 3) := by decide +kernel
theorem dX11_nameValue_88 : decode cX11_nameValue 88 = .ok (.bipush 7, 2) := by decide +kernel
theorem dX11_nameValue_90 : decode cX11_nameValue 90 = .ok (.aload_n 0, 1) := by decide +kernel
theorem dX11_nameValue_91 : decode cX11_nameValue 91 = .ok (.getfield 352, 3) := by decide +kernel
theorem dX11_nameValue_94 : decode cX11_nameValue 94 = .ok (.imul, 1) := by decide +kernel
theorem dX11_nameValue_95 : decode cX11_nameValue 95 = .ok (.iaload, 1) := by decide +kernel
theorem dX11_nameValue_96 : decode cX11_nameValue 96 = .ok (.iadd, 1) := by decide +kernel
theorem dX11_nameValue_97 : decode cX11_nameValue 97 = .ok (.iaload, 1) := by decide +kernel
theorem dX11_nameValue_98 : decode cX11_nameValue 98 = .ok (.ireturn, 1) := by decide +kernel
theorem dX11_nameValue_99 : decode cX11_nameValue 99 = .ok (.aload_n 0, 1) := by decide +kernel
theorem dX11_nameValue_100 : decode cX11_nameValue 100 = .ok (.getfield 37, 3) := by decide +kernel
theorem dX11_nameValue_103 : decode cX11_nameValue 103 = .ok (.bipush 7, 2) := by decide +kernel
theorem dX11_nameValue_105 : decode cX11_nameValue 105 = .ok (.aload_n 0, 1) := by decide +kernel
theorem dX11_nameValue_106 : decode cX11_nameValue 106 = .ok (.getfield 352, 3) := by decide +kernel
theorem dX11_nameValue_109 : decode cX11_nameValue 109 = .ok (.imul, 1) := by decide +kernel
theorem dX11_nameValue_110 : decode cX11_nameValue 110 = .ok (.iload_n 1, 1) := by decide +kernel
theorem dX11_nameValue_111 : decode cX11_nameValue 111 = .ok (.iadd, 1) := by decide +kernel
theorem dX11_nameValue_112 : decode cX11_nameValue 112 = .ok (.iconst 5, 1) := by decide +kernel
theorem dX11_nameValue_113 : decode cX11_nameValue 113 = .ok (.isub, 1) := by decide +kernel
theorem dX11_nameValue_114 : decode cX11_nameValue 114 = .ok (.iaload, 1) := by decide +kernel
theorem dX11_nameValue_115 : decode cX11_nameValue 115 = .ok (.ireturn, 1) := by decide +kernel
theorem dX11_nameValue_116 : decode cX11_nameValue 116 = .ok (.aload_n 0, 1) := by decide +kernel
theorem dX11_nameValue_117 : decode cX11_nameValue 117 = .ok (.getfield 355, 3) := by decide +kernel
theorem dX11_nameValue_120 : decode cX11_nameValue 120 = .ok (.ireturn, 1) := by decide +kernel
theorem dX11_nameValue_121 : decode cX11_nameValue 121 = .ok (.aload_n 0, 1) := by decide +kernel
theorem dX11_nameValue_122 : decode cX11_nameValue 122 = .ok (.getfield 358, 3) := by decide +kernel
theorem dX11_nameValue_125 : decode cX11_nameValue 125 = .ok (.ireturn, 1) := by decide +kernel
theorem dX11_nameValue_126 : decode cX11_nameValue 126 = .ok (.aload_n 0, 1) := by decide +kernel
theorem dX11_nameValue_127 : decode cX11_nameValue 127 = .ok (.getfield 361, 3) := by decide +kernel
theorem dX11_nameValue_130 : decode cX11_nameValue 130 = .ok (.ireturn, 1) := by decide +kernel
theorem dX11_valueOf_0 : decode cX11_valueOf 0 = .ok (.aload_n 0, 1) := by decide +kernel
theorem dX11_valueOf_1 : decode cX11_valueOf 1 = .ok (.iconst 0, 1) := by decide +kernel
theorem dX11_valueOf_2 : decode cX11_valueOf 2 = .ok (.putfield 333, 3) := by decide +kernel
theorem dX11_valueOf_5 : decode cX11_valueOf 5 = .ok (.lconst 0, 1) := by decide +kernel
theorem dX11_valueOf_6 : decode cX11_valueOf 6 = .ok (.lstore_n 2, 1) := by decide +kernel
theorem dX11_valueOf_7 : decode cX11_valueOf 7 = .ok (.iconst 0, 1) := by decide +kernel
theorem dX11_valueOf_8 : decode cX11_valueOf 8 = .ok (.istore 4, 2) := by decide +kernel
theorem dX11_valueOf_10 : decode cX11_valueOf 10 = .ok (.iload 4, 2) := by decide +kernel
theorem dX11_valueOf_12 : decode cX11_valueOf 12 = .ok (.aload_n 0, 1) := by decide +kernel
theorem dX11_valueOf_13 : decode cX11_valueOf 13 = .ok (.getfield 99, 3) := by decide +kernel
theorem dX11_valueOf_16 : decode cX11_valueOf 16 = .ok (.iload_n 1, 1) := by decide +kernel
theorem dX11_valueOf_17 : decode cX11_valueOf 17 = .ok (.iaload, 1) := by decide +kernel
theorem dX11_valueOf_18 : decode cX11_valueOf 18 = .ok (.if_icmp .ge 176, 3) := by decide +kernel
theorem dX11_valueOf_21 : decode cX11_valueOf 21 = .ok (.aload_n 0, 1) := by decide +kernel
theorem dX11_valueOf_22 : decode cX11_valueOf 22 = .ok (.getfield 333, 3) := by decide +kernel
theorem dX11_valueOf_25 : decode cX11_valueOf 25 = .ok (.ifCond .ne 169, 3) := by decide +kernel
theorem dX11_valueOf_28 : decode cX11_valueOf 28 = .ok (.aload_n 0, 1) := by decide +kernel
theorem dX11_valueOf_29 : decode cX11_valueOf 29 = .ok (.getfield 93, 3) := by decide +kernel
theorem dX11_valueOf_32 : decode cX11_valueOf 32 = .ok (.aload_n 0, 1) := by decide +kernel
theorem dX11_valueOf_33 : decode cX11_valueOf 33 = .ok (.getfield 96, 3) := by decide +kernel
theorem dX11_valueOf_36 : decode cX11_valueOf 36 = .ok (.iload_n 1, 1) := by decide +kernel
theorem dX11_valueOf_37 : decode cX11_valueOf 37 = .ok (.iaload, 1) := by decide +kernel
theorem dX11_valueOf_38 : decode cX11_valueOf 38 = .ok (.iload 4, 2) := by decide +kernel
theorem dX11_valueOf_40 : decode cX11_valueOf 40 = .ok (.iadd, 1) := by decide +kernel
theorem dX11_valueOf_41 : decode cX11_valueOf 41 = .ok (.iaload, 1) := by decide +kernel
theorem dX11_valueOf_42 : decode cX11_valueOf 42 = .ok (.istore 5, 2) := by decide +kernel
theorem dX11_valueOf_44 : decode cX11_valueOf 44 = .ok (.aload_n 0, 1) := by decide +kernel
theorem dX11_valueOf_45 : decode cX11_valueOf 45 = .ok (.getfield 81, 3) := by decide +kernel
theorem dX11_valueOf_48 : decode cX11_valueOf 48 = .ok (.iload 5, 2) := by decide +kernel
theorem dX11_valueOf_50 : decode cX11_valueOf 50 = .ok (.iaload, 1) := by decide +kernel
theorem dX11_valueOf_51 : decode cX11_valueOf 51 = .ok (.istore 6, 2) := by decide +kernel
theorem dX11_valueOf_53 : decode cX11_valueOf 53 = .ok (.iload 6, 2) := by decide +kernel
theorem dX11_valueOf_55 : decode cX11_valueOf 55 = .ok (.ifCond .ne 14, 3) := by decide +kernel
theorem dX11_valueOf_58 : decode cX11_valueOf 58 = .ok (.aload_n 0, 1) := by decide +kernel
theorem dX11_valueOf_59 : decode cX11_valueOf 59 = .ok (.getfield 90, 3) := by decide +kernel
theorem dX11_valueOf_62 : decode cX11_valueOf 62 = .ok (.iload 5, 2) := by decide +kernel
theorem dX11_valueOf_64 : decode cX11_valueOf 64 = .ok (.iaload, 1) := by decide +kernel
theorem dX11_valueOf_65 : decode cX11_valueOf 65 = .ok (.i2l, 1) := by decide +kernel
theorem dX11_valueOf_66 : decode cX11_valueOf 66 = .ok (.goto 113, 3) := by decide +kernel
theorem dX11_valueOf_69 : decode cX11_valueOf 69 = .ok (.iload 6, 2) := by decide +kernel
theorem dX11_valueOf_71 : decode cX11_valueOf 71 = .ok (.bipush 16, 2) := by decide +kernel
theorem dX11_valueOf_73 : decode cX11_valueOf 73 = .ok (.if_icmp .ne 18, 3) := by decide +kernel
theorem dX11_valueOf_76 : decode cX11_valueOf 76 = .ok (.aload_n 0, 1) := by decide +kernel
theorem dX11_valueOf_77 : decode cX11_valueOf 77 = .ok (.aload_n 0, 1) := by decide +kernel
theorem dX11_valueOf_78 : decode cX11_valueOf 78 = .ok (.getfield 90, 3) := by decide +kernel
theorem dX11_valueOf_81 : decode cX11_valueOf 81 = .ok (.iload 5, 2) := by decide +kernel
theorem dX11_valueOf_83 : decode cX11_valueOf 83 = .ok (.iaload, 1) := by decide +kernel
theorem dX11_valueOf_84 : decode cX11_valueOf 84 = .ok (.invokevirtual 364, 3) := by decide +kernel
theorem dX11_valueOf_87 : decode cX11_valueOf 87 = .ok (.i2l, 1) := by decide +kernel
theorem dX11_valueOf_88 : decode cX11_valueOf 88 = .ok (.goto 91, 3) := by decide +kernel
theorem dX11_valueOf_91 : decode cX11_valueOf 91 = .ok (.iload 6, 2) := by decide +kernel
theorem dX11_valueOf_93 : decode cX11_valueOf 93 = .ok (.bipush 12, 2) := by decide +kernel
theorem dX11_valueOf_95 : decode cX11_valueOf 95 = .ok (.if_icmp .ne 19, 3) := by decide +kernel
theorem dX11_valueOf_98 : decode cX11_valueOf 98 = .ok (.aload_n 0, 1) := by decide +kernel
theorem dX11_valueOf_99 : decode cX11_valueOf 99 = .ok (.getfield 114, 3) := by decide +kernel
theorem dX11_valueOf_102 : decode cX11_valueOf 102 = .ok (.aload_n 0, 1) := by decide +kernel
theorem dX11_valueOf_103 : decode cX11_valueOf 103 = .ok (.getfield 84, 3) := by decide +kernel
theorem dX11_valueOf_106 : decode cX11_valueOf 106 = .ok (.iload 5, 2) := by decide +kernel
theorem dX11_valueOf_108 : decode cX11_valueOf 108 = .ok (.iaload, 1) := by decide +kernel
theorem dX11_valueOf_109 : decode cX11_valueOf 109 = .ok (.laload, 1) := by decide +kernel
theorem dX11_valueOf_110 : decode cX11_valueOf 110 = .ok (.lneg, 1) := by decide +kernel
theorem dX11_valueOf_111 : decode cX11_valueOf 111 = .ok (.goto 68, 3) := by decide +kernel
theorem dX11_valueOf_114 : decode cX11_valueOf 114 = .ok (.iload 6, 2) := by decide +kernel
theorem dX11_valueOf_116 : decode cX11_valueOf 116 = .ok (.bipush 13, 2) := by decide +kernel
theorem dX11_valueOf_118 : decode cX11_valueOf 118 = .ok (.if_icmp .ne 31, 3) := by decide +kernel
theorem dX11_valueOf_121 : decode cX11_valueOf 121 = .ok (.aload_n 0, 1) := by decide +kernel
theorem dX11_valueOf_122 : decode cX11_valueOf 122 = .ok (.getfield 114, 3) := by decide +kernel
theorem dX11_valueOf_125 : decode cX11_valueOf 125 = .ok (.aload_n 0, 1) := by decide +kernel
theorem dX11_valueOf_126 : decode cX11_valueOf 126 = .ok (.getfield 84, 3) := by decide +kernel
theorem dX11_valueOf_129 : decode cX11_valueOf 129 = .ok (.iload 5, 2) := by decide +kernel
theorem dX11_valueOf_131 : decode cX11_valueOf 131 = .ok (.iaload, 1) := by decide +kernel
theorem dX11_valueOf_132 : decode cX11_valueOf 132 = .ok (.laload, 1) := by decide +kernel
theorem dX11_valueOf_133 : decode cX11_valueOf 133 = .ok (.lconst 0, 1) := by decide +kernel
theorem dX11_valueOf_134 : decode cX11_valueOf 134 = .ok (.lcmp, 1) := by decide +kernel
theorem dX11_valueOf_135 : decode cX11_valueOf 135 = .ok (.ifCond .ne 7, 3) := by decide +kernel
theorem dX11_valueOf_138 : decode cX11_valueOf 138 = .ok (.iconst 1, 1) := by decide +kernel
theorem dX11_valueOf_139 : decode cX11_valueOf 139 = .ok (.goto 4, 3) := by decide +kernel
theorem dX11_valueOf_142 : decode cX11_valueOf 142 = .ok (.iconst 0, 1) := by decide +kernel
theorem dX11_valueOf_143 : decode cX11_valueOf 143 = .ok (.invokestatic 342, 3) := by decide +kernel
theorem dX11_valueOf_146 : decode cX11_valueOf 146 = .ok (.goto 33, 3) := by decide +kernel
theorem dX11_valueOf_149 : decode cX11_valueOf 149 = .ok (.aload_n 0, 1) := by decide +kernel
theorem dX11_valueOf_150 : decode cX11_valueOf 150 = .ok (.iload 6, 2) := by decide +kernel
theorem dX11_valueOf_152 : decode cX11_valueOf 152 = .ok (.aload_n 0, 1) := by decide +kernel
theorem dX11_valueOf_153 : decode cX11_valueOf 153 = .ok (.getfield 114, 3) := by decide +kernel
theorem dX11_valueOf_156 : decode cX11_valueOf 156 = .ok (.aload_n 0, 1) := by decide +kernel
theorem dX11_valueOf_157 : decode cX11_valueOf 157 = .ok (.getfield 84, 3) := by decide +kernel
theorem dX11_valueOf_160 : decode cX11_valueOf 160 = .ok (.iload 5, 2) := by decide +kernel
theorem dX11_valueOf_162 : decode cX11_valueOf 162 = .ok (.iaload, 1) := by decide +kernel
theorem dX11_valueOf_163 : decode cX11_valueOf 163 = .ok (.laload, 1) := by decide +kernel
theorem dX11_valueOf_164 : decode cX11_valueOf 164 = .ok (.aload_n 0, 1) := by decide +kernel
theorem dX11_valueOf_165 : decode cX11_valueOf 165 = .ok (.getfield 114, 3) := by decide +kernel
theorem dX11_valueOf_168 : decode cX11_valueOf 168 = .ok (.aload_n 0, 1) := by decide +kernel
theorem dX11_valueOf_169 : decode cX11_valueOf 169 = .ok (.getfield 87, 3) := by decide +kernel
theorem dX11_valueOf_172 : decode cX11_valueOf 172 = .ok (.iload 5, 2) := by decide +kernel
theorem dX11_valueOf_174 : decode cX11_valueOf 174 = .ok (.iaload, 1) := by decide +kernel
theorem dX11_valueOf_175 : decode cX11_valueOf 175 = .ok (.laload, 1) := by decide +kernel
theorem dX11_valueOf_176 : decode cX11_valueOf 176 = .ok (.invokevirtual 367, 3) := by decide +kernel
theorem dX11_valueOf_179 : decode cX11_valueOf 179 = .ok (.lstore_n 2, 1) := by decide +kernel
theorem dX11_valueOf_180 : decode cX11_valueOf 180 = .ok (.aload_n 0, 1) := by decide +kernel
theorem dX11_valueOf_181 : decode cX11_valueOf 181 = .ok (.getfield 114, 3) := by decide +kernel
theorem dX11_valueOf_184 : decode cX11_valueOf 184 = .ok (.iload 5, 2) := by decide +kernel
theorem dX11_valueOf_186 : decode cX11_valueOf 186 = .ok (.lload_n 2, 1) := by decide +kernel
theorem dX11_valueOf_187 : decode cX11_valueOf 187 = .ok (.lastore, 1) := by decide +kernel
theorem dX11_valueOf_188 : decode cX11_valueOf 188 = .ok (.iinc 4 1, 3) := by decide +kernel
theorem dX11_valueOf_191 : decode cX11_valueOf 191 = .ok (.goto (-181), 3) := by decide +kernel
theorem dX11_valueOf_194 : decode cX11_valueOf 194 = .ok (.aload_n 0, 1) := by decide +kernel
theorem dX11_valueOf_195 : decode cX11_valueOf 195 = .ok (.getfield 333, 3) := by decide +kernel
theorem dX11_valueOf_198 : decode cX11_valueOf 198 = .ok (.ifCond .eq 7, 3) := by decide +kernel
theorem dX11_valueOf_201 : decode cX11_valueOf 201 = .ok (.lconst 0, 1) := by decide +kernel
theorem dX11_valueOf_202 : decode cX11_valueOf 202 = .ok (.goto 4, 3) := by decide +kernel
theorem dX11_valueOf_205 : decode cX11_valueOf 205 = .ok (.lload_n 2, 1) := by decide +kernel
theorem dX11_valueOf_206 : decode cX11_valueOf 206 = .ok (.lreturn, 1) := by decide +kernel
theorem dX11_within_0 : decode cX11_within 0 = .ok (.aload_n 0, 1) := by decide +kernel
theorem dX11_within_1 : decode cX11_within 1 = .ok (.getfield 78, 3) := by decide +kernel
theorem dX11_within_4 : decode cX11_within 4 = .ok (.iconst 2, 1) := by decide +kernel
theorem dX11_within_5 : decode cX11_within 5 = .ok (.iload_n 1, 1) := by decide +kernel
theorem dX11_within_6 : decode cX11_within 6 = .ok (.iadd, 1) := by decide +kernel
theorem dX11_within_7 : decode cX11_within 7 = .ok (.baload, 1) := by decide +kernel
theorem dX11_within_8 : decode cX11_within 8 = .ok (.ifCond .ne 5, 3) := by decide +kernel
theorem dX11_within_11 : decode cX11_within 11 = .ok (.iload_n 3, 1) := by decide +kernel
theorem dX11_within_12 : decode cX11_within 12 = .ok (.ireturn, 1) := by decide +kernel
theorem dX11_within_13 : decode cX11_within 13 = .ok (.aload_n 0, 1) := by decide +kernel
theorem dX11_within_14 : decode cX11_within 14 = .ok (.iload_n 1, 1) := by decide +kernel
theorem dX11_within_15 : decode cX11_within 15 = .ok (.invokevirtual 371, 3) := by decide +kernel
theorem dX11_within_18 : decode cX11_within 18 = .ok (.lstore 4, 2) := by decide +kernel
theorem dX11_within_20 : decode cX11_within 20 = .ok (.lload 4, 2) := by decide +kernel
theorem dX11_within_22 : decode cX11_within 22 = .ok (.lconst 0, 1) := by decide +kernel
theorem dX11_within_23 : decode cX11_within 23 = .ok (.lcmp, 1) := by decide +kernel
theorem dX11_within_24 : decode cX11_within 24 = .ok (.ifCond .ge 7, 3) := by decide +kernel
theorem dX11_within_27 : decode cX11_within 27 = .ok (.iconst 0, 1) := by decide +kernel
theorem dX11_within_28 : decode cX11_within 28 = .ok (.goto 18, 3) := by decide +kernel
theorem dX11_within_31 : decode cX11_within 31 = .ok (.lload 4, 2) := by decide +kernel
theorem dX11_within_33 : decode cX11_within 33 = .ok (.iload_n 2, 1) := by decide +kernel
theorem dX11_within_34 : decode cX11_within 34 = .ok (.i2l, 1) := by decide +kernel
theorem dX11_within_35 : decode cX11_within 35 = .ok (.lcmp, 1) := by decide +kernel
theorem dX11_within_36 : decode cX11_within 36 = .ok (.ifCond .le 7, 3) := by decide +kernel
theorem dX11_within_39 : decode cX11_within 39 = .ok (.iload_n 2, 1) := by decide +kernel
theorem dX11_within_40 : decode cX11_within 40 = .ok (.goto 6, 3) := by decide +kernel
theorem dX11_within_43 : decode cX11_within 43 = .ok (.lload 4, 2) := by decide +kernel
theorem dX11_within_45 : decode cX11_within 45 = .ok (.l2i, 1) := by decide +kernel
theorem dX11_within_46 : decode cX11_within 46 = .ok (.ireturn, 1) := by decide +kernel
theorem dX11_shutOf_0 : decode cX11_shutOf 0 = .ok (.aload_n 0, 1) := by decide +kernel
theorem dX11_shutOf_1 : decode cX11_shutOf 1 = .ok (.getfield 375, 3) := by decide +kernel
theorem dX11_shutOf_4 : decode cX11_shutOf 4 = .ok (.iconst 2, 1) := by decide +kernel
theorem dX11_shutOf_5 : decode cX11_shutOf 5 = .ok (.iload_n 1, 1) := by decide +kernel
theorem dX11_shutOf_6 : decode cX11_shutOf 6 = .ok (.imul, 1) := by decide +kernel
theorem dX11_shutOf_7 : decode cX11_shutOf 7 = .ok (.ishr, 1) := by decide +kernel
theorem dX11_shutOf_8 : decode cX11_shutOf 8 = .ok (.iconst 3, 1) := by decide +kernel
theorem dX11_shutOf_9 : decode cX11_shutOf 9 = .ok (.iand, 1) := by decide +kernel
theorem dX11_shutOf_10 : decode cX11_shutOf 10 = .ok (.ireturn, 1) := by decide +kernel
theorem dX11_handsOver_0 : decode cX11_handsOver 0 = .ok (.iconst 0, 1) := by decide +kernel
theorem dX11_handsOver_1 : decode cX11_handsOver 1 = .ok (.istore_n 2, 1) := by decide +kernel
theorem dX11_handsOver_2 : decode cX11_handsOver 2 = .ok (.iload_n 2, 1) := by decide +kernel
theorem dX11_handsOver_3 : decode cX11_handsOver 3 = .ok (.aload_n 0, 1) := by decide +kernel
theorem dX11_handsOver_4 : decode cX11_handsOver 4 = .ok (.getfield 212, 3) := by decide +kernel
theorem dX11_handsOver_7 : decode cX11_handsOver 7 = .ok (.if_icmp .ge 120, 3) := by decide +kernel
theorem dX11_handsOver_10 : decode cX11_handsOver 10 = .ok (.aload_n 0, 1) := by decide +kernel
theorem dX11_handsOver_11 : decode cX11_handsOver 11 = .ok (.getfield 46, 3) := by decide +kernel
theorem dX11_handsOver_14 : decode cX11_handsOver 14 = .ok (.iconst 3, 1) := by decide +kernel
theorem dX11_handsOver_15 : decode cX11_handsOver 15 = .ok (.iload_n 2, 1) := by decide +kernel
theorem dX11_handsOver_16 : decode cX11_handsOver 16 = .ok (.imul, 1) := by decide +kernel
theorem dX11_handsOver_17 : decode cX11_handsOver 17 = .ok (.iaload, 1) := by decide +kernel
theorem dX11_handsOver_18 : decode cX11_handsOver 18 = .ok (.iload_n 1, 1) := by decide +kernel
theorem dX11_handsOver_19 : decode cX11_handsOver 19 = .ok (.if_icmp .eq 6, 3) := by decide +kernel
theorem dX11_handsOver_22 : decode cX11_handsOver 22 = .ok (.goto 99, 3) := by decide +kernel
theorem dX11_handsOver_25 : decode cX11_handsOver 25 = .ok (.aload_n 0, 1) := by decide +kernel
theorem dX11_handsOver_26 : decode cX11_handsOver 26 = .ok (.getfield 46, 3) := by decide +kernel
theorem dX11_handsOver_29 : decode cX11_handsOver 29 = .ok (.iconst 3, 1) := by decide +kernel
theorem dX11_handsOver_30 : decode cX11_handsOver 30 = .ok (.iload_n 2, 1) := by decide +kernel
theorem dX11_handsOver_31 : decode cX11_handsOver 31 = .ok (.imul, 1) := by decide +kernel
theorem dX11_handsOver_32 : decode cX11_handsOver 32 = .ok (.iconst 1, 1) := by decide +kernel
theorem dX11_handsOver_33 : decode cX11_handsOver 33 = .ok (.iadd, 1) := by decide +kernel
theorem dX11_handsOver_34 : decode cX11_handsOver 34 = .ok (.iaload, 1) := by decide +kernel
theorem dX11_handsOver_35 : decode cX11_handsOver 35 = .ok (.istore_n 3, 1) := by decide +kernel
theorem dX11_handsOver_36 : decode cX11_handsOver 36 = .ok (.aload_n 0, 1) := by decide +kernel
theorem dX11_handsOver_37 : decode cX11_handsOver 37 = .ok (.getfield 46, 3) := by decide +kernel
theorem dX11_handsOver_40 : decode cX11_handsOver 40 = .ok (.iconst 3, 1) := by decide +kernel
theorem dX11_handsOver_41 : decode cX11_handsOver 41 = .ok (.iload_n 2, 1) := by decide +kernel
theorem dX11_handsOver_42 : decode cX11_handsOver 42 = .ok (.imul, 1) := by decide +kernel
theorem dX11_handsOver_43 : decode cX11_handsOver 43 = .ok (.iconst 2, 1) := by decide +kernel
theorem dX11_handsOver_44 : decode cX11_handsOver 44 = .ok (.iadd, 1) := by decide +kernel
theorem dX11_handsOver_45 : decode cX11_handsOver 45 = .ok (.iaload, 1) := by decide +kernel
theorem dX11_handsOver_46 : decode cX11_handsOver 46 = .ok (.istore 4, 2) := by decide +kernel
theorem dX11_handsOver_48 : decode cX11_handsOver 48 = .ok (.aload_n 0, 1) := by decide +kernel
theorem dX11_handsOver_49 : decode cX11_handsOver 49 = .ok (.getfield 133, 3) := by decide +kernel
theorem dX11_handsOver_52 : decode cX11_handsOver 52 = .ok (.iload_n 3, 1) := by decide +kernel
theorem dX11_handsOver_53 : decode cX11_handsOver 53 = .ok (.iaload, 1) := by decide +kernel
theorem dX11_handsOver_54 : decode cX11_handsOver 54 = .ok (.istore 5, 2) := by decide +kernel
theorem dX11_handsOver_56 : decode cX11_handsOver 56 = .ok (.aload_n 0, 1) := by decide +kernel
theorem dX11_handsOver_57 : decode cX11_handsOver 57 = .ok (.getfield 118, 3) := by decide +kernel
theorem dX11_handsOver_60 : decode cX11_handsOver 60 = .ok (.iload 5, 2) := by decide +kernel
theorem dX11_handsOver_62 : decode cX11_handsOver 62 = .ok (.iaload, 1) := by decide +kernel
theorem dX11_handsOver_63 : decode cX11_handsOver 63 = .ok (.aload_n 0, 1) := by decide +kernel
theorem dX11_handsOver_64 : decode cX11_handsOver 64 = .ok (.getfield 118, 3) := by decide +kernel
theorem dX11_handsOver_67 : decode cX11_handsOver 67 = .ok (.iload 4, 2) := by decide +kernel
theorem dX11_handsOver_69 : decode cX11_handsOver 69 = .ok (.iaload, 1) := by decide +kernel
theorem dX11_handsOver_70 : decode cX11_handsOver 70 = .ok (.if_icmp .ne 35, 3) := by decide +kernel
theorem dX11_handsOver_73 : decode cX11_handsOver 73 = .ok (.aload_n 0, 1) := by decide +kernel
theorem dX11_handsOver_74 : decode cX11_handsOver 74 = .ok (.getfield 34, 3) := by decide +kernel
theorem dX11_handsOver_77 : decode cX11_handsOver 77 = .ok (.iload 5, 2) := by decide +kernel
theorem dX11_handsOver_79 : decode cX11_handsOver 79 = .ok (.iaload, 1) := by decide +kernel
theorem dX11_handsOver_80 : decode cX11_handsOver 80 = .ok (.iload_n 1, 1) := by decide +kernel
theorem dX11_handsOver_81 : decode cX11_handsOver 81 = .ok (.ishr, 1) := by decide +kernel
theorem dX11_handsOver_82 : decode cX11_handsOver 82 = .ok (.iconst 1, 1) := by decide +kernel
theorem dX11_handsOver_83 : decode cX11_handsOver 83 = .ok (.iand, 1) := by decide +kernel
theorem dX11_handsOver_84 : decode cX11_handsOver 84 = .ok (.ifCond .ne 21, 3) := by decide +kernel
theorem dX11_handsOver_87 : decode cX11_handsOver 87 = .ok (.aload_n 0, 1) := by decide +kernel
theorem dX11_handsOver_88 : decode cX11_handsOver 88 = .ok (.getfield 34, 3) := by decide +kernel
theorem dX11_handsOver_91 : decode cX11_handsOver 91 = .ok (.iload 4, 2) := by decide +kernel
theorem dX11_handsOver_93 : decode cX11_handsOver 93 = .ok (.iaload, 1) := by decide +kernel
theorem dX11_handsOver_94 : decode cX11_handsOver 94 = .ok (.iload_n 1, 1) := by decide +kernel
theorem dX11_handsOver_95 : decode cX11_handsOver 95 = .ok (.ishr, 1) := by decide +kernel
theorem dX11_handsOver_96 : decode cX11_handsOver 96 = .ok (.iconst 1, 1) := by decide +kernel
theorem dX11_handsOver_97 : decode cX11_handsOver 97 = .ok (.iand, 1) := by decide +kernel
theorem dX11_handsOver_98 : decode cX11_handsOver 98 = .ok (.ifCond .ne 7, 3) := by decide +kernel
theorem dX11_handsOver_101 : decode cX11_handsOver 101 = .ok (.iconst 1, 1) := by decide +kernel
theorem dX11_handsOver_102 : decode cX11_handsOver 102 = .ok (.goto 4, 3) := by decide +kernel
theorem dX11_handsOver_105 : decode cX11_handsOver 105 = .ok (.iconst 0, 1) := by decide +kernel
theorem dX11_handsOver_106 : decode cX11_handsOver 106 = .ok (.istore 6, 2) := by decide +kernel
theorem dX11_handsOver_108 : decode cX11_handsOver 108 = .ok (.iload 6, 2) := by decide +kernel
