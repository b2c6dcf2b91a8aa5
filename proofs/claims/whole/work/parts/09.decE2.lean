theorem dX11_handsOver_110 : decode cX11_handsOver 110 = .ok (.ifCond .eq 11, 3) := by decide +kernel
theorem dX11_handsOver_113 : decode cX11_handsOver 113 = .ok (.aload_n 0, 1) := by decide +kernel
theorem dX11_handsOver_114 : decode cX11_handsOver 114 = .ok (.getfield 133, 3) := by decide +kernel
theorem dX11_handsOver_117 : decode cX11_handsOver 117 = .ok (.iload_n 3, 1) := by decide +kernel
theorem dX11_handsOver_118 : decode cX11_handsOver 118 = .ok (.iload 4, 2) := by decide +kernel
theorem dX11_handsOver_120 : decode cX11_handsOver 120 = .ok (.iastore, 1) := by decide +kernel
theorem dX11_handsOver_121 : decode cX11_handsOver 121 = .ok (.iinc 2 1, 3) := by decide +kernel
theorem dX11_handsOver_124 : decode cX11_handsOver 124 = .ok (.goto (-122), 3) := by decide +kernel
theorem dX11_handsOver_127 : decode cX11_handsOver 127 = .ok (.return_, 1) := by decide +kernel
theorem dX11_causeOf_0 : decode cX11_causeOf 0 = .ok (.aload_n 0, 1) := by decide +kernel
theorem dX11_causeOf_1 : decode cX11_causeOf 1 = .ok (.getfield 34, 3) := by decide +kernel
theorem dX11_causeOf_4 : decode cX11_causeOf 4 = .ok (.iload_n 2, 1) := by decide +kernel
theorem dX11_causeOf_5 : decode cX11_causeOf 5 = .ok (.iaload, 1) := by decide +kernel
theorem dX11_causeOf_6 : decode cX11_causeOf 6 = .ok (.iload_n 1, 1) := by decide +kernel
theorem dX11_causeOf_7 : decode cX11_causeOf 7 = .ok (.ishr, 1) := by decide +kernel
theorem dX11_causeOf_8 : decode cX11_causeOf 8 = .ok (.iconst 1, 1) := by decide +kernel
theorem dX11_causeOf_9 : decode cX11_causeOf 9 = .ok (.iand, 1) := by decide +kernel
theorem dX11_causeOf_10 : decode cX11_causeOf 10 = .ok (.iconst 1, 1) := by decide +kernel
theorem dX11_causeOf_11 : decode cX11_causeOf 11 = .ok (.if_icmp .ne 5, 3) := by decide +kernel
theorem dX11_causeOf_14 : decode cX11_causeOf 14 = .ok (.iconst 1, 1) := by decide +kernel
theorem dX11_causeOf_15 : decode cX11_causeOf 15 = .ok (.ireturn, 1) := by decide +kernel
theorem dX11_causeOf_16 : decode cX11_causeOf 16 = .ok (.aload_n 0, 1) := by decide +kernel
theorem dX11_causeOf_17 : decode cX11_causeOf 17 = .ok (.getfield 127, 3) := by decide +kernel
theorem dX11_causeOf_20 : decode cX11_causeOf 20 = .ok (.iload_n 2, 1) := by decide +kernel
theorem dX11_causeOf_21 : decode cX11_causeOf 21 = .ok (.iaload, 1) := by decide +kernel
theorem dX11_causeOf_22 : decode cX11_causeOf 22 = .ok (.iconst 2, 1) := by decide +kernel
theorem dX11_causeOf_23 : decode cX11_causeOf 23 = .ok (.if_icmp .ne 5, 3) := by decide +kernel
theorem dX11_causeOf_26 : decode cX11_causeOf 26 = .ok (.iconst 2, 1) := by decide +kernel
theorem dX11_causeOf_27 : decode cX11_causeOf 27 = .ok (.ireturn, 1) := by decide +kernel
theorem dX11_causeOf_28 : decode cX11_causeOf 28 = .ok (.aload_n 0, 1) := by decide +kernel
theorem dX11_causeOf_29 : decode cX11_causeOf 29 = .ok (.getfield 133, 3) := by decide +kernel
theorem dX11_causeOf_32 : decode cX11_causeOf 32 = .ok (.iload 4, 2) := by decide +kernel
theorem dX11_causeOf_34 : decode cX11_causeOf 34 = .ok (.iaload, 1) := by decide +kernel
theorem dX11_causeOf_35 : decode cX11_causeOf 35 = .ok (.iload_n 2, 1) := by decide +kernel
theorem dX11_causeOf_36 : decode cX11_causeOf 36 = .ok (.if_icmp .eq 5, 3) := by decide +kernel
theorem dX11_causeOf_39 : decode cX11_causeOf 39 = .ok (.iconst 3, 1) := by decide +kernel
theorem dX11_causeOf_40 : decode cX11_causeOf 40 = .ok (.ireturn, 1) := by decide +kernel
theorem dX11_causeOf_41 : decode cX11_causeOf 41 = .ok (.iload 5, 2) := by decide +kernel
theorem dX11_causeOf_43 : decode cX11_causeOf 43 = .ok (.ldc 198, 2) := by decide +kernel
theorem dX11_causeOf_45 : decode cX11_causeOf 45 = .ok (.if_icmp .ne 5, 3) := by decide +kernel
theorem dX11_causeOf_48 : decode cX11_causeOf 48 = .ok (.iconst 4, 1) := by decide +kernel
theorem dX11_causeOf_49 : decode cX11_causeOf 49 = .ok (.ireturn, 1) := by decide +kernel
theorem dX11_causeOf_50 : decode cX11_causeOf 50 = .ok (.aload_n 0, 1) := by decide +kernel
theorem dX11_causeOf_51 : decode cX11_causeOf 51 = .ok (.getfield 124, 3) := by decide +kernel
theorem dX11_causeOf_54 : decode cX11_causeOf 54 = .ok (.iload_n 2, 1) := by decide +kernel
theorem dX11_causeOf_55 : decode cX11_causeOf 55 = .ok (.iaload, 1) := by decide +kernel
theorem dX11_causeOf_56 : decode cX11_causeOf 56 = .ok (.iload 5, 2) := by decide +kernel
theorem dX11_causeOf_58 : decode cX11_causeOf 58 = .ok (.iadd, 1) := by decide +kernel
theorem dX11_causeOf_59 : decode cX11_causeOf 59 = .ok (.aload_n 0, 1) := by decide +kernel
theorem dX11_causeOf_60 : decode cX11_causeOf 60 = .ok (.getfield 37, 3) := by decide +kernel
theorem dX11_causeOf_63 : decode cX11_causeOf 63 = .ok (.bipush 7, 2) := by decide +kernel
theorem dX11_causeOf_65 : decode cX11_causeOf 65 = .ok (.iload 4, 2) := by decide +kernel
theorem dX11_causeOf_67 : decode cX11_causeOf 67 = .ok (.imul, 1) := by decide +kernel
theorem dX11_causeOf_68 : decode cX11_causeOf 68 = .ok (.iconst 2, 1) := by decide +kernel
theorem dX11_causeOf_69 : decode cX11_causeOf 69 = .ok (.iadd, 1) := by decide +kernel
theorem dX11_causeOf_70 : decode cX11_causeOf 70 = .ok (.iaload, 1) := by decide +kernel
theorem dX11_causeOf_71 : decode cX11_causeOf 71 = .ok (.iadd, 1) := by decide +kernel
theorem dX11_causeOf_72 : decode cX11_causeOf 72 = .ok (.aload_n 0, 1) := by decide +kernel
theorem dX11_causeOf_73 : decode cX11_causeOf 73 = .ok (.getfield 72, 3) := by decide +kernel
theorem dX11_causeOf_76 : decode cX11_causeOf 76 = .ok (.iconst 0, 1) := by decide +kernel
theorem dX11_causeOf_77 : decode cX11_causeOf 77 = .ok (.iaload, 1) := by decide +kernel
theorem dX11_causeOf_78 : decode cX11_causeOf 78 = .ok (.if_icmp .le 5, 3) := by decide +kernel
theorem dX11_causeOf_81 : decode cX11_causeOf 81 = .ok (.iconst 5, 1) := by decide +kernel
theorem dX11_causeOf_82 : decode cX11_causeOf 82 = .ok (.ireturn, 1) := by decide +kernel
theorem dX11_causeOf_83 : decode cX11_causeOf 83 = .ok (.aload_n 0, 1) := by decide +kernel
theorem dX11_causeOf_84 : decode cX11_causeOf 84 = .ok (.getfield 130, 3) := by decide +kernel
theorem dX11_causeOf_87 : decode cX11_causeOf 87 = .ok (.iload_n 3, 1) := by decide +kernel
theorem dX11_causeOf_88 : decode cX11_causeOf 88 = .ok (.baload, 1) := by decide +kernel
theorem dX11_causeOf_89 : decode cX11_causeOf 89 = .ok (.ifCond .eq 6, 3) := by decide +kernel
theorem dX11_causeOf_92 : decode cX11_causeOf 92 = .ok (.bipush 6, 2) := by decide +kernel
theorem dX11_causeOf_94 : decode cX11_causeOf 94 = .ok (.ireturn, 1) := by decide +kernel
theorem dX11_causeOf_95 : decode cX11_causeOf 95 = .ok (.aload_n 0, 1) := by decide +kernel
theorem dX11_causeOf_96 : decode cX11_causeOf 96 = .ok (.getfield 78, 3) := by decide +kernel
theorem dX11_causeOf_99 : decode cX11_causeOf 99 = .ok (.iconst 2, 1) := by decide +kernel
theorem dX11_causeOf_100 : decode cX11_causeOf 100 = .ok (.baload, 1) := by decide +kernel
theorem dX11_causeOf_101 : decode cX11_causeOf 101 = .ok (.ifCond .eq 18, 3) := by decide +kernel
theorem dX11_causeOf_104 : decode cX11_causeOf 104 = .ok (.aload_n 0, 1) := by decide +kernel
theorem dX11_causeOf_105 : decode cX11_causeOf 105 = .ok (.iconst 0, 1) := by decide +kernel
theorem dX11_causeOf_106 : decode cX11_causeOf 106 = .ok (.invokevirtual 371, 3) := by decide +kernel
theorem dX11_causeOf_109 : decode cX11_causeOf 109 = .ok (.lconst 0, 1) := by decide +kernel
theorem dX11_causeOf_110 : decode cX11_causeOf 110 = .ok (.lcmp, 1) := by decide +kernel
theorem dX11_causeOf_111 : decode cX11_causeOf 111 = .ok (.ifCond .ne 8, 3) := by decide +kernel
theorem dX11_causeOf_114 : decode cX11_causeOf 114 = .ok (.bipush 7, 2) := by decide +kernel
theorem dX11_causeOf_116 : decode cX11_causeOf 116 = .ok (.goto 4, 3) := by decide +kernel
theorem dX11_causeOf_119 : decode cX11_causeOf 119 = .ok (.iconst 0, 1) := by decide +kernel
theorem dX11_causeOf_120 : decode cX11_causeOf 120 = .ok (.ireturn, 1) := by decide +kernel
theorem dX11_shows_0 : decode cX11_shows 0 = .ok (.aload_n 0, 1) := by decide +kernel
theorem dX11_shows_1 : decode cX11_shows 1 = .ok (.getfield 43, 3) := by decide +kernel
theorem dX11_shows_4 : decode cX11_shows 4 = .ok (.iconst 4, 1) := by decide +kernel
theorem dX11_shows_5 : decode cX11_shows 5 = .ok (.iload_n 1, 1) := by decide +kernel
theorem dX11_shows_6 : decode cX11_shows 6 = .ok (.imul, 1) := by decide +kernel
theorem dX11_shows_7 : decode cX11_shows 7 = .ok (.iaload, 1) := by decide +kernel
theorem dX11_shows_8 : decode cX11_shows 8 = .ok (.istore_n 2, 1) := by decide +kernel
theorem dX11_shows_9 : decode cX11_shows 9 = .ok (.aload_n 0, 1) := by decide +kernel
theorem dX11_shows_10 : decode cX11_shows 10 = .ok (.getfield 43, 3) := by decide +kernel
theorem dX11_shows_13 : decode cX11_shows 13 = .ok (.iconst 4, 1) := by decide +kernel
theorem dX11_shows_14 : decode cX11_shows 14 = .ok (.iload_n 1, 1) := by decide +kernel
theorem dX11_shows_15 : decode cX11_shows 15 = .ok (.imul, 1) := by decide +kernel
theorem dX11_shows_16 : decode cX11_shows 16 = .ok (.iconst 1, 1) := by decide +kernel
theorem dX11_shows_17 : decode cX11_shows 17 = .ok (.iadd, 1) := by decide +kernel
theorem dX11_shows_18 : decode cX11_shows 18 = .ok (.iaload, 1) := by decide +kernel
theorem dX11_shows_19 : decode cX11_shows 19 = .ok (.istore_n 3, 1) := by decide +kernel
theorem dX11_shows_20 : decode cX11_shows 20 = .ok (.aload_n 0, 1) := by decide +kernel
theorem dX11_shows_21 : decode cX11_shows 21 = .ok (.getfield 43, 3) := by decide +kernel
theorem dX11_shows_24 : decode cX11_shows 24 = .ok (.iconst 4, 1) := by decide +kernel
theorem dX11_shows_25 : decode cX11_shows 25 = .ok (.iload_n 1, 1) := by decide +kernel
theorem dX11_shows_26 : decode cX11_shows 26 = .ok (.imul, 1) := by decide +kernel
theorem dX11_shows_27 : decode cX11_shows 27 = .ok (.iconst 2, 1) := by decide +kernel
theorem dX11_shows_28 : decode cX11_shows 28 = .ok (.iadd, 1) := by decide +kernel
theorem dX11_shows_29 : decode cX11_shows 29 = .ok (.iaload, 1) := by decide +kernel
theorem dX11_shows_30 : decode cX11_shows 30 = .ok (.istore 4, 2) := by decide +kernel
theorem dX11_shows_32 : decode cX11_shows 32 = .ok (.aload_n 0, 1) := by decide +kernel
theorem dX11_shows_33 : decode cX11_shows 33 = .ok (.getfield 43, 3) := by decide +kernel
theorem dX11_shows_36 : decode cX11_shows 36 = .ok (.iconst 4, 1) := by decide +kernel
theorem dX11_shows_37 : decode cX11_shows 37 = .ok (.iload_n 1, 1) := by decide +kernel
theorem dX11_shows_38 : decode cX11_shows 38 = .ok (.imul, 1) := by decide +kernel
theorem dX11_shows_39 : decode cX11_shows 39 = .ok (.iconst 3, 1) := by decide +kernel
theorem dX11_shows_40 : decode cX11_shows 40 = .ok (.iadd, 1) := by decide +kernel
theorem dX11_shows_41 : decode cX11_shows 41 = .ok (.iaload, 1) := by decide +kernel
theorem dX11_shows_42 : decode cX11_shows 42 = .ok (.istore 5, 2) := by decide +kernel
theorem dX11_shows_44 : decode cX11_shows 44 = .ok (.iconst 0, 1) := by decide +kernel
theorem dX11_shows_45 : decode cX11_shows 45 = .ok (.istore 6, 2) := by decide +kernel
theorem dX11_shows_47 : decode cX11_shows 47 = .ok (.iload 6, 2) := by decide +kernel
theorem dX11_shows_49 : decode cX11_shows 49 = .ok (.bipush 7, 2) := by decide +kernel
theorem dX11_shows_51 : decode cX11_shows 51 = .ok (.if_icmp .ge 22, 3) := by decide +kernel
theorem dX11_shows_54 : decode cX11_shows 54 = .ok (.aload_n 0, 1) := by decide +kernel
theorem dX11_shows_55 : decode cX11_shows 55 = .ok (.getfield 142, 3) := by decide +kernel
theorem dX11_shows_58 : decode cX11_shows 58 = .ok (.bipush 7, 2) := by decide +kernel
theorem dX11_shows_60 : decode cX11_shows 60 = .ok (.iload_n 1, 1) := by decide +kernel
theorem dX11_shows_61 : decode cX11_shows 61 = .ok (.imul, 1) := by decide +kernel
theorem dX11_shows_62 : decode cX11_shows 62 = .ok (.iload 6, 2) := by decide +kernel
theorem dX11_shows_64 : decode cX11_shows 64 = .ok (.iadd, 1) := by decide +kernel
theorem dX11_shows_65 : decode cX11_shows 65 = .ok (.iconst 0, 1) := by decide +kernel
theorem dX11_shows_66 : decode cX11_shows 66 = .ok (.iastore, 1) := by decide +kernel
theorem dX11_shows_67 : decode cX11_shows 67 = .ok (.iinc 6 1, 3) := by decide +kernel
theorem dX11_shows_70 : decode cX11_shows 70 = .ok (.goto (-23), 3) := by decide +kernel
theorem dX11_shows_73 : decode cX11_shows 73 = .ok (.aload_n 0, 1) := by decide +kernel
theorem dX11_shows_74 : decode cX11_shows 74 = .ok (.iload 4, 2) := by decide +kernel
theorem dX11_shows_76 : decode cX11_shows 76 = .ok (.putfield 349, 3) := by decide +kernel
theorem dX11_shows_79 : decode cX11_shows 79 = .ok (.aload_n 0, 1) := by decide +kernel
theorem dX11_shows_80 : decode cX11_shows 80 = .ok (.iload 5, 2) := by decide +kernel
theorem dX11_shows_82 : decode cX11_shows 82 = .ok (.putfield 352, 3) := by decide +kernel
theorem dX11_shows_85 : decode cX11_shows 85 = .ok (.aload_n 0, 1) := by decide +kernel
theorem dX11_shows_86 : decode cX11_shows 86 = .ok (.iload_n 2, 1) := by decide +kernel
theorem dX11_shows_87 : decode cX11_shows 87 = .ok (.putfield 355, 3) := by decide +kernel
theorem dX11_shows_90 : decode cX11_shows 90 = .ok (.aload_n 0, 1) := by decide +kernel
theorem dX11_shows_91 : decode cX11_shows 91 = .ok (.aload_n 0, 1) := by decide +kernel
theorem dX11_shows_92 : decode cX11_shows 92 = .ok (.getfield 136, 3) := by decide +kernel
theorem dX11_shows_95 : decode cX11_shows 95 = .ok (.iload 5, 2) := by decide +kernel
theorem dX11_shows_97 : decode cX11_shows 97 = .ok (.iaload, 1) := by decide +kernel
theorem dX11_shows_98 : decode cX11_shows 98 = .ok (.putfield 358, 3) := by decide +kernel
theorem dX11_shows_101 : decode cX11_shows 101 = .ok (.aload_n 0, 1) := by decide +kernel
theorem dX11_shows_102 : decode cX11_shows 102 = .ok (.iconst 0, 1) := by decide +kernel
theorem dX11_shows_103 : decode cX11_shows 103 = .ok (.putfield 361, 3) := by decide +kernel
theorem dX11_shows_106 : decode cX11_shows 106 = .ok (.aload_n 0, 1) := by decide +kernel
theorem dX11_shows_107 : decode cX11_shows 107 = .ok (.getfield 62, 3) := by decide +kernel
theorem dX11_shows_110 : decode cX11_shows 110 = .ok (.bipush 64, 2) := by decide +kernel
theorem dX11_shows_112 : decode cX11_shows 112 = .ok (.aload_n 0, 1) := by decide +kernel
theorem dX11_shows_113 : decode cX11_shows 113 = .ok (.iload_n 2, 1) := by decide +kernel
theorem dX11_shows_114 : decode cX11_shows 114 = .ok (.invokevirtual 378, 3) := by decide +kernel
theorem dX11_shows_117 : decode cX11_shows 117 = .ok (.imul, 1) := by decide +kernel
theorem dX11_shows_118 : decode cX11_shows 118 = .ok (.bipush 8, 2) := by decide +kernel
theorem dX11_shows_120 : decode cX11_shows 120 = .ok (.aload_n 0, 1) := by decide +kernel
theorem dX11_shows_121 : decode cX11_shows 121 = .ok (.getfield 118, 3) := by decide +kernel
theorem dX11_shows_124 : decode cX11_shows 124 = .ok (.iload_n 3, 1) := by decide +kernel
theorem dX11_shows_125 : decode cX11_shows 125 = .ok (.iaload, 1) := by decide +kernel
theorem dX11_shows_126 : decode cX11_shows 126 = .ok (.imul, 1) := by decide +kernel
theorem dX11_shows_127 : decode cX11_shows 127 = .ok (.iadd, 1) := by decide +kernel
theorem dX11_shows_128 : decode cX11_shows 128 = .ok (.iload 4, 2) := by decide +kernel
theorem dX11_shows_130 : decode cX11_shows 130 = .ok (.iadd, 1) := by decide +kernel
theorem dX11_shows_131 : decode cX11_shows 131 = .ok (.iaload, 1) := by decide +kernel
theorem dX11_shows_132 : decode cX11_shows 132 = .ok (.istore 6, 2) := by decide +kernel
theorem dX11_shows_134 : decode cX11_shows 134 = .ok (.aload_n 0, 1) := by decide +kernel
theorem dX11_shows_135 : decode cX11_shows 135 = .ok (.iload_n 2, 1) := by decide +kernel
theorem dX11_shows_136 : decode cX11_shows 136 = .ok (.iload_n 3, 1) := by decide +kernel
theorem dX11_shows_137 : decode cX11_shows 137 = .ok (.iload 4, 2) := by decide +kernel
theorem dX11_shows_139 : decode cX11_shows 139 = .ok (.iload 5, 2) := by decide +kernel
theorem dX11_shows_141 : decode cX11_shows 141 = .ok (.iload 6, 2) := by decide +kernel
theorem dX11_shows_143 : decode cX11_shows 143 = .ok (.invokevirtual 381, 3) := by decide +kernel
theorem dX11_shows_146 : decode cX11_shows 146 = .ok (.istore 7, 2) := by decide +kernel
theorem dX11_shows_148 : decode cX11_shows 148 = .ok (.aload_n 0, 1) := by decide +kernel
theorem dX11_shows_149 : decode cX11_shows 149 = .ok (.getfield 142, 3) := by decide +kernel
theorem dX11_shows_152 : decode cX11_shows 152 = .ok (.bipush 7, 2) := by decide +kernel
theorem dX11_shows_154 : decode cX11_shows 154 = .ok (.iload_n 1, 1) := by decide +kernel
theorem dX11_shows_155 : decode cX11_shows 155 = .ok (.imul, 1) := by decide +kernel
theorem dX11_shows_156 : decode cX11_shows 156 = .ok (.iload 7, 2) := by decide +kernel
theorem dX11_shows_158 : decode cX11_shows 158 = .ok (.iastore, 1) := by decide +kernel
theorem dX11_shows_159 : decode cX11_shows 159 = .ok (.iload 7, 2) := by decide +kernel
theorem dX11_shows_161 : decode cX11_shows 161 = .ok (.ifCond .le 4, 3) := by decide +kernel
theorem dX11_shows_164 : decode cX11_shows 164 = .ok (.return_, 1) := by decide +kernel
theorem dX11_shows_165 : decode cX11_shows 165 = .ok (.aload_n 0, 1) := by decide +kernel
theorem dX11_shows_166 : decode cX11_shows 166 = .ok (.getfield 118, 3) := by decide +kernel
theorem dX11_shows_169 : decode cX11_shows 169 = .ok (.iload_n 3, 1) := by decide +kernel
theorem dX11_shows_170 : decode cX11_shows 170 = .ok (.iload 4, 2) := by decide +kernel
theorem dX11_shows_172 : decode cX11_shows 172 = .ok (.iastore, 1) := by decide +kernel
theorem dX11_shows_173 : decode cX11_shows 173 = .ok (.aload_n 0, 1) := by decide +kernel
theorem dX11_shows_174 : decode cX11_shows 174 = .ok (.getfield 121, 3) := by decide +kernel
theorem dX11_shows_177 : decode cX11_shows 177 = .ok (.iload_n 3, 1) := by decide +kernel
theorem dX11_shows_178 : decode cX11_shows 178 = .ok (.dup2, 1) := by decide +kernel
theorem dX11_shows_179 : decode cX11_shows 179 = .ok (.iaload, 1) := by decide +kernel
theorem dX11_shows_180 : decode cX11_shows 180 = .ok (.iload 6, 2) := by decide +kernel
theorem dX11_shows_182 : decode cX11_shows 182 = .ok (.iadd, 1) := by decide +kernel
theorem dX11_shows_183 : decode cX11_shows 183 = .ok (.iastore, 1) := by decide +kernel
theorem dX11_shows_184 : decode cX11_shows 184 = .ok (.aload_n 0, 1) := by decide +kernel
theorem dX11_shows_185 : decode cX11_shows 185 = .ok (.getfield 124, 3) := by decide +kernel
theorem dX11_shows_188 : decode cX11_shows 188 = .ok (.iload_n 3, 1) := by decide +kernel
theorem dX11_shows_189 : decode cX11_shows 189 = .ok (.dup2, 1) := by decide +kernel
theorem dX11_shows_190 : decode cX11_shows 190 = .ok (.iaload, 1) := by decide +kernel
theorem dX11_shows_191 : decode cX11_shows 191 = .ok (.iload 6, 2) := by decide +kernel
theorem dX11_shows_193 : decode cX11_shows 193 = .ok (.aload_n 0, 1) := by decide +kernel
theorem dX11_shows_194 : decode cX11_shows 194 = .ok (.getfield 37, 3) := by decide +kernel
theorem dX11_shows_197 : decode cX11_shows 197 = .ok (.bipush 7, 2) := by decide +kernel
theorem dX11_shows_199 : decode cX11_shows 199 = .ok (.iload 5, 2) := by decide +kernel
theorem dX11_shows_201 : decode cX11_shows 201 = .ok (.imul, 1) := by decide +kernel
theorem dX11_shows_202 : decode cX11_shows 202 = .ok (.iconst 2, 1) := by decide +kernel
theorem dX11_shows_203 : decode cX11_shows 203 = .ok (.iadd, 1) := by decide +kernel
theorem dX11_shows_204 : decode cX11_shows 204 = .ok (.iaload, 1) := by decide +kernel
theorem dX11_shows_205 : decode cX11_shows 205 = .ok (.iadd, 1) := by decide +kernel
theorem dX11_shows_206 : decode cX11_shows 206 = .ok (.iadd, 1) := by decide +kernel
theorem dX11_shows_207 : decode cX11_shows 207 = .ok (.iastore, 1) := by decide +kernel
theorem dX11_shows_208 : decode cX11_shows 208 = .ok (.aload_n 0, 1) := by decide +kernel
theorem dX11_shows_209 : decode cX11_shows 209 = .ok (.getfield 127, 3) := by decide +kernel
theorem dX11_shows_212 : decode cX11_shows 212 = .ok (.iload_n 3, 1) := by decide +kernel
theorem dX11_shows_213 : decode cX11_shows 213 = .ok (.dup2, 1) := by decide +kernel
theorem dX11_shows_214 : decode cX11_shows 214 = .ok (.iaload, 1) := by decide +kernel
theorem dX11_shows_215 : decode cX11_shows 215 = .ok (.iconst 1, 1) := by decide +kernel
theorem dX11_shows_216 : decode cX11_shows 216 = .ok (.iadd, 1) := by decide +kernel
theorem dX11_shows_217 : decode cX11_shows 217 = .ok (.iastore, 1) := by decide +kernel
theorem dX11_shows_218 : decode cX11_shows 218 = .ok (.aload_n 0, 1) := by decide +kernel
theorem dX11_shows_219 : decode cX11_shows 219 = .ok (.getfield 130, 3) := by decide +kernel
theorem dX11_shows_222 : decode cX11_shows 222 = .ok (.iload 4, 2) := by decide +kernel
theorem dX11_shows_224 : decode cX11_shows 224 = .ok (.iconst 1, 1) := by decide +kernel
theorem dX11_shows_225 : decode cX11_shows 225 = .ok (.bastore, 1) := by decide +kernel
theorem dX11_shows_226 : decode cX11_shows 226 = .ok (.aload_n 0, 1) := by decide +kernel
theorem dX11_shows_227 : decode cX11_shows 227 = .ok (.getfield 13, 3) := by decide +kernel
theorem dX11_shows_230 : decode cX11_shows 230 = .ok (.bipush 8, 2) := by decide +kernel
theorem dX11_shows_232 : decode cX11_shows 232 = .ok (.iload 4, 2) := by decide +kernel
theorem dX11_shows_234 : decode cX11_shows 234 = .ok (.imul, 1) := by decide +kernel
theorem dX11_shows_235 : decode cX11_shows 235 = .ok (.iaload, 1) := by decide +kernel
theorem dX11_shows_236 : decode cX11_shows 236 = .ok (.aload_n 0, 1) := by decide +kernel
theorem dX11_shows_237 : decode cX11_shows 237 = .ok (.getfield 13, 3) := by decide +kernel
theorem dX11_shows_240 : decode cX11_shows 240 = .ok (.bipush 8, 2) := by decide +kernel
theorem dX11_shows_242 : decode cX11_shows 242 = .ok (.iload 4, 2) := by decide +kernel
theorem dX11_shows_244 : decode cX11_shows 244 = .ok (.imul, 1) := by decide +kernel
theorem dX11_shows_245 : decode cX11_shows 245 = .ok (.iconst 4, 1) := by decide +kernel
theorem dX11_shows_246 : decode cX11_shows 246 = .ok (.iadd, 1) := by decide +kernel
theorem dX11_shows_247 : decode cX11_shows 247 = .ok (.aload_n 0, 1) := by decide +kernel
theorem dX11_shows_248 : decode cX11_shows 248 = .ok (.getfield 37, 3) := by decide +kernel
theorem dX11_shows_251 : decode cX11_shows 251 = .ok (.bipush 7, 2) := by decide +kernel
theorem dX11_shows_253 : decode cX11_shows 253 = .ok (.iload 5, 2) := by decide +kernel
theorem dX11_shows_255 : decode cX11_shows 255 = .ok (.imul, 1) := by decide +kernel
theorem dX11_shows_256 : decode cX11_shows 256 = .ok (.iaload, 1) := by decide +kernel
theorem dX11_shows_257 : decode cX11_shows 257 = .ok (.iadd, 1) := by decide +kernel
theorem dX11_shows_258 : decode cX11_shows 258 = .ok (.iaload, 1) := by decide +kernel
theorem dX11_shows_259 : decode cX11_shows 259 = .ok (.imul, 1) := by decide +kernel
theorem dX11_shows_260 : decode cX11_shows 260 = .ok (.bipush 100, 2) := by decide +kernel
theorem dX11_shows_262 : decode cX11_shows 262 = .ok (.idiv, 1) := by decide +kernel
theorem dX11_shows_263 : decode cX11_shows 263 = .ok (.aload_n 0, 1) := by decide +kernel
theorem dX11_shows_264 : decode cX11_shows 264 = .ok (.getfield 139, 3) := by decide +kernel
theorem dX11_shows_267 : decode cX11_shows 267 = .ok (.bipush 8, 2) := by decide +kernel
theorem dX11_shows_269 : decode cX11_shows 269 = .ok (.iload 5, 2) := by decide +kernel
theorem dX11_shows_271 : decode cX11_shows 271 = .ok (.imul, 1) := by decide +kernel
theorem dX11_shows_272 : decode cX11_shows 272 = .ok (.iload 4, 2) := by decide +kernel
theorem dX11_shows_274 : decode cX11_shows 274 = .ok (.iadd, 1) := by decide +kernel
theorem dX11_shows_275 : decode cX11_shows 275 = .ok (.iaload, 1) := by decide +kernel
theorem dX11_shows_276 : decode cX11_shows 276 = .ok (.isub, 1) := by decide +kernel
theorem dX11_shows_277 : decode cX11_shows 277 = .ok (.istore 8, 2) := by decide +kernel
theorem dX11_shows_279 : decode cX11_shows 279 = .ok (.iload 8, 2) := by decide +kernel
theorem dX11_shows_281 : decode cX11_shows 281 = .ok (.ifCond .ge 7, 3) := by decide +kernel
theorem dX11_shows_284 : decode cX11_shows 284 = .ok (.iconst 0, 1) := by decide +kernel
theorem dX11_shows_285 : decode cX11_shows 285 = .ok (.goto 37, 3) := by decide +kernel
theorem dX11_shows_288 : decode cX11_shows 288 = .ok (.iload 8, 2) := by decide +kernel
theorem dX11_shows_290 : decode cX11_shows 290 = .ok (.aload_n 0, 1) := by decide +kernel
theorem dX11_shows_291 : decode cX11_shows 291 = .ok (.getfield 13, 3) := by decide +kernel
theorem dX11_shows_294 : decode cX11_shows 294 = .ok (.bipush 8, 2) := by decide +kernel
theorem dX11_shows_296 : decode cX11_shows 296 = .ok (.iload 4, 2) := by decide +kernel
theorem dX11_shows_298 : decode cX11_shows 298 = .ok (.imul, 1) := by decide +kernel
theorem dX11_shows_299 : decode cX11_shows 299 = .ok (.iconst 1, 1) := by decide +kernel
theorem dX11_shows_300 : decode cX11_shows 300 = .ok (.iadd, 1) := by decide +kernel
theorem dX11_shows_301 : decode cX11_shows 301 = .ok (.iaload, 1) := by decide +kernel
theorem dX11_shows_302 : decode cX11_shows 302 = .ok (.if_icmp .le 18, 3) := by decide +kernel
theorem dX11_shows_305 : decode cX11_shows 305 = .ok (.aload_n 0, 1) := by decide +kernel
theorem dX11_shows_306 : decode cX11_shows 306 = .ok (.getfield 13, 3) := by decide +kernel
theorem dX11_shows_309 : decode cX11_shows 309 = .ok (.bipush 8, 2) := by decide +kernel
theorem dX11_shows_311 : decode cX11_shows 311 = .ok (.iload 4, 2) := by decide +kernel
theorem dX11_shows_313 : decode cX11_shows 313 = .ok (.imul, 1) := by decide +kernel
theorem dX11_shows_314 : decode cX11_shows 314 = .ok (.iconst 1, 1) := by decide +kernel
theorem dX11_shows_315 : decode cX11_shows 315 = .ok (.iadd, 1) := by decide +kernel
theorem dX11_shows_316 : decode cX11_shows 316 = .ok (.iaload, 1) := by decide +kernel
theorem dX11_shows_317 : decode cX11_shows 317 = .ok (.goto 5, 3) := by decide +kernel
theorem dX11_shows_320 : decode cX11_shows 320 = .ok (.iload 8, 2) := by decide +kernel
theorem dX11_shows_322 : decode cX11_shows 322 = .ok (.istore 8, 2) := by decide +kernel
theorem dX11_shows_324 : decode cX11_shows 324 = .ok (.aload_n 0, 1) := by decide +kernel
theorem dX11_shows_325 : decode cX11_shows 325 = .ok (.getfield 139, 3) := by decide +kernel
theorem dX11_shows_328 : decode cX11_shows 328 = .ok (.bipush 8, 2) := by decide +kernel
theorem dX11_shows_330 : decode cX11_shows 330 = .ok (.iload 5, 2) := by decide +kernel
theorem dX11_shows_332 : decode cX11_shows 332 = .ok (.imul, 1) := by decide +kernel
theorem dX11_shows_333 : decode cX11_shows 333 = .ok (.iload 4, 2) := by decide +kernel
theorem dX11_shows_335 : decode cX11_shows 335 = .ok (.iadd, 1) := by decide +kernel
theorem dX11_shows_336 : decode cX11_shows 336 = .ok (.dup2, 1) := by decide +kernel
theorem dX11_shows_337 : decode cX11_shows 337 = .ok (.iaload, 1) := by decide +kernel
theorem dX11_shows_338 : decode cX11_shows 338 = .ok (.iload 8, 2) := by decide +kernel
theorem dX11_shows_340 : decode cX11_shows 340 = .ok (.iadd, 1) := by decide +kernel
theorem dX11_shows_341 : decode cX11_shows 341 = .ok (.iastore, 1) := by decide +kernel
theorem dX11_shows_342 : decode cX11_shows 342 = .ok (.aload_n 0, 1) := by decide +kernel
theorem dX11_shows_343 : decode cX11_shows 343 = .ok (.getfield 136, 3) := by decide +kernel
theorem dX11_shows_346 : decode cX11_shows 346 = .ok (.iload 5, 2) := by decide +kernel
theorem dX11_shows_348 : decode cX11_shows 348 = .ok (.dup2, 1) := by decide +kernel
theorem dX11_shows_349 : decode cX11_shows 349 = .ok (.iaload, 1) := by decide +kernel
theorem dX11_shows_350 : decode cX11_shows 350 = .ok (.iconst 1, 1) := by decide +kernel
theorem dX11_shows_351 : decode cX11_shows 351 = .ok (.iadd, 1) := by decide +kernel
theorem dX11_shows_352 : decode cX11_shows 352 = .ok (.iastore, 1) := by decide +kernel
theorem dX11_shows_353 : decode cX11_shows 353 = .ok (.aload_n 0, 1) := by decide +kernel
theorem dX11_shows_354 : decode cX11_shows 354 = .ok (.iconst 1, 1) := by decide +kernel
theorem dX11_shows_355 : decode cX11_shows 355 = .ok (.sipush 999, 3) := by decide +kernel
theorem dX11_shows_358 : decode cX11_shows 358 = .ok (.bipush 10, 2) := by decide +kernel
theorem dX11_shows_360 : decode cX11_shows 360 = .ok (.invokevirtual 385, 3) := by decide +kernel
theorem dX11_shows_363 : decode cX11_shows 363 = .ok (.istore 9, 2) := by decide +kernel
theorem dX11_shows_365 : decode cX11_shows 365 = .ok (.aload_n 0, 1) := by decide +kernel
theorem dX11_shows_366 : decode cX11_shows 366 = .ok (.iload 8, 2) := by decide +kernel
theorem dX11_shows_368 : decode cX11_shows 368 = .ok (.putfield 361, 3) := by decide +kernel
theorem dX11_shows_371 : decode cX11_shows 371 = .ok (.iload 8, 2) := by decide +kernel
theorem dX11_shows_373 : decode cX11_shows 373 = .ok (.iload 9, 2) := by decide +kernel
theorem dX11_shows_375 : decode cX11_shows 375 = .ok (.imul, 1) := by decide +kernel
theorem dX11_shows_376 : decode cX11_shows 376 = .ok (.istore 10, 2) := by decide +kernel
theorem dX11_shows_378 : decode cX11_shows 378 = .ok (.iload 10, 2) := by decide +kernel
theorem dX11_shows_380 : decode cX11_shows 380 = .ok (.aload_n 0, 1) := by decide +kernel
theorem dX11_shows_381 : decode cX11_shows 381 = .ok (.iconst 2, 1) := by decide +kernel
theorem dX11_shows_382 : decode cX11_shows 382 = .ok (.bipush 100, 2) := by decide +kernel
theorem dX11_shows_384 : decode cX11_shows 384 = .ok (.bipush 40, 2) := by decide +kernel
theorem dX11_shows_386 : decode cX11_shows 386 = .ok (.invokevirtual 385, 3) := by decide +kernel
theorem dX11_shows_389 : decode cX11_shows 389 = .ok (.imul, 1) := by decide +kernel
theorem dX11_shows_390 : decode cX11_shows 390 = .ok (.bipush 100, 2) := by decide +kernel
theorem dX11_shows_392 : decode cX11_shows 392 = .ok (.idiv, 1) := by decide +kernel
theorem dX11_shows_393 : decode cX11_shows 393 = .ok (.istore 11, 2) := by decide +kernel
theorem dX11_shows_395 : decode cX11_shows 395 = .ok (.iload 10, 2) := by decide +kernel
theorem dX11_shows_397 : decode cX11_shows 397 = .ok (.iload 11, 2) := by decide +kernel
theorem dX11_shows_399 : decode cX11_shows 399 = .ok (.isub, 1) := by decide +kernel
theorem dX11_shows_400 : decode cX11_shows 400 = .ok (.aload_n 0, 1) := by decide +kernel
theorem dX11_shows_401 : decode cX11_shows 401 = .ok (.iconst 3, 1) := by decide +kernel
theorem dX11_shows_402 : decode cX11_shows 402 = .ok (.bipush 100, 2) := by decide +kernel
theorem dX11_shows_404 : decode cX11_shows 404 = .ok (.bipush 10, 2) := by decide +kernel
theorem dX11_shows_406 : decode cX11_shows 406 = .ok (.invokevirtual 385, 3) := by decide +kernel
theorem dX11_shows_409 : decode cX11_shows 409 = .ok (.imul, 1) := by decide +kernel
theorem dX11_shows_410 : decode cX11_shows 410 = .ok (.bipush 100, 2) := by decide +kernel
theorem dX11_shows_412 : decode cX11_shows 412 = .ok (.idiv, 1) := by decide +kernel
theorem dX11_shows_413 : decode cX11_shows 413 = .ok (.istore 12, 2) := by decide +kernel
theorem dX11_shows_415 : decode cX11_shows 415 = .ok (.iload 8, 2) := by decide +kernel
theorem dX11_shows_417 : decode cX11_shows 417 = .ok (.aload_n 0, 1) := by decide +kernel
theorem dX11_shows_418 : decode cX11_shows 418 = .ok (.iconst 4, 1) := by decide +kernel
theorem dX11_shows_419 : decode cX11_shows 419 = .ok (.bipush 100, 2) := by decide +kernel
theorem dX11_shows_421 : decode cX11_shows 421 = .ok (.iconst 0, 1) := by decide +kernel
theorem dX11_shows_422 : decode cX11_shows 422 = .ok (.invokevirtual 385, 3) := by decide +kernel
theorem dX11_shows_425 : decode cX11_shows 425 = .ok (.imul, 1) := by decide +kernel
theorem dX11_shows_426 : decode cX11_shows 426 = .ok (.bipush 100, 2) := by decide +kernel
theorem dX11_shows_428 : decode cX11_shows 428 = .ok (.idiv, 1) := by decide +kernel
theorem dX11_shows_429 : decode cX11_shows 429 = .ok (.iload 9, 2) := by decide +kernel
theorem dX11_shows_431 : decode cX11_shows 431 = .ok (.aload_n 0, 1) := by decide +kernel
theorem dX11_shows_432 : decode cX11_shows 432 = .ok (.getfield 40, 3) := by decide +kernel
theorem dX11_shows_435 : decode cX11_shows 435 = .ok (.iload_n 2, 1) := by decide +kernel
theorem dX11_shows_436 : decode cX11_shows 436 = .ok (.iaload, 1) := by decide +kernel
theorem dX11_shows_437 : decode cX11_shows 437 = .ok (.iadd, 1) := by decide +kernel
theorem dX11_shows_438 : decode cX11_shows 438 = .ok (.iconst 1, 1) := by decide +kernel
theorem dX11_shows_439 : decode cX11_shows 439 = .ok (.isub, 1) := by decide +kernel
theorem dX11_shows_440 : decode cX11_shows 440 = .ok (.aload_n 0, 1) := by decide +kernel
theorem dX11_shows_441 : decode cX11_shows 441 = .ok (.getfield 40, 3) := by decide +kernel
theorem dX11_shows_444 : decode cX11_shows 444 = .ok (.iload_n 2, 1) := by decide +kernel
theorem dX11_shows_445 : decode cX11_shows 445 = .ok (.iaload, 1) := by decide +kernel
theorem dX11_shows_446 : decode cX11_shows 446 = .ok (.idiv, 1) := by decide +kernel
theorem dX11_shows_447 : decode cX11_shows 447 = .ok (.imul, 1) := by decide +kernel
theorem dX11_shows_448 : decode cX11_shows 448 = .ok (.istore 13, 2) := by decide +kernel
theorem dX11_shows_450 : decode cX11_shows 450 = .ok (.aload_n 0, 1) := by decide +kernel
theorem dX11_shows_451 : decode cX11_shows 451 = .ok (.getfield 142, 3) := by decide +kernel
theorem dX11_shows_454 : decode cX11_shows 454 = .ok (.bipush 7, 2) := by decide +kernel
theorem dX11_shows_456 : decode cX11_shows 456 = .ok (.iload_n 1, 1) := by decide +kernel
theorem dX11_shows_457 : decode cX11_shows 457 = .ok (.imul, 1) := by decide +kernel
theorem dX11_shows_458 : decode cX11_shows 458 = .ok (.iconst 1, 1) := by decide +kernel
theorem dX11_shows_459 : decode cX11_shows 459 = .ok (.iadd, 1) := by decide +kernel
theorem dX11_shows_460 : decode cX11_shows 460 = .ok (.iload 8, 2) := by decide +kernel
theorem dX11_shows_462 : decode cX11_shows 462 = .ok (.iastore, 1) := by decide +kernel
theorem dX11_shows_463 : decode cX11_shows 463 = .ok (.aload_n 0, 1) := by decide +kernel
theorem dX11_shows_464 : decode cX11_shows 464 = .ok (.getfield 142, 3) := by decide +kernel
theorem dX11_shows_467 : decode cX11_shows 467 = .ok (.bipush 7, 2) := by decide +kernel
theorem dX11_shows_469 : decode cX11_shows 469 = .ok (.iload_n 1, 1) := by decide +kernel
theorem dX11_shows_470 : decode cX11_shows 470 = .ok (.imul, 1) := by decide +kernel
theorem dX11_shows_471 : decode cX11_shows 471 = .ok (.iconst 2, 1) := by decide +kernel
theorem dX11_shows_472 : decode cX11_shows 472 = .ok (.iadd, 1) := by decide +kernel
theorem dX11_shows_473 : decode cX11_shows 473 = .ok (.iload 10, 2) := by decide +kernel
theorem dX11_shows_475 : decode cX11_shows 475 = .ok (.iastore, 1) := by decide +kernel
theorem dX11_shows_476 : decode cX11_shows 476 = .ok (.aload_n 0, 1) := by decide +kernel
theorem dX11_shows_477 : decode cX11_shows 477 = .ok (.getfield 142, 3) := by decide +kernel
theorem dX11_shows_480 : decode cX11_shows 480 = .ok (.bipush 7, 2) := by decide +kernel
theorem dX11_shows_482 : decode cX11_shows 482 = .ok (.iload_n 1, 1) := by decide +kernel
theorem dX11_shows_483 : decode cX11_shows 483 = .ok (.imul, 1) := by decide +kernel
theorem dX11_shows_484 : decode cX11_shows 484 = .ok (.iconst 3, 1) := by decide +kernel
theorem dX11_shows_485 : decode cX11_shows 485 = .ok (.iadd, 1) := by decide +kernel
theorem dX11_shows_486 : decode cX11_shows 486 = .ok (.iload 11, 2) := by decide +kernel
theorem dX11_shows_488 : decode cX11_shows 488 = .ok (.iastore, 1) := by decide +kernel
theorem dX11_shows_489 : decode cX11_shows 489 = .ok (.aload_n 0, 1) := by decide +kernel
theorem dX11_shows_490 : decode cX11_shows 490 = .ok (.getfield 142, 3) := by decide +kernel
theorem dX11_shows_493 : decode cX11_shows 493 = .ok (.bipush 7, 2) := by decide +kernel
theorem dX11_shows_495 : decode cX11_shows 495 = .ok (.iload_n 1, 1) := by decide +kernel
theorem dX11_shows_496 : decode cX11_shows 496 = .ok (.imul, 1) := by decide +kernel
theorem dX11_shows_497 : decode cX11_shows 497 = .ok (.iconst 4, 1) := by decide +kernel
theorem dX11_shows_498 : decode cX11_shows 498 = .ok (.iadd, 1) := by decide +kernel
theorem dX11_shows_499 : decode cX11_shows 499 = .ok (.iload 12, 2) := by decide +kernel
theorem dX11_shows_501 : decode cX11_shows 501 = .ok (.iastore, 1) := by decide +kernel
theorem dX11_shows_502 : decode cX11_shows 502 = .ok (.aload_n 0, 1) := by decide +kernel
theorem dX11_shows_503 : decode cX11_shows 503 = .ok (.getfield 142, 3) := by decide +kernel
theorem dX11_shows_506 : decode cX11_shows 506 = .ok (.bipush 7, 2) := by decide +kernel
theorem dX11_shows_508 : decode cX11_shows 508 = .ok (.iload_n 1, 1) := by decide +kernel
theorem dX11_shows_509 : decode cX11_shows 509 = .ok (.imul, 1) := by decide +kernel
theorem dX11_shows_510 : decode cX11_shows 510 = .ok (.iconst 5, 1) := by decide +kernel
theorem dX11_shows_511 : decode cX11_shows 511 = .ok (.iadd, 1) := by decide +kernel
theorem dX11_shows_512 : decode cX11_shows 512 = .ok (.iload 13, 2) := by decide +kernel
theorem dX11_shows_514 : decode cX11_shows 514 = .ok (.iastore, 1) := by decide +kernel
theorem dX11_shows_515 : decode cX11_shows 515 = .ok (.aload_n 0, 1) := by decide +kernel
theorem dX11_shows_516 : decode cX11_shows 516 = .ok (.getfield 142, 3) := by decide +kernel
theorem dX11_shows_519 : decode cX11_shows 519 = .ok (.bipush 7, 2) := by decide +kernel
theorem dX11_shows_521 : decode cX11_shows 521 = .ok (.iload_n 1, 1) := by decide +kernel
theorem dX11_shows_522 : decode cX11_shows 522 = .ok (.imul, 1) := by decide +kernel
theorem dX11_shows_523 : decode cX11_shows 523 = .ok (.bipush 6, 2) := by decide +kernel
theorem dX11_shows_525 : decode cX11_shows 525 = .ok (.iadd, 1) := by decide +kernel
theorem dX11_shows_526 : decode cX11_shows 526 = .ok (.iload 6, 2) := by decide +kernel
theorem dX11_shows_528 : decode cX11_shows 528 = .ok (.iastore, 1) := by decide +kernel
theorem dX11_shows_529 : decode cX11_shows 529 = .ok (.aload_n 0, 1) := by decide +kernel
theorem dX11_shows_530 : decode cX11_shows 530 = .ok (.dup, 1) := by decide +kernel
theorem dX11_shows_531 : decode cX11_shows 531 = .ok (.getfield 389, 3) := by decide +kernel
theorem dX11_shows_534 : decode cX11_shows 534 = .ok (.iload 8, 2) := by decide +kernel
theorem dX11_shows_536 : decode cX11_shows 536 = .ok (.iadd, 1) := by decide +kernel
theorem dX11_shows_537 : decode cX11_shows 537 = .ok (.putfield 389, 3) := by decide +kernel
theorem dX11_shows_540 : decode cX11_shows 540 = .ok (.aload_n 0, 1) := by decide +kernel
theorem dX11_shows_541 : decode cX11_shows 541 = .ok (.dup, 1) := by decide +kernel
theorem dX11_shows_542 : decode cX11_shows 542 = .ok (.getfield 392, 3) := by decide +kernel
theorem dX11_shows_545 : decode cX11_shows 545 = .ok (.iconst 1, 1) := by decide +kernel
theorem dX11_shows_546 : decode cX11_shows 546 = .ok (.iadd, 1) := by decide +kernel
theorem dX11_shows_547 : decode cX11_shows 547 = .ok (.putfield 392, 3) := by decide +kernel
theorem dX11_shows_550 : decode cX11_shows 550 = .ok (.aload_n 0, 1) := by decide +kernel
theorem dX11_shows_551 : decode cX11_shows 551 = .ok (.dup, 1) := by decide +kernel
theorem dX11_shows_552 : decode cX11_shows 552 = .ok (.getfield 395, 3) := by decide +kernel
theorem dX11_shows_555 : decode cX11_shows 555 = .ok (.iload 13, 2) := by decide +kernel
theorem dX11_shows_557 : decode cX11_shows 557 = .ok (.iadd, 1) := by decide +kernel
theorem dX11_shows_558 : decode cX11_shows 558 = .ok (.putfield 395, 3) := by decide +kernel
theorem dX11_shows_561 : decode cX11_shows 561 = .ok (.aload_n 0, 1) := by decide +kernel
theorem dX11_shows_562 : decode cX11_shows 562 = .ok (.dup, 1) := by decide +kernel
theorem dX11_shows_563 : decode cX11_shows 563 = .ok (.getfield 398, 3) := by decide +kernel
theorem dX11_shows_566 : decode cX11_shows 566 = .ok (.iload 10, 2) := by decide +kernel
theorem dX11_shows_568 : decode cX11_shows 568 = .ok (.iload 11, 2) := by decide +kernel
theorem dX11_shows_570 : decode cX11_shows 570 = .ok (.isub, 1) := by decide +kernel
theorem dX11_shows_571 : decode cX11_shows 571 = .ok (.iload 12, 2) := by decide +kernel
theorem dX11_shows_573 : decode cX11_shows 573 = .ok (.isub, 1) := by decide +kernel
theorem dX11_shows_574 : decode cX11_shows 574 = .ok (.iadd, 1) := by decide +kernel
theorem dX11_shows_575 : decode cX11_shows 575 = .ok (.putfield 398, 3) := by decide +kernel
theorem dX11_shows_578 : decode cX11_shows 578 = .ok (.return_, 1) := by decide +kernel
theorem dX11_lateOf_0 : decode cX11_lateOf 0 = .ok (.aload_n 0, 1) := by decide +kernel
theorem dX11_lateOf_1 : decode cX11_lateOf 1 = .ok (.getfield 37, 3) := by decide +kernel
theorem dX11_lateOf_4 : decode cX11_lateOf 4 = .ok (.bipush 7, 2) := by decide +kernel
theorem dX11_lateOf_6 : decode cX11_lateOf 6 = .ok (.iload_n 1, 1) := by decide +kernel
theorem dX11_lateOf_7 : decode cX11_lateOf 7 = .ok (.imul, 1) := by decide +kernel
theorem dX11_lateOf_8 : decode cX11_lateOf 8 = .ok (.iconst 5, 1) := by decide +kernel
theorem dX11_lateOf_9 : decode cX11_lateOf 9 = .ok (.iadd, 1) := by decide +kernel
theorem dX11_lateOf_10 : decode cX11_lateOf 10 = .ok (.iaload, 1) := by decide +kernel
theorem dX11_lateOf_11 : decode cX11_lateOf 11 = .ok (.istore_n 2, 1) := by decide +kernel
theorem dX11_lateOf_12 : decode cX11_lateOf 12 = .ok (.aload_n 0, 1) := by decide +kernel
theorem dX11_lateOf_13 : decode cX11_lateOf 13 = .ok (.getfield 148, 3) := by decide +kernel
theorem dX11_lateOf_16 : decode cX11_lateOf 16 = .ok (.iload_n 1, 1) := by decide +kernel
theorem dX11_lateOf_17 : decode cX11_lateOf 17 = .ok (.iaload, 1) := by decide +kernel
theorem dX11_lateOf_18 : decode cX11_lateOf 18 = .ok (.ifCond .ge 7, 3) := by decide +kernel
theorem dX11_lateOf_21 : decode cX11_lateOf 21 = .ok (.iconst 4, 1) := by decide +kernel
theorem dX11_lateOf_22 : decode cX11_lateOf 22 = .ok (.goto 9, 3) := by decide +kernel
theorem dX11_lateOf_25 : decode cX11_lateOf 25 = .ok (.aload_n 0, 1) := by decide +kernel
theorem dX11_lateOf_26 : decode cX11_lateOf 26 = .ok (.getfield 148, 3) := by decide +kernel
theorem dX11_lateOf_29 : decode cX11_lateOf 29 = .ok (.iload_n 1, 1) := by decide +kernel
theorem dX11_lateOf_30 : decode cX11_lateOf 30 = .ok (.iaload, 1) := by decide +kernel
theorem dX11_lateOf_31 : decode cX11_lateOf 31 = .ok (.istore_n 3, 1) := by decide +kernel
theorem dX11_lateOf_32 : decode cX11_lateOf 32 = .ok (.iload_n 3, 1) := by decide +kernel
theorem dX11_lateOf_33 : decode cX11_lateOf 33 = .ok (.iload_n 2, 1) := by decide +kernel
theorem dX11_lateOf_34 : decode cX11_lateOf 34 = .ok (.if_icmp .le 9, 3) := by decide +kernel
theorem dX11_lateOf_37 : decode cX11_lateOf 37 = .ok (.iload_n 3, 1) := by decide +kernel
theorem dX11_lateOf_38 : decode cX11_lateOf 38 = .ok (.iload_n 2, 1) := by decide +kernel
theorem dX11_lateOf_39 : decode cX11_lateOf 39 = .ok (.isub, 1) := by decide +kernel
theorem dX11_lateOf_40 : decode cX11_lateOf 40 = .ok (.goto 4, 3) := by decide +kernel
theorem dX11_lateOf_43 : decode cX11_lateOf 43 = .ok (.iconst 0, 1) := by decide +kernel
theorem dX11_lateOf_44 : decode cX11_lateOf 44 = .ok (.ireturn, 1) := by decide +kernel
theorem dX11_runIt_0 : decode cX11_runIt 0 = .ok (.aload_n 0, 1) := by decide +kernel
theorem dX11_runIt_1 : decode cX11_runIt 1 = .ok (.iload_n 1, 1) := by decide +kernel
theorem dX11_runIt_2 : decode cX11_runIt 2 = .ok (.putfield 375, 3) := by decide +kernel
theorem dX11_runIt_5 : decode cX11_runIt 5 = .ok (.aload_n 0, 1) := by decide +kernel
theorem dX11_runIt_6 : decode cX11_runIt 6 = .ok (.iconst 0, 1) := by decide +kernel
theorem dX11_runIt_7 : decode cX11_runIt 7 = .ok (.putfield 398, 3) := by decide +kernel
theorem dX11_runIt_10 : decode cX11_runIt 10 = .ok (.aload_n 0, 1) := by decide +kernel
theorem dX11_runIt_11 : decode cX11_runIt 11 = .ok (.iconst 0, 1) := by decide +kernel
theorem dX11_runIt_12 : decode cX11_runIt 12 = .ok (.putfield 389, 3) := by decide +kernel
theorem dX11_runIt_15 : decode cX11_runIt 15 = .ok (.aload_n 0, 1) := by decide +kernel
theorem dX11_runIt_16 : decode cX11_runIt 16 = .ok (.iconst 0, 1) := by decide +kernel
theorem dX11_runIt_17 : decode cX11_runIt 17 = .ok (.putfield 392, 3) := by decide +kernel
theorem dX11_runIt_20 : decode cX11_runIt 20 = .ok (.aload_n 0, 1) := by decide +kernel
theorem dX11_runIt_21 : decode cX11_runIt 21 = .ok (.iconst 0, 1) := by decide +kernel
theorem dX11_runIt_22 : decode cX11_runIt 22 = .ok (.putfield 401, 3) := by decide +kernel
theorem dX11_runIt_25 : decode cX11_runIt 25 = .ok (.aload_n 0, 1) := by decide +kernel
theorem dX11_runIt_26 : decode cX11_runIt 26 = .ok (.iconst 0, 1) := by decide +kernel
theorem dX11_runIt_27 : decode cX11_runIt 27 = .ok (.putfield 395, 3) := by decide +kernel
theorem dX11_runIt_30 : decode cX11_runIt 30 = .ok (.iconst 0, 1) := by decide +kernel
theorem dX11_runIt_31 : decode cX11_runIt 31 = .ok (.istore_n 3, 1) := by decide +kernel
theorem dX11_runIt_32 : decode cX11_runIt 32 = .ok (.iload_n 3, 1) := by decide +kernel
theorem dX11_runIt_33 : decode cX11_runIt 33 = .ok (.aload_n 0, 1) := by decide +kernel
theorem dX11_runIt_34 : decode cX11_runIt 34 = .ok (.getfield 186, 3) := by decide +kernel
theorem dX11_runIt_37 : decode cX11_runIt 37 = .ok (.if_icmp .ge 28, 3) := by decide +kernel
theorem dX11_runIt_40 : decode cX11_runIt 40 = .ok (.aload_n 0, 1) := by decide +kernel
theorem dX11_runIt_41 : decode cX11_runIt 41 = .ok (.getfield 118, 3) := by decide +kernel
theorem dX11_runIt_44 : decode cX11_runIt 44 = .ok (.iload_n 3, 1) := by decide +kernel
theorem dX11_runIt_45 : decode cX11_runIt 45 = .ok (.aload_n 0, 1) := by decide +kernel
theorem dX11_runIt_46 : decode cX11_runIt 46 = .ok (.getfield 31, 3) := by decide +kernel
theorem dX11_runIt_49 : decode cX11_runIt 49 = .ok (.iload_n 3, 1) := by decide +kernel
theorem dX11_runIt_50 : decode cX11_runIt 50 = .ok (.iaload, 1) := by decide +kernel
theorem dX11_runIt_51 : decode cX11_runIt 51 = .ok (.iastore, 1) := by decide +kernel
theorem dX11_runIt_52 : decode cX11_runIt 52 = .ok (.aload_n 0, 1) := by decide +kernel
theorem dX11_runIt_53 : decode cX11_runIt 53 = .ok (.getfield 121, 3) := by decide +kernel
theorem dX11_runIt_56 : decode cX11_runIt 56 = .ok (.iload_n 3, 1) := by decide +kernel
theorem dX11_runIt_57 : decode cX11_runIt 57 = .ok (.iconst 0, 1) := by decide +kernel
theorem dX11_runIt_58 : decode cX11_runIt 58 = .ok (.iastore, 1) := by decide +kernel
theorem dX11_runIt_59 : decode cX11_runIt 59 = .ok (.iinc 3 1, 3) := by decide +kernel
theorem dX11_runIt_62 : decode cX11_runIt 62 = .ok (.goto (-30), 3) := by decide +kernel
theorem dX11_runIt_65 : decode cX11_runIt 65 = .ok (.iconst 0, 1) := by decide +kernel
theorem dX11_runIt_66 : decode cX11_runIt 66 = .ok (.istore_n 3, 1) := by decide +kernel
theorem dX11_runIt_67 : decode cX11_runIt 67 = .ok (.iload_n 3, 1) := by decide +kernel
theorem dX11_runIt_68 : decode cX11_runIt 68 = .ok (.aload_n 0, 1) := by decide +kernel
theorem dX11_runIt_69 : decode cX11_runIt 69 = .ok (.getfield 192, 3) := by decide +kernel
theorem dX11_runIt_72 : decode cX11_runIt 72 = .ok (.if_icmp .ge 40, 3) := by decide +kernel
theorem dX11_runIt_75 : decode cX11_runIt 75 = .ok (.aload_n 0, 1) := by decide +kernel
theorem dX11_runIt_76 : decode cX11_runIt 76 = .ok (.getfield 133, 3) := by decide +kernel
theorem dX11_runIt_79 : decode cX11_runIt 79 = .ok (.iload_n 3, 1) := by decide +kernel
theorem dX11_runIt_80 : decode cX11_runIt 80 = .ok (.aload_n 0, 1) := by decide +kernel
theorem dX11_runIt_81 : decode cX11_runIt 81 = .ok (.getfield 37, 3) := by decide +kernel
theorem dX11_runIt_84 : decode cX11_runIt 84 = .ok (.bipush 7, 2) := by decide +kernel
theorem dX11_runIt_86 : decode cX11_runIt 86 = .ok (.iload_n 3, 1) := by decide +kernel
theorem dX11_runIt_87 : decode cX11_runIt 87 = .ok (.imul, 1) := by decide +kernel
theorem dX11_runIt_88 : decode cX11_runIt 88 = .ok (.iconst 3, 1) := by decide +kernel
theorem dX11_runIt_89 : decode cX11_runIt 89 = .ok (.iadd, 1) := by decide +kernel
theorem dX11_runIt_90 : decode cX11_runIt 90 = .ok (.iaload, 1) := by decide +kernel
theorem dX11_runIt_91 : decode cX11_runIt 91 = .ok (.iastore, 1) := by decide +kernel
theorem dX11_runIt_92 : decode cX11_runIt 92 = .ok (.aload_n 0, 1) := by decide +kernel
theorem dX11_runIt_93 : decode cX11_runIt 93 = .ok (.getfield 136, 3) := by decide +kernel
theorem dX11_runIt_96 : decode cX11_runIt 96 = .ok (.iload_n 3, 1) := by decide +kernel
theorem dX11_runIt_97 : decode cX11_runIt 97 = .ok (.iconst 0, 1) := by decide +kernel
theorem dX11_runIt_98 : decode cX11_runIt 98 = .ok (.iastore, 1) := by decide +kernel
theorem dX11_runIt_99 : decode cX11_runIt 99 = .ok (.aload_n 0, 1) := by decide +kernel
theorem dX11_runIt_100 : decode cX11_runIt 100 = .ok (.getfield 148, 3) := by decide +kernel
theorem dX11_runIt_103 : decode cX11_runIt 103 = .ok (.iload_n 3, 1) := by decide +kernel
theorem dX11_runIt_104 : decode cX11_runIt 104 = .ok (.iconst (-1), 1) := by decide +kernel
theorem dX11_runIt_105 : decode cX11_runIt 105 = .ok (.iastore, 1) := by decide +kernel
theorem dX11_runIt_106 : decode cX11_runIt 106 = .ok (.iinc 3 1, 3) := by decide +kernel
theorem dX11_runIt_109 : decode cX11_runIt 109 = .ok (.goto (-42), 3) := by decide +kernel
theorem dX11_runIt_112 : decode cX11_runIt 112 = .ok (.iconst 0, 1) := by decide +kernel
theorem dX11_runIt_113 : decode cX11_runIt 113 = .ok (.istore_n 3, 1) := by decide +kernel
theorem dX11_runIt_114 : decode cX11_runIt 114 = .ok (.iload_n 3, 1) := by decide +kernel
theorem dX11_runIt_115 : decode cX11_runIt 115 = .ok (.bipush 32, 2) := by decide +kernel
theorem dX11_runIt_117 : decode cX11_runIt 117 = .ok (.if_icmp .ge 16, 3) := by decide +kernel
theorem dX11_runIt_120 : decode cX11_runIt 120 = .ok (.aload_n 0, 1) := by decide +kernel
theorem dX11_runIt_121 : decode cX11_runIt 121 = .ok (.getfield 139, 3) := by decide +kernel
theorem dX11_runIt_124 : decode cX11_runIt 124 = .ok (.iload_n 3, 1) := by decide +kernel
theorem dX11_runIt_125 : decode cX11_runIt 125 = .ok (.iconst 0, 1) := by decide +kernel
theorem dX11_runIt_126 : decode cX11_runIt 126 = .ok (.iastore, 1) := by decide +kernel
theorem dX11_runIt_127 : decode cX11_runIt 127 = .ok (.iinc 3 1, 3) := by decide +kernel
theorem dX11_runIt_130 : decode cX11_runIt 130 = .ok (.goto (-16), 3) := by decide +kernel
theorem dX11_runIt_133 : decode cX11_runIt 133 = .ok (.iconst 0, 1) := by decide +kernel
theorem dX11_runIt_134 : decode cX11_runIt 134 = .ok (.istore_n 3, 1) := by decide +kernel
theorem dX11_runIt_135 : decode cX11_runIt 135 = .ok (.iload_n 3, 1) := by decide +kernel
theorem dX11_runIt_136 : decode cX11_runIt 136 = .ok (.iconst 4, 1) := by decide +kernel
theorem dX11_runIt_137 : decode cX11_runIt 137 = .ok (.if_icmp .ge 236, 3) := by decide +kernel
theorem dX11_runIt_140 : decode cX11_runIt 140 = .ok (.iconst 0, 1) := by decide +kernel
theorem dX11_runIt_141 : decode cX11_runIt 141 = .ok (.istore 4, 2) := by decide +kernel
theorem dX11_runIt_143 : decode cX11_runIt 143 = .ok (.iload 4, 2) := by decide +kernel
theorem dX11_runIt_145 : decode cX11_runIt 145 = .ok (.iconst 3, 1) := by decide +kernel
theorem dX11_runIt_146 : decode cX11_runIt 146 = .ok (.if_icmp .ge 25, 3) := by decide +kernel
theorem dX11_runIt_149 : decode cX11_runIt 149 = .ok (.aload_n 0, 1) := by decide +kernel
theorem dX11_runIt_150 : decode cX11_runIt 150 = .ok (.getfield 124, 3) := by decide +kernel
theorem dX11_runIt_153 : decode cX11_runIt 153 = .ok (.iload 4, 2) := by decide +kernel
theorem dX11_runIt_155 : decode cX11_runIt 155 = .ok (.iconst 0, 1) := by decide +kernel
theorem dX11_runIt_156 : decode cX11_runIt 156 = .ok (.iastore, 1) := by decide +kernel
theorem dX11_runIt_157 : decode cX11_runIt 157 = .ok (.aload_n 0, 1) := by decide +kernel
theorem dX11_runIt_158 : decode cX11_runIt 158 = .ok (.getfield 127, 3) := by decide +kernel
theorem dX11_runIt_161 : decode cX11_runIt 161 = .ok (.iload 4, 2) := by decide +kernel
theorem dX11_runIt_163 : decode cX11_runIt 163 = .ok (.iconst 0, 1) := by decide +kernel
theorem dX11_runIt_164 : decode cX11_runIt 164 = .ok (.iastore, 1) := by decide +kernel
theorem dX11_runIt_165 : decode cX11_runIt 165 = .ok (.iinc 4 1, 3) := by decide +kernel
theorem dX11_runIt_168 : decode cX11_runIt 168 = .ok (.goto (-25), 3) := by decide +kernel
theorem dX11_runIt_171 : decode cX11_runIt 171 = .ok (.iconst 0, 1) := by decide +kernel
theorem dX11_runIt_172 : decode cX11_runIt 172 = .ok (.istore 4, 2) := by decide +kernel
theorem dX11_runIt_174 : decode cX11_runIt 174 = .ok (.iload 4, 2) := by decide +kernel
theorem dX11_runIt_176 : decode cX11_runIt 176 = .ok (.bipush 8, 2) := by decide +kernel
theorem dX11_runIt_178 : decode cX11_runIt 178 = .ok (.if_icmp .ge 17, 3) := by decide +kernel
theorem dX11_runIt_181 : decode cX11_runIt 181 = .ok (.aload_n 0, 1) := by decide +kernel
theorem dX11_runIt_182 : decode cX11_runIt 182 = .ok (.getfield 130, 3) := by decide +kernel
theorem dX11_runIt_185 : decode cX11_runIt 185 = .ok (.iload 4, 2) := by decide +kernel
theorem dX11_runIt_187 : decode cX11_runIt 187 = .ok (.iconst 0, 1) := by decide +kernel
theorem dX11_runIt_188 : decode cX11_runIt 188 = .ok (.bastore, 1) := by decide +kernel
theorem dX11_runIt_189 : decode cX11_runIt 189 = .ok (.iinc 4 1, 3) := by decide +kernel
theorem dX11_runIt_192 : decode cX11_runIt 192 = .ok (.goto (-18), 3) := by decide +kernel
theorem dX11_runIt_195 : decode cX11_runIt 195 = .ok (.aload_n 0, 1) := by decide +kernel
theorem dX11_runIt_196 : decode cX11_runIt 196 = .ok (.iload_n 3, 1) := by decide +kernel
theorem dX11_runIt_197 : decode cX11_runIt 197 = .ok (.invokevirtual 404, 3) := by decide +kernel
theorem dX11_runIt_200 : decode cX11_runIt 200 = .ok (.iconst 0, 1) := by decide +kernel
theorem dX11_runIt_201 : decode cX11_runIt 201 = .ok (.istore 4, 2) := by decide +kernel
theorem dX11_runIt_203 : decode cX11_runIt 203 = .ok (.iload 4, 2) := by decide +kernel
theorem dX11_runIt_205 : decode cX11_runIt 205 = .ok (.aload_n 0, 1) := by decide +kernel
theorem dX11_runIt_206 : decode cX11_runIt 206 = .ok (.getfield 186, 3) := by decide +kernel
theorem dX11_runIt_209 : decode cX11_runIt 209 = .ok (.if_icmp .ge 59, 3) := by decide +kernel
theorem dX11_runIt_212 : decode cX11_runIt 212 = .ok (.iconst 0, 1) := by decide +kernel
theorem dX11_runIt_213 : decode cX11_runIt 213 = .ok (.istore 5, 2) := by decide +kernel
theorem dX11_runIt_215 : decode cX11_runIt 215 = .ok (.iload 5, 2) := by decide +kernel
theorem dX11_runIt_217 : decode cX11_runIt 217 = .ok (.iload_n 2, 1) := by decide +kernel
theorem dX11_runIt_218 : decode cX11_runIt 218 = .ok (.if_icmp .ge 44, 3) := by decide +kernel
theorem dX11_runIt_221 : decode cX11_runIt 221 = .ok (.aload_n 0, 1) := by decide +kernel
theorem dX11_runIt_222 : decode cX11_runIt 222 = .ok (.getfield 43, 3) := by decide +kernel
theorem dX11_runIt_225 : decode cX11_runIt 225 = .ok (.iconst 4, 1) := by decide +kernel
theorem dX11_runIt_226 : decode cX11_runIt 226 = .ok (.iload 5, 2) := by decide +kernel
theorem dX11_runIt_228 : decode cX11_runIt 228 = .ok (.imul, 1) := by decide +kernel
theorem dX11_runIt_229 : decode cX11_runIt 229 = .ok (.iaload, 1) := by decide +kernel
theorem dX11_runIt_230 : decode cX11_runIt 230 = .ok (.iload_n 3, 1) := by decide +kernel
theorem dX11_runIt_231 : decode cX11_runIt 231 = .ok (.if_icmp .ne 25, 3) := by decide +kernel
theorem dX11_runIt_234 : decode cX11_runIt 234 = .ok (.aload_n 0, 1) := by decide +kernel
theorem dX11_runIt_235 : decode cX11_runIt 235 = .ok (.getfield 43, 3) := by decide +kernel
theorem dX11_runIt_238 : decode cX11_runIt 238 = .ok (.iconst 4, 1) := by decide +kernel
theorem dX11_runIt_239 : decode cX11_runIt 239 = .ok (.iload 5, 2) := by decide +kernel
theorem dX11_runIt_241 : decode cX11_runIt 241 = .ok (.imul, 1) := by decide +kernel
theorem dX11_runIt_242 : decode cX11_runIt 242 = .ok (.iconst 1, 1) := by decide +kernel
theorem dX11_runIt_243 : decode cX11_runIt 243 = .ok (.iadd, 1) := by decide +kernel
theorem dX11_runIt_244 : decode cX11_runIt 244 = .ok (.iaload, 1) := by decide +kernel
theorem dX11_runIt_245 : decode cX11_runIt 245 = .ok (.iload 4, 2) := by decide +kernel
theorem dX11_runIt_247 : decode cX11_runIt 247 = .ok (.if_icmp .ne 9, 3) := by decide +kernel
theorem dX11_runIt_250 : decode cX11_runIt 250 = .ok (.aload_n 0, 1) := by decide +kernel
theorem dX11_runIt_251 : decode cX11_runIt 251 = .ok (.iload 5, 2) := by decide +kernel
theorem dX11_runIt_253 : decode cX11_runIt 253 = .ok (.invokevirtual 407, 3) := by decide +kernel
theorem dX11_runIt_256 : decode cX11_runIt 256 = .ok (.iinc 5 1, 3) := by decide +kernel
theorem dX11_runIt_259 : decode cX11_runIt 259 = .ok (.goto (-44), 3) := by decide +kernel
theorem dX11_runIt_262 : decode cX11_runIt 262 = .ok (.iinc 4 1, 3) := by decide +kernel
theorem dX11_runIt_265 : decode cX11_runIt 265 = .ok (.goto (-62), 3) := by decide +kernel
theorem dX11_runIt_268 : decode cX11_runIt 268 = .ok (.iconst 0, 1) := by decide +kernel
theorem dX11_runIt_269 : decode cX11_runIt 269 = .ok (.istore 4, 2) := by decide +kernel
theorem dX11_runIt_271 : decode cX11_runIt 271 = .ok (.iload 4, 2) := by decide +kernel
theorem dX11_runIt_273 : decode cX11_runIt 273 = .ok (.aload_n 0, 1) := by decide +kernel
theorem dX11_runIt_274 : decode cX11_runIt 274 = .ok (.getfield 186, 3) := by decide +kernel
theorem dX11_runIt_277 : decode cX11_runIt 277 = .ok (.if_icmp .ge 27, 3) := by decide +kernel
theorem dX11_runIt_280 : decode cX11_runIt 280 = .ok (.aload_n 0, 1) := by decide +kernel
theorem dX11_runIt_281 : decode cX11_runIt 281 = .ok (.getfield 145, 3) := by decide +kernel
theorem dX11_runIt_284 : decode cX11_runIt 284 = .ok (.iconst 4, 1) := by decide +kernel
theorem dX11_runIt_285 : decode cX11_runIt 285 = .ok (.iload 4, 2) := by decide +kernel
theorem dX11_runIt_287 : decode cX11_runIt 287 = .ok (.imul, 1) := by decide +kernel
theorem dX11_runIt_288 : decode cX11_runIt 288 = .ok (.iload_n 3, 1) := by decide +kernel
theorem dX11_runIt_289 : decode cX11_runIt 289 = .ok (.iadd, 1) := by decide +kernel
theorem dX11_runIt_290 : decode cX11_runIt 290 = .ok (.aload_n 0, 1) := by decide +kernel
theorem dX11_runIt_291 : decode cX11_runIt 291 = .ok (.getfield 118, 3) := by decide +kernel
theorem dX11_runIt_294 : decode cX11_runIt 294 = .ok (.iload 4, 2) := by decide +kernel
theorem dX11_runIt_296 : decode cX11_runIt 296 = .ok (.iaload, 1) := by decide +kernel
theorem dX11_runIt_297 : decode cX11_runIt 297 = .ok (.iastore, 1) := by decide +kernel
theorem dX11_runIt_298 : decode cX11_runIt 298 = .ok (.iinc 4 1, 3) := by decide +kernel
theorem dX11_runIt_301 : decode cX11_runIt 301 = .ok (.goto (-30), 3) := by decide +kernel
theorem dX11_runIt_304 : decode cX11_runIt 304 = .ok (.iconst 0, 1) := by decide +kernel
theorem dX11_runIt_305 : decode cX11_runIt 305 = .ok (.istore 4, 2) := by decide +kernel
theorem dX11_runIt_307 : decode cX11_runIt 307 = .ok (.iload 4, 2) := by decide +kernel
theorem dX11_runIt_309 : decode cX11_runIt 309 = .ok (.aload_n 0, 1) := by decide +kernel
theorem dX11_runIt_310 : decode cX11_runIt 310 = .ok (.getfield 192, 3) := by decide +kernel
theorem dX11_runIt_313 : decode cX11_runIt 313 = .ok (.if_icmp .ge 54, 3) := by decide +kernel
theorem dX11_runIt_316 : decode cX11_runIt 316 = .ok (.aload_n 0, 1) := by decide +kernel
theorem dX11_runIt_317 : decode cX11_runIt 317 = .ok (.getfield 148, 3) := by decide +kernel
theorem dX11_runIt_320 : decode cX11_runIt 320 = .ok (.iload 4, 2) := by decide +kernel
theorem dX11_runIt_322 : decode cX11_runIt 322 = .ok (.iaload, 1) := by decide +kernel
theorem dX11_runIt_323 : decode cX11_runIt 323 = .ok (.ifCond .ge 38, 3) := by decide +kernel
theorem dX11_runIt_326 : decode cX11_runIt 326 = .ok (.aload_n 0, 1) := by decide +kernel
theorem dX11_runIt_327 : decode cX11_runIt 327 = .ok (.getfield 118, 3) := by decide +kernel
theorem dX11_runIt_330 : decode cX11_runIt 330 = .ok (.aload_n 0, 1) := by decide +kernel
theorem dX11_runIt_331 : decode cX11_runIt 331 = .ok (.getfield 133, 3) := by decide +kernel
theorem dX11_runIt_334 : decode cX11_runIt 334 = .ok (.iload 4, 2) := by decide +kernel
theorem dX11_runIt_336 : decode cX11_runIt 336 = .ok (.iaload, 1) := by decide +kernel
theorem dX11_runIt_337 : decode cX11_runIt 337 = .ok (.iaload, 1) := by decide +kernel
theorem dX11_runIt_338 : decode cX11_runIt 338 = .ok (.aload_n 0, 1) := by decide +kernel
theorem dX11_runIt_339 : decode cX11_runIt 339 = .ok (.getfield 37, 3) := by decide +kernel
theorem dX11_runIt_342 : decode cX11_runIt 342 = .ok (.bipush 7, 2) := by decide +kernel
theorem dX11_runIt_344 : decode cX11_runIt 344 = .ok (.iload 4, 2) := by decide +kernel
theorem dX11_runIt_346 : decode cX11_runIt 346 = .ok (.imul, 1) := by decide +kernel
theorem dX11_runIt_347 : decode cX11_runIt 347 = .ok (.iconst 4, 1) := by decide +kernel
theorem dX11_runIt_348 : decode cX11_runIt 348 = .ok (.iadd, 1) := by decide +kernel
theorem dX11_runIt_349 : decode cX11_runIt 349 = .ok (.iaload, 1) := by decide +kernel
theorem dX11_runIt_350 : decode cX11_runIt 350 = .ok (.if_icmp .ne 11, 3) := by decide +kernel
theorem dX11_runIt_353 : decode cX11_runIt 353 = .ok (.aload_n 0, 1) := by decide +kernel
theorem dX11_runIt_354 : decode cX11_runIt 354 = .ok (.getfield 148, 3) := by decide +kernel
theorem dX11_runIt_357 : decode cX11_runIt 357 = .ok (.iload 4, 2) := by decide +kernel
theorem dX11_runIt_359 : decode cX11_runIt 359 = .ok (.iload_n 3, 1) := by decide +kernel
theorem dX11_runIt_360 : decode cX11_runIt 360 = .ok (.iastore, 1) := by decide +kernel
theorem dX11_runIt_361 : decode cX11_runIt 361 = .ok (.iinc 4 1, 3) := by decide +kernel
theorem dX11_runIt_364 : decode cX11_runIt 364 = .ok (.goto (-57), 3) := by decide +kernel
theorem dX11_runIt_367 : decode cX11_runIt 367 = .ok (.iinc 3 1, 3) := by decide +kernel
theorem dX11_runIt_370 : decode cX11_runIt 370 = .ok (.goto (-235), 3) := by decide +kernel
theorem dX11_runIt_373 : decode cX11_runIt 373 = .ok (.iconst 0, 1) := by decide +kernel
theorem dX11_runIt_374 : decode cX11_runIt 374 = .ok (.istore_n 3, 1) := by decide +kernel
theorem dX11_runIt_375 : decode cX11_runIt 375 = .ok (.iload_n 3, 1) := by decide +kernel
theorem dX11_runIt_376 : decode cX11_runIt 376 = .ok (.aload_n 0, 1) := by decide +kernel
theorem dX11_runIt_377 : decode cX11_runIt 377 = .ok (.getfield 186, 3) := by decide +kernel
theorem dX11_runIt_380 : decode cX11_runIt 380 = .ok (.if_icmp .ge 34, 3) := by decide +kernel
theorem dX11_runIt_383 : decode cX11_runIt 383 = .ok (.aload_n 0, 1) := by decide +kernel
theorem dX11_runIt_384 : decode cX11_runIt 384 = .ok (.dup, 1) := by decide +kernel
theorem dX11_runIt_385 : decode cX11_runIt 385 = .ok (.getfield 401, 3) := by decide +kernel
theorem dX11_runIt_388 : decode cX11_runIt 388 = .ok (.aload_n 0, 1) := by decide +kernel
theorem dX11_runIt_389 : decode cX11_runIt 389 = .ok (.getfield 121, 3) := by decide +kernel
theorem dX11_runIt_392 : decode cX11_runIt 392 = .ok (.iload_n 3, 1) := by decide +kernel
theorem dX11_runIt_393 : decode cX11_runIt 393 = .ok (.iaload, 1) := by decide +kernel
theorem dX11_runIt_394 : decode cX11_runIt 394 = .ok (.aload_n 0, 1) := by decide +kernel
theorem dX11_runIt_395 : decode cX11_runIt 395 = .ok (.getfield 72, 3) := by decide +kernel
theorem dX11_runIt_398 : decode cX11_runIt 398 = .ok (.iconst 1, 1) := by decide +kernel
theorem dX11_runIt_399 : decode cX11_runIt 399 = .ok (.iaload, 1) := by decide +kernel
theorem dX11_runIt_400 : decode cX11_runIt 400 = .ok (.imul, 1) := by decide +kernel
theorem dX11_runIt_401 : decode cX11_runIt 401 = .ok (.bipush 10, 2) := by decide +kernel
theorem dX11_runIt_403 : decode cX11_runIt 403 = .ok (.idiv, 1) := by decide +kernel
theorem dX11_runIt_404 : decode cX11_runIt 404 = .ok (.iadd, 1) := by decide +kernel
theorem dX11_runIt_405 : decode cX11_runIt 405 = .ok (.putfield 401, 3) := by decide +kernel
theorem dX11_runIt_408 : decode cX11_runIt 408 = .ok (.iinc 3 1, 3) := by decide +kernel
theorem dX11_runIt_411 : decode cX11_runIt 411 = .ok (.goto (-36), 3) := by decide +kernel
theorem dX11_runIt_414 : decode cX11_runIt 414 = .ok (.aload_n 0, 1) := by decide +kernel
theorem dX11_runIt_415 : decode cX11_runIt 415 = .ok (.dup, 1) := by decide +kernel
theorem dX11_runIt_416 : decode cX11_runIt 416 = .ok (.getfield 398, 3) := by decide +kernel
theorem dX11_runIt_419 : decode cX11_runIt 419 = .ok (.aload_n 0, 1) := by decide +kernel
theorem dX11_runIt_420 : decode cX11_runIt 420 = .ok (.getfield 401, 3) := by decide +kernel
theorem dX11_runIt_423 : decode cX11_runIt 423 = .ok (.isub, 1) := by decide +kernel
theorem dX11_runIt_424 : decode cX11_runIt 424 = .ok (.putfield 398, 3) := by decide +kernel
theorem dX11_runIt_427 : decode cX11_runIt 427 = .ok (.iconst 0, 1) := by decide +kernel
theorem dX11_runIt_428 : decode cX11_runIt 428 = .ok (.istore_n 3, 1) := by decide +kernel
theorem dX11_runIt_429 : decode cX11_runIt 429 = .ok (.iload_n 3, 1) := by decide +kernel
theorem dX11_runIt_430 : decode cX11_runIt 430 = .ok (.aload_n 0, 1) := by decide +kernel
theorem dX11_runIt_431 : decode cX11_runIt 431 = .ok (.getfield 192, 3) := by decide +kernel
theorem dX11_runIt_434 : decode cX11_runIt 434 = .ok (.if_icmp .ge 36, 3) := by decide +kernel
theorem dX11_runIt_437 : decode cX11_runIt 437 = .ok (.aload_n 0, 1) := by decide +kernel
theorem dX11_runIt_438 : decode cX11_runIt 438 = .ok (.dup, 1) := by decide +kernel
theorem dX11_runIt_439 : decode cX11_runIt 439 = .ok (.getfield 398, 3) := by decide +kernel
theorem dX11_runIt_442 : decode cX11_runIt 442 = .ok (.aload_n 0, 1) := by decide +kernel
theorem dX11_runIt_443 : decode cX11_runIt 443 = .ok (.iload_n 3, 1) := by decide +kernel
theorem dX11_runIt_444 : decode cX11_runIt 444 = .ok (.invokevirtual 410, 3) := by decide +kernel
theorem dX11_runIt_447 : decode cX11_runIt 447 = .ok (.aload_n 0, 1) := by decide +kernel
theorem dX11_runIt_448 : decode cX11_runIt 448 = .ok (.getfield 37, 3) := by decide +kernel
theorem dX11_runIt_451 : decode cX11_runIt 451 = .ok (.bipush 7, 2) := by decide +kernel
theorem dX11_runIt_453 : decode cX11_runIt 453 = .ok (.iload_n 3, 1) := by decide +kernel
theorem dX11_runIt_454 : decode cX11_runIt 454 = .ok (.imul, 1) := by decide +kernel
theorem dX11_runIt_455 : decode cX11_runIt 455 = .ok (.bipush 6, 2) := by decide +kernel
theorem dX11_runIt_457 : decode cX11_runIt 457 = .ok (.iadd, 1) := by decide +kernel
theorem dX11_runIt_458 : decode cX11_runIt 458 = .ok (.iaload, 1) := by decide +kernel
theorem dX11_runIt_459 : decode cX11_runIt 459 = .ok (.imul, 1) := by decide +kernel
theorem dX11_runIt_460 : decode cX11_runIt 460 = .ok (.isub, 1) := by decide +kernel
theorem dX11_runIt_461 : decode cX11_runIt 461 = .ok (.putfield 398, 3) := by decide +kernel
theorem dX11_runIt_464 : decode cX11_runIt 464 = .ok (.iinc 3 1, 3) := by decide +kernel
theorem dX11_runIt_467 : decode cX11_runIt 467 = .ok (.goto (-38), 3) := by decide +kernel
theorem dX11_runIt_470 : decode cX11_runIt 470 = .ok (.return_, 1) := by decide +kernel
theorem dX11_isShut_0 : decode cX11_isShut 0 = .ok (.iload_n 0, 1) := by decide +kernel
theorem dX11_isShut_1 : decode cX11_isShut 1 = .ok (.ifCond .lt 14, 3) := by decide +kernel
theorem dX11_isShut_4 : decode cX11_isShut 4 = .ok (.iload_n 0, 1) := by decide +kernel
theorem dX11_isShut_5 : decode cX11_isShut 5 = .ok (.sipush 256, 3) := by decide +kernel
theorem dX11_isShut_8 : decode cX11_isShut 8 = .ok (.if_icmp .ge 7, 3) := by decide +kernel
theorem dX11_isShut_11 : decode cX11_isShut 11 = .ok (.iconst 1, 1) := by decide +kernel
theorem dX11_isShut_12 : decode cX11_isShut 12 = .ok (.goto 4, 3) := by decide +kernel
theorem dX11_isShut_15 : decode cX11_isShut 15 = .ok (.iconst 0, 1) := by decide +kernel
theorem dX11_isShut_16 : decode cX11_isShut 16 = .ok (.ireturn, 1) := by decide +kernel
theorem dX11_shown_0 : decode cX11_shown 0 = .ok (.aload_n 0, 1) := by decide +kernel
theorem dX11_shown_1 : decode cX11_shown 1 = .ok (.iconst 0, 1) := by decide +kernel
theorem dX11_shown_2 : decode cX11_shown 2 = .ok (.putfield 163, 3) := by decide +kernel
theorem dX11_shown_5 : decode cX11_shown 5 = .ok (.iload_n 1, 1) := by decide +kernel
theorem dX11_shown_6 : decode cX11_shown 6 = .ok (.ifCond .lt 28, 3) := by decide +kernel
theorem dX11_shown_9 : decode cX11_shown 9 = .ok (.iload_n 1, 1) := by decide +kernel
theorem dX11_shown_10 : decode cX11_shown 10 = .ok (.aload_n 0, 1) := by decide +kernel
theorem dX11_shown_11 : decode cX11_shown 11 = .ok (.getfield 202, 3) := by decide +kernel
theorem dX11_shown_14 : decode cX11_shown 14 = .ok (.if_icmp .ge 20, 3) := by decide +kernel
theorem dX11_shown_17 : decode cX11_shown 17 = .ok (.iload_n 2, 1) := by decide +kernel
theorem dX11_shown_18 : decode cX11_shown 18 = .ok (.invokestatic 413, 3) := by decide +kernel
theorem dX11_shown_21 : decode cX11_shown 21 = .ok (.ifCond .eq 13, 3) := by decide +kernel
theorem dX11_shown_24 : decode cX11_shown 24 = .ok (.iload_n 3, 1) := by decide +kernel
theorem dX11_shown_25 : decode cX11_shown 25 = .ok (.iconst 0, 1) := by decide +kernel
theorem dX11_shown_26 : decode cX11_shown 26 = .ok (.bipush 6, 2) := by decide +kernel
theorem dX11_shown_28 : decode cX11_shown 28 = .ok (.invokestatic 172, 3) := by decide +kernel
theorem dX11_shown_31 : decode cX11_shown 31 = .ok (.ifCond .ne 5, 3) := by decide +kernel
theorem dX11_shown_34 : decode cX11_shown 34 = .ok (.iconst (-1), 1) := by decide +kernel
theorem dX11_shown_35 : decode cX11_shown 35 = .ok (.ireturn, 1) := by decide +kernel
theorem dX11_shown_36 : decode cX11_shown 36 = .ok (.aload_n 0, 1) := by decide +kernel
theorem dX11_shown_37 : decode cX11_shown 37 = .ok (.invokevirtual 199, 3) := by decide +kernel
theorem dX11_shown_40 : decode cX11_shown 40 = .ok (.aload_n 0, 1) := by decide +kernel
theorem dX11_shown_41 : decode cX11_shown 41 = .ok (.iload_n 2, 1) := by decide +kernel
theorem dX11_shown_42 : decode cX11_shown 42 = .ok (.aload_n 0, 1) := by decide +kernel
theorem dX11_shown_43 : decode cX11_shown 43 = .ok (.getfield 202, 3) := by decide +kernel
theorem dX11_shown_46 : decode cX11_shown 46 = .ok (.invokevirtual 416, 3) := by decide +kernel
theorem dX11_shown_49 : decode cX11_shown 49 = .ok (.aload_n 0, 1) := by decide +kernel
theorem dX11_shown_50 : decode cX11_shown 50 = .ok (.getfield 142, 3) := by decide +kernel
theorem dX11_shown_53 : decode cX11_shown 53 = .ok (.bipush 7, 2) := by decide +kernel
theorem dX11_shown_55 : decode cX11_shown 55 = .ok (.iload_n 1, 1) := by decide +kernel
theorem dX11_shown_56 : decode cX11_shown 56 = .ok (.imul, 1) := by decide +kernel
theorem dX11_shown_57 : decode cX11_shown 57 = .ok (.iload_n 3, 1) := by decide +kernel
theorem dX11_shown_58 : decode cX11_shown 58 = .ok (.iadd, 1) := by decide +kernel
theorem dX11_shown_59 : decode cX11_shown 59 = .ok (.iaload, 1) := by decide +kernel
theorem dX11_shown_60 : decode cX11_shown 60 = .ok (.ireturn, 1) := by decide +kernel
theorem dX11_run_0 : decode cX11_run 0 = .ok (.aload_n 0, 1) := by decide +kernel
theorem dX11_run_1 : decode cX11_run 1 = .ok (.iconst 0, 1) := by decide +kernel
theorem dX11_run_2 : decode cX11_run 2 = .ok (.putfield 163, 3) := by decide +kernel
theorem dX11_run_5 : decode cX11_run 5 = .ok (.iload_n 1, 1) := by decide +kernel
theorem dX11_run_6 : decode cX11_run 6 = .ok (.invokestatic 413, 3) := by decide +kernel
theorem dX11_run_9 : decode cX11_run 9 = .ok (.ifCond .eq 12, 3) := by decide +kernel
theorem dX11_run_12 : decode cX11_run 12 = .ok (.iload_n 2, 1) := by decide +kernel
theorem dX11_run_13 : decode cX11_run 13 = .ok (.iconst 0, 1) := by decide +kernel
theorem dX11_run_14 : decode cX11_run 14 = .ok (.iconst 4, 1) := by decide +kernel
theorem dX11_run_15 : decode cX11_run 15 = .ok (.invokestatic 172, 3) := by decide +kernel
theorem dX11_run_18 : decode cX11_run 18 = .ok (.ifCond .ne 7, 3) := by decide +kernel
theorem dX11_run_21 : decode cX11_run 21 = .ok (.ldc_w 419, 3) := by decide +kernel
theorem dX11_run_24 : decode cX11_run 24 = .ok (.ireturn, 1) := by decide +kernel
theorem dX11_run_25 : decode cX11_run 25 = .ok (.aload_n 0, 1) := by decide +kernel
theorem dX11_run_26 : decode cX11_run 26 = .ok (.invokevirtual 199, 3) := by decide +kernel
theorem dX11_run_29 : decode cX11_run 29 = .ok (.aload_n 0, 1) := by decide +kernel
theorem dX11_run_30 : decode cX11_run 30 = .ok (.iload_n 1, 1) := by decide +kernel
theorem dX11_run_31 : decode cX11_run 31 = .ok (.aload_n 0, 1) := by decide +kernel
theorem dX11_run_32 : decode cX11_run 32 = .ok (.getfield 202, 3) := by decide +kernel
theorem dX11_run_35 : decode cX11_run 35 = .ok (.invokevirtual 416, 3) := by decide +kernel
theorem dX11_run_38 : decode cX11_run 38 = .ok (.iload_n 2, 1) := by decide +kernel
theorem dX11_run_39 : decode cX11_run 39 = .ok (.ifCond .ne 10, 3) := by decide +kernel
theorem dX11_run_42 : decode cX11_run 42 = .ok (.aload_n 0, 1) := by decide +kernel
theorem dX11_run_43 : decode cX11_run 43 = .ok (.getfield 389, 3) := by decide +kernel
theorem dX11_run_46 : decode cX11_run 46 = .ok (.goto 43, 3) := by decide +kernel
theorem dX11_run_49 : decode cX11_run 49 = .ok (.iload_n 2, 1) := by decide +kernel
theorem dX11_run_50 : decode cX11_run 50 = .ok (.iconst 1, 1) := by decide +kernel
theorem dX11_run_51 : decode cX11_run 51 = .ok (.if_icmp .ne 10, 3) := by decide +kernel
theorem dX11_run_54 : decode cX11_run 54 = .ok (.aload_n 0, 1) := by decide +kernel
theorem dX11_run_55 : decode cX11_run 55 = .ok (.getfield 398, 3) := by decide +kernel
theorem dX11_run_58 : decode cX11_run 58 = .ok (.goto 31, 3) := by decide +kernel
theorem dX11_run_61 : decode cX11_run 61 = .ok (.iload_n 2, 1) := by decide +kernel
theorem dX11_run_62 : decode cX11_run 62 = .ok (.iconst 2, 1) := by decide +kernel
theorem dX11_run_63 : decode cX11_run 63 = .ok (.if_icmp .ne 10, 3) := by decide +kernel
theorem dX11_run_66 : decode cX11_run 66 = .ok (.aload_n 0, 1) := by decide +kernel
theorem dX11_run_67 : decode cX11_run 67 = .ok (.getfield 392, 3) := by decide +kernel
theorem dX11_run_70 : decode cX11_run 70 = .ok (.goto 19, 3) := by decide +kernel
theorem dX11_run_73 : decode cX11_run 73 = .ok (.iload_n 2, 1) := by decide +kernel
theorem dX11_run_74 : decode cX11_run 74 = .ok (.iconst 3, 1) := by decide +kernel
theorem dX11_run_75 : decode cX11_run 75 = .ok (.if_icmp .ne 10, 3) := by decide +kernel
theorem dX11_run_78 : decode cX11_run 78 = .ok (.aload_n 0, 1) := by decide +kernel
theorem dX11_run_79 : decode cX11_run 79 = .ok (.getfield 401, 3) := by decide +kernel
theorem dX11_run_82 : decode cX11_run 82 = .ok (.goto 7, 3) := by decide +kernel
theorem dX11_run_85 : decode cX11_run 85 = .ok (.aload_n 0, 1) := by decide +kernel
theorem dX11_run_86 : decode cX11_run 86 = .ok (.getfield 395, 3) := by decide +kernel
theorem dX11_run_89 : decode cX11_run 89 = .ok (.ireturn, 1) := by decide +kernel
theorem dX11_where_0 : decode cX11_where 0 = .ok (.aload_n 0, 1) := by decide +kernel
theorem dX11_where_1 : decode cX11_where 1 = .ok (.iconst 0, 1) := by decide +kernel
theorem dX11_where_2 : decode cX11_where 2 = .ok (.putfield 163, 3) := by decide +kernel
theorem dX11_where_5 : decode cX11_where 5 = .ok (.aload_n 0, 1) := by decide +kernel
theorem dX11_where_6 : decode cX11_where 6 = .ok (.iload_n 1, 1) := by decide +kernel
theorem dX11_where_7 : decode cX11_where 7 = .ok (.invokevirtual 189, 3) := by decide +kernel
theorem dX11_where_10 : decode cX11_where 10 = .ok (.ifCond .eq 17, 3) := by decide +kernel
theorem dX11_where_13 : decode cX11_where 13 = .ok (.iload_n 2, 1) := by decide +kernel
theorem dX11_where_14 : decode cX11_where 14 = .ok (.invokestatic 195, 3) := by decide +kernel
theorem dX11_where_17 : decode cX11_where 17 = .ok (.ifCond .eq 10, 3) := by decide +kernel
theorem dX11_where_20 : decode cX11_where 20 = .ok (.iload_n 3, 1) := by decide +kernel
theorem dX11_where_21 : decode cX11_where 21 = .ok (.invokestatic 413, 3) := by decide +kernel
theorem dX11_where_24 : decode cX11_where 24 = .ok (.ifCond .ne 5, 3) := by decide +kernel
theorem dX11_where_27 : decode cX11_where 27 = .ok (.iconst (-1), 1) := by decide +kernel
theorem dX11_where_28 : decode cX11_where 28 = .ok (.ireturn, 1) := by decide +kernel
theorem dX11_where_29 : decode cX11_where 29 = .ok (.aload_n 0, 1) := by decide +kernel
theorem dX11_where_30 : decode cX11_where 30 = .ok (.invokevirtual 199, 3) := by decide +kernel
theorem dX11_where_33 : decode cX11_where 33 = .ok (.aload_n 0, 1) := by decide +kernel
theorem dX11_where_34 : decode cX11_where 34 = .ok (.iload_n 3, 1) := by decide +kernel
theorem dX11_where_35 : decode cX11_where 35 = .ok (.aload_n 0, 1) := by decide +kernel
theorem dX11_where_36 : decode cX11_where 36 = .ok (.getfield 202, 3) := by decide +kernel
theorem dX11_where_39 : decode cX11_where 39 = .ok (.invokevirtual 416, 3) := by decide +kernel
theorem dX11_where_42 : decode cX11_where 42 = .ok (.aload_n 0, 1) := by decide +kernel
theorem dX11_where_43 : decode cX11_where 43 = .ok (.getfield 145, 3) := by decide +kernel
theorem dX11_where_46 : decode cX11_where 46 = .ok (.iconst 4, 1) := by decide +kernel
theorem dX11_where_47 : decode cX11_where 47 = .ok (.iload_n 1, 1) := by decide +kernel
theorem dX11_where_48 : decode cX11_where 48 = .ok (.imul, 1) := by decide +kernel
theorem dX11_where_49 : decode cX11_where 49 = .ok (.iload_n 2, 1) := by decide +kernel
theorem dX11_where_50 : decode cX11_where 50 = .ok (.iadd, 1) := by decide +kernel
theorem dX11_where_51 : decode cX11_where 51 = .ok (.iaload, 1) := by decide +kernel
theorem dX11_where_52 : decode cX11_where 52 = .ok (.ireturn, 1) := by decide +kernel
theorem dX11_printed_0 : decode cX11_printed 0 = .ok (.aload_n 0, 1) := by decide +kernel
theorem dX11_printed_1 : decode cX11_printed 1 = .ok (.iconst 0, 1) := by decide +kernel
theorem dX11_printed_2 : decode cX11_printed 2 = .ok (.putfield 163, 3) := by decide +kernel
theorem dX11_printed_5 : decode cX11_printed 5 = .ok (.aload_n 0, 1) := by decide +kernel
theorem dX11_printed_6 : decode cX11_printed 6 = .ok (.iload_n 1, 1) := by decide +kernel
theorem dX11_printed_7 : decode cX11_printed 7 = .ok (.invokevirtual 205, 3) := by decide +kernel
theorem dX11_printed_10 : decode cX11_printed 10 = .ok (.ifCond .eq 19, 3) := by decide +kernel
theorem dX11_printed_13 : decode cX11_printed 13 = .ok (.iload_n 2, 1) := by decide +kernel
theorem dX11_printed_14 : decode cX11_printed 14 = .ok (.invokestatic 413, 3) := by decide +kernel
theorem dX11_printed_17 : decode cX11_printed 17 = .ok (.ifCond .eq 12, 3) := by decide +kernel
theorem dX11_printed_20 : decode cX11_printed 20 = .ok (.iload_n 3, 1) := by decide +kernel
theorem dX11_printed_21 : decode cX11_printed 21 = .ok (.iconst 0, 1) := by decide +kernel
theorem dX11_printed_22 : decode cX11_printed 22 = .ok (.iconst 3, 1) := by decide +kernel
theorem dX11_printed_23 : decode cX11_printed 23 = .ok (.invokestatic 172, 3) := by decide +kernel
theorem dX11_printed_26 : decode cX11_printed 26 = .ok (.ifCond .ne 5, 3) := by decide +kernel
theorem dX11_printed_29 : decode cX11_printed 29 = .ok (.iconst (-1), 1) := by decide +kernel
theorem dX11_printed_30 : decode cX11_printed 30 = .ok (.ireturn, 1) := by decide +kernel
theorem dX11_printed_31 : decode cX11_printed 31 = .ok (.aload_n 0, 1) := by decide +kernel
theorem dX11_printed_32 : decode cX11_printed 32 = .ok (.invokevirtual 199, 3) := by decide +kernel
theorem dX11_printed_35 : decode cX11_printed 35 = .ok (.aload_n 0, 1) := by decide +kernel
theorem dX11_printed_36 : decode cX11_printed 36 = .ok (.iload_n 2, 1) := by decide +kernel
theorem dX11_printed_37 : decode cX11_printed 37 = .ok (.aload_n 0, 1) := by decide +kernel
theorem dX11_printed_38 : decode cX11_printed 38 = .ok (.getfield 202, 3) := by decide +kernel
theorem dX11_printed_41 : decode cX11_printed 41 = .ok (.invokevirtual 416, 3) := by decide +kernel
theorem dX11_printed_44 : decode cX11_printed 44 = .ok (.iload_n 3, 1) := by decide +kernel
theorem dX11_printed_45 : decode cX11_printed 45 = .ok (.ifCond .ne 12, 3) := by decide +kernel
theorem dX11_printed_48 : decode cX11_printed 48 = .ok (.aload_n 0, 1) := by decide +kernel
theorem dX11_printed_49 : decode cX11_printed 49 = .ok (.getfield 133, 3) := by decide +kernel
theorem dX11_printed_52 : decode cX11_printed 52 = .ok (.iload_n 1, 1) := by decide +kernel
theorem dX11_printed_53 : decode cX11_printed 53 = .ok (.iaload, 1) := by decide +kernel
theorem dX11_printed_54 : decode cX11_printed 54 = .ok (.goto 36, 3) := by decide +kernel
theorem dX11_printed_57 : decode cX11_printed 57 = .ok (.iload_n 3, 1) := by decide +kernel
theorem dX11_printed_58 : decode cX11_printed 58 = .ok (.iconst 1, 1) := by decide +kernel
theorem dX11_printed_59 : decode cX11_printed 59 = .ok (.if_icmp .ne 12, 3) := by decide +kernel
theorem dX11_printed_62 : decode cX11_printed 62 = .ok (.aload_n 0, 1) := by decide +kernel
theorem dX11_printed_63 : decode cX11_printed 63 = .ok (.getfield 148, 3) := by decide +kernel
theorem dX11_printed_66 : decode cX11_printed 66 = .ok (.iload_n 1, 1) := by decide +kernel
theorem dX11_printed_67 : decode cX11_printed 67 = .ok (.iaload, 1) := by decide +kernel
theorem dX11_printed_68 : decode cX11_printed 68 = .ok (.goto 22, 3) := by decide +kernel
theorem dX11_printed_71 : decode cX11_printed 71 = .ok (.iload_n 3, 1) := by decide +kernel
theorem dX11_printed_72 : decode cX11_printed 72 = .ok (.iconst 2, 1) := by decide +kernel
theorem dX11_printed_73 : decode cX11_printed 73 = .ok (.if_icmp .ne 11, 3) := by decide +kernel
theorem dX11_printed_76 : decode cX11_printed 76 = .ok (.aload_n 0, 1) := by decide +kernel
theorem dX11_printed_77 : decode cX11_printed 77 = .ok (.iload_n 1, 1) := by decide +kernel
theorem dX11_printed_78 : decode cX11_printed 78 = .ok (.invokevirtual 410, 3) := by decide +kernel
theorem dX11_printed_81 : decode cX11_printed 81 = .ok (.goto 9, 3) := by decide +kernel
theorem dX11_printed_84 : decode cX11_printed 84 = .ok (.aload_n 0, 1) := by decide +kernel
theorem dX11_printed_85 : decode cX11_printed 85 = .ok (.getfield 136, 3) := by decide +kernel
theorem dX11_printed_88 : decode cX11_printed 88 = .ok (.iload_n 1, 1) := by decide +kernel
theorem dX11_printed_89 : decode cX11_printed 89 = .ok (.iaload, 1) := by decide +kernel
theorem dX11_printed_90 : decode cX11_printed 90 = .ok (.ireturn, 1) := by decide +kernel
theorem dX11_expected_0 : decode cX11_expected 0 = .ok (.aload_n 0, 1) := by decide +kernel
theorem dX11_expected_1 : decode cX11_expected 1 = .ok (.iconst 0, 1) := by decide +kernel
theorem dX11_expected_2 : decode cX11_expected 2 = .ok (.putfield 163, 3) := by decide +kernel
theorem dX11_expected_5 : decode cX11_expected 5 = .ok (.iload_n 1, 1) := by decide +kernel
theorem dX11_expected_6 : decode cX11_expected 6 = .ok (.iconst 0, 1) := by decide +kernel
theorem dX11_expected_7 : decode cX11_expected 7 = .ok (.iconst 3, 1) := by decide +kernel
theorem dX11_expected_8 : decode cX11_expected 8 = .ok (.invokestatic 172, 3) := by decide +kernel
theorem dX11_expected_11 : decode cX11_expected 11 = .ok (.ifCond .ne 7, 3) := by decide +kernel
theorem dX11_expected_14 : decode cX11_expected 14 = .ok (.ldc2_w 420, 3) := by decide +kernel
theorem dX11_expected_17 : decode cX11_expected 17 = .ok (.lreturn, 1) := by decide +kernel
theorem dX11_expected_18 : decode cX11_expected 18 = .ok (.lconst 1, 1) := by decide +kernel
theorem dX11_expected_19 : decode cX11_expected 19 = .ok (.lstore_n 2, 1) := by decide +kernel
theorem dX11_expected_20 : decode cX11_expected 20 = .ok (.iconst 0, 1) := by decide +kernel
theorem dX11_expected_21 : decode cX11_expected 21 = .ok (.istore 4, 2) := by decide +kernel
theorem dX11_expected_23 : decode cX11_expected 23 = .ok (.iload 4, 2) := by decide +kernel
theorem dX11_expected_25 : decode cX11_expected 25 = .ok (.iconst 4, 1) := by decide +kernel
theorem dX11_expected_26 : decode cX11_expected 26 = .ok (.aload_n 0, 1) := by decide +kernel
theorem dX11_expected_27 : decode cX11_expected 27 = .ok (.getfield 183, 3) := by decide +kernel
theorem dX11_expected_30 : decode cX11_expected 30 = .ok (.imul, 1) := by decide +kernel
theorem dX11_expected_31 : decode cX11_expected 31 = .ok (.if_icmp .ge 15, 3) := by decide +kernel
theorem dX11_expected_34 : decode cX11_expected 34 = .ok (.lload_n 2, 1) := by decide +kernel
theorem dX11_expected_35 : decode cX11_expected 35 = .ok (.ldc2_w 422, 3) := by decide +kernel
theorem dX11_expected_38 : decode cX11_expected 38 = .ok (.lmul, 1) := by decide +kernel
theorem dX11_expected_39 : decode cX11_expected 39 = .ok (.lstore_n 2, 1) := by decide +kernel
theorem dX11_expected_40 : decode cX11_expected 40 = .ok (.iinc 4 1, 3) := by decide +kernel
theorem dX11_expected_43 : decode cX11_expected 43 = .ok (.goto (-20), 3) := by decide +kernel
theorem dX11_expected_46 : decode cX11_expected 46 = .ok (.iload_n 1, 1) := by decide +kernel
theorem dX11_expected_47 : decode cX11_expected 47 = .ok (.iconst 3, 1) := by decide +kernel
theorem dX11_expected_48 : decode cX11_expected 48 = .ok (.if_icmp .ne 5, 3) := by decide +kernel
theorem dX11_expected_51 : decode cX11_expected 51 = .ok (.lload_n 2, 1) := by decide +kernel
theorem dX11_expected_52 : decode cX11_expected 52 = .ok (.lreturn, 1) := by decide +kernel
theorem dX11_expected_53 : decode cX11_expected 53 = .ok (.aload_n 0, 1) := by decide +kernel
theorem dX11_expected_54 : decode cX11_expected 54 = .ok (.invokevirtual 199, 3) := by decide +kernel
theorem dX11_expected_57 : decode cX11_expected 57 = .ok (.lconst 0, 1) := by decide +kernel
theorem dX11_expected_58 : decode cX11_expected 58 = .ok (.lstore 4, 2) := by decide +kernel
theorem dX11_expected_60 : decode cX11_expected 60 = .ok (.iconst 0, 1) := by decide +kernel
theorem dX11_expected_61 : decode cX11_expected 61 = .ok (.istore 6, 2) := by decide +kernel
theorem dX11_expected_63 : decode cX11_expected 63 = .ok (.iload 6, 2) := by decide +kernel
theorem dX11_expected_65 : decode cX11_expected 65 = .ok (.sipush 256, 3) := by decide +kernel
theorem dX11_expected_68 : decode cX11_expected 68 = .ok (.if_icmp .ge 167, 3) := by decide +kernel
theorem dX11_expected_71 : decode cX11_expected 71 = .ok (.lconst 1, 1) := by decide +kernel
theorem dX11_expected_72 : decode cX11_expected 72 = .ok (.lstore 7, 2) := by decide +kernel
theorem dX11_expected_74 : decode cX11_expected 74 = .ok (.iconst 0, 1) := by decide +kernel
theorem dX11_expected_75 : decode cX11_expected 75 = .ok (.istore 9, 2) := by decide +kernel
theorem dX11_expected_77 : decode cX11_expected 77 = .ok (.iload 9, 2) := by decide +kernel
theorem dX11_expected_79 : decode cX11_expected 79 = .ok (.bipush 8, 2) := by decide +kernel
theorem dX11_expected_81 : decode cX11_expected 81 = .ok (.if_icmp .ge 92, 3) := by decide +kernel
theorem dX11_expected_84 : decode cX11_expected 84 = .ok (.iload 6, 2) := by decide +kernel
theorem dX11_expected_86 : decode cX11_expected 86 = .ok (.iload 9, 2) := by decide +kernel
theorem dX11_expected_88 : decode cX11_expected 88 = .ok (.ishr, 1) := by decide +kernel
theorem dX11_expected_89 : decode cX11_expected 89 = .ok (.iconst 1, 1) := by decide +kernel
theorem dX11_expected_90 : decode cX11_expected 90 = .ok (.iand, 1) := by decide +kernel
theorem dX11_expected_91 : decode cX11_expected 91 = .ok (.iconst 1, 1) := by decide +kernel
theorem dX11_expected_92 : decode cX11_expected 92 = .ok (.if_icmp .ne 7, 3) := by decide +kernel
theorem dX11_expected_95 : decode cX11_expected 95 = .ok (.iconst 1, 1) := by decide +kernel
theorem dX11_expected_96 : decode cX11_expected 96 = .ok (.goto 4, 3) := by decide +kernel
theorem dX11_expected_99 : decode cX11_expected 99 = .ok (.iconst 0, 1) := by decide +kernel
theorem dX11_expected_100 : decode cX11_expected 100 = .ok (.istore 10, 2) := by decide +kernel
theorem dX11_expected_102 : decode cX11_expected 102 = .ok (.iload 9, 2) := by decide +kernel
theorem dX11_expected_104 : decode cX11_expected 104 = .ok (.iconst 2, 1) := by decide +kernel
theorem dX11_expected_105 : decode cX11_expected 105 = .ok (.irem, 1) := by decide +kernel
theorem dX11_expected_106 : decode cX11_expected 106 = .ok (.aload_n 0, 1) := by decide +kernel
theorem dX11_expected_107 : decode cX11_expected 107 = .ok (.getfield 183, 3) := by decide +kernel
theorem dX11_expected_110 : decode cX11_expected 110 = .ok (.if_icmp .lt 21, 3) := by decide +kernel
theorem dX11_expected_113 : decode cX11_expected 113 = .ok (.lload 7, 2) := by decide +kernel
theorem dX11_expected_115 : decode cX11_expected 115 = .ok (.iload 10, 2) := by decide +kernel
theorem dX11_expected_117 : decode cX11_expected 117 = .ok (.ifCond .eq 7, 3) := by decide +kernel
theorem dX11_expected_120 : decode cX11_expected 120 = .ok (.lconst 0, 1) := by decide +kernel
theorem dX11_expected_121 : decode cX11_expected 121 = .ok (.goto 4, 3) := by decide +kernel
theorem dX11_expected_124 : decode cX11_expected 124 = .ok (.lconst 1, 1) := by decide +kernel
theorem dX11_expected_125 : decode cX11_expected 125 = .ok (.lmul, 1) := by decide +kernel
theorem dX11_expected_126 : decode cX11_expected 126 = .ok (.lstore 7, 2) := by decide +kernel
theorem dX11_expected_128 : decode cX11_expected 128 = .ok (.goto 39, 3) := by decide +kernel
theorem dX11_expected_131 : decode cX11_expected 131 = .ok (.lload 7, 2) := by decide +kernel
theorem dX11_expected_133 : decode cX11_expected 133 = .ok (.iload 10, 2) := by decide +kernel
theorem dX11_expected_135 : decode cX11_expected 135 = .ok (.ifCond .eq 16, 3) := by decide +kernel
theorem dX11_expected_138 : decode cX11_expected 138 = .ok (.aload_n 0, 1) := by decide +kernel
theorem dX11_expected_139 : decode cX11_expected 139 = .ok (.getfield 28, 3) := by decide +kernel
theorem dX11_expected_142 : decode cX11_expected 142 = .ok (.iload 9, 2) := by decide +kernel
theorem dX11_expected_144 : decode cX11_expected 144 = .ok (.iconst 2, 1) := by decide +kernel
theorem dX11_expected_145 : decode cX11_expected 145 = .ok (.irem, 1) := by decide +kernel
theorem dX11_expected_146 : decode cX11_expected 146 = .ok (.iaload, 1) := by decide +kernel
theorem dX11_expected_147 : decode cX11_expected 147 = .ok (.i2l, 1) := by decide +kernel
theorem dX11_expected_148 : decode cX11_expected 148 = .ok (.goto 16, 3) := by decide +kernel
theorem dX11_expected_151 : decode cX11_expected 151 = .ok (.bipush 16, 2) := by decide +kernel
theorem dX11_expected_153 : decode cX11_expected 153 = .ok (.aload_n 0, 1) := by decide +kernel
theorem dX11_expected_154 : decode cX11_expected 154 = .ok (.getfield 28, 3) := by decide +kernel
theorem dX11_expected_157 : decode cX11_expected 157 = .ok (.iload 9, 2) := by decide +kernel
theorem dX11_expected_159 : decode cX11_expected 159 = .ok (.iconst 2, 1) := by decide +kernel
theorem dX11_expected_160 : decode cX11_expected 160 = .ok (.irem, 1) := by decide +kernel
theorem dX11_expected_161 : decode cX11_expected 161 = .ok (.iaload, 1) := by decide +kernel
theorem dX11_expected_162 : decode cX11_expected 162 = .ok (.isub, 1) := by decide +kernel
theorem dX11_expected_163 : decode cX11_expected 163 = .ok (.i2l, 1) := by decide +kernel
theorem dX11_expected_164 : decode cX11_expected 164 = .ok (.lmul, 1) := by decide +kernel
theorem dX11_expected_165 : decode cX11_expected 165 = .ok (.lstore 7, 2) := by decide +kernel
theorem dX11_expected_167 : decode cX11_expected 167 = .ok (.iinc 9 1, 3) := by decide +kernel
theorem dX11_expected_170 : decode cX11_expected 170 = .ok (.goto (-93), 3) := by decide +kernel
theorem dX11_expected_173 : decode cX11_expected 173 = .ok (.lload 7, 2) := by decide +kernel
theorem dX11_expected_175 : decode cX11_expected 175 = .ok (.lconst 0, 1) := by decide +kernel
theorem dX11_expected_176 : decode cX11_expected 176 = .ok (.lcmp, 1) := by decide +kernel
theorem dX11_expected_177 : decode cX11_expected 177 = .ok (.ifCond .ne 6, 3) := by decide +kernel
theorem dX11_expected_180 : decode cX11_expected 180 = .ok (.goto 49, 3) := by decide +kernel
theorem dX11_expected_183 : decode cX11_expected 183 = .ok (.aload_n 0, 1) := by decide +kernel
theorem dX11_expected_184 : decode cX11_expected 184 = .ok (.iload 6, 2) := by decide +kernel
theorem dX11_expected_186 : decode cX11_expected 186 = .ok (.aload_n 0, 1) := by decide +kernel
theorem dX11_expected_187 : decode cX11_expected 187 = .ok (.getfield 202, 3) := by decide +kernel
theorem dX11_expected_190 : decode cX11_expected 190 = .ok (.invokevirtual 416, 3) := by decide +kernel
theorem dX11_expected_193 : decode cX11_expected 193 = .ok (.lload 4, 2) := by decide +kernel
theorem dX11_expected_195 : decode cX11_expected 195 = .ok (.lload 7, 2) := by decide +kernel
theorem dX11_expected_197 : decode cX11_expected 197 = .ok (.iload_n 1, 1) := by decide +kernel
theorem dX11_expected_198 : decode cX11_expected 198 = .ok (.ifCond .ne 10, 3) := by decide +kernel
theorem dX11_expected_201 : decode cX11_expected 201 = .ok (.aload_n 0, 1) := by decide +kernel
theorem dX11_expected_202 : decode cX11_expected 202 = .ok (.getfield 389, 3) := by decide +kernel
theorem dX11_expected_205 : decode cX11_expected 205 = .ok (.goto 19, 3) := by decide +kernel
theorem dX11_expected_208 : decode cX11_expected 208 = .ok (.iload_n 1, 1) := by decide +kernel
theorem dX11_expected_209 : decode cX11_expected 209 = .ok (.iconst 1, 1) := by decide +kernel
theorem dX11_expected_210 : decode cX11_expected 210 = .ok (.if_icmp .ne 10, 3) := by decide +kernel
theorem dX11_expected_213 : decode cX11_expected 213 = .ok (.aload_n 0, 1) := by decide +kernel
theorem dX11_expected_214 : decode cX11_expected 214 = .ok (.getfield 398, 3) := by decide +kernel
theorem dX11_expected_217 : decode cX11_expected 217 = .ok (.goto 7, 3) := by decide +kernel
theorem dX11_expected_220 : decode cX11_expected 220 = .ok (.aload_n 0, 1) := by decide +kernel
theorem dX11_expected_221 : decode cX11_expected 221 = .ok (.getfield 392, 3) := by decide +kernel
theorem dX11_expected_224 : decode cX11_expected 224 = .ok (.i2l, 1) := by decide +kernel
theorem dX11_expected_225 : decode cX11_expected 225 = .ok (.lmul, 1) := by decide +kernel
theorem dX11_expected_226 : decode cX11_expected 226 = .ok (.ladd, 1) := by decide +kernel
theorem dX11_expected_227 : decode cX11_expected 227 = .ok (.lstore 4, 2) := by decide +kernel
theorem dX11_expected_229 : decode cX11_expected 229 = .ok (.iinc 6 1, 3) := by decide +kernel
theorem dX11_expected_232 : decode cX11_expected 232 = .ok (.goto (-169), 3) := by decide +kernel
theorem dX11_expected_235 : decode cX11_expected 235 = .ok (.lload 4, 2) := by decide +kernel
theorem dX11_expected_237 : decode cX11_expected 237 = .ok (.lreturn, 1) := by decide +kernel
theorem dX11_round_0 : decode cX11_round 0 = .ok (.aload_n 0, 1) := by decide +kernel
theorem dX11_round_1 : decode cX11_round 1 = .ok (.iconst 0, 1) := by decide +kernel
theorem dX11_round_2 : decode cX11_round 2 = .ok (.putfield 163, 3) := by decide +kernel
theorem dX11_round_5 : decode cX11_round 5 = .ok (.aload_n 0, 1) := by decide +kernel
theorem dX11_round_6 : decode cX11_round 6 = .ok (.iload_n 1, 1) := by decide +kernel
theorem dX11_round_7 : decode cX11_round 7 = .ok (.invokevirtual 189, 3) := by decide +kernel
theorem dX11_round_10 : decode cX11_round 10 = .ok (.ifCond .eq 12, 3) := by decide +kernel
theorem dX11_round_13 : decode cX11_round 13 = .ok (.iload_n 2, 1) := by decide +kernel
theorem dX11_round_14 : decode cX11_round 14 = .ok (.iconst 1, 1) := by decide +kernel
theorem dX11_round_15 : decode cX11_round 15 = .ok (.iconst 3, 1) := by decide +kernel
theorem dX11_round_16 : decode cX11_round 16 = .ok (.invokestatic 172, 3) := by decide +kernel
theorem dX11_round_19 : decode cX11_round 19 = .ok (.ifCond .ne 5, 3) := by decide +kernel
theorem dX11_round_22 : decode cX11_round 22 = .ok (.iconst (-1), 1) := by decide +kernel
theorem dX11_round_23 : decode cX11_round 23 = .ok (.ireturn, 1) := by decide +kernel
theorem dX11_round_24 : decode cX11_round 24 = .ok (.iconst 1, 1) := by decide +kernel
theorem dX11_round_25 : decode cX11_round 25 = .ok (.aload_n 0, 1) := by decide +kernel
theorem dX11_round_26 : decode cX11_round 26 = .ok (.getfield 169, 3) := by decide +kernel
theorem dX11_round_29 : decode cX11_round 29 = .ok (.aload_n 0, 1) := by decide +kernel
theorem dX11_round_30 : decode cX11_round 30 = .ok (.getfield 192, 3) := by decide +kernel
theorem dX11_round_33 : decode cX11_round 33 = .ok (.imul, 1) := by decide +kernel
theorem dX11_round_34 : decode cX11_round 34 = .ok (.iadd, 1) := by decide +kernel
theorem dX11_round_35 : decode cX11_round 35 = .ok (.istore_n 3, 1) := by decide +kernel
theorem dX11_round_36 : decode cX11_round 36 = .ok (.iconst 1, 1) := by decide +kernel
theorem dX11_round_37 : decode cX11_round 37 = .ok (.istore 4, 2) := by decide +kernel
theorem dX11_round_39 : decode cX11_round 39 = .ok (.iconst 0, 1) := by decide +kernel
theorem dX11_round_40 : decode cX11_round 40 = .ok (.istore 5, 2) := by decide +kernel
theorem dX11_round_42 : decode cX11_round 42 = .ok (.iload 5, 2) := by decide +kernel
theorem dX11_round_44 : decode cX11_round 44 = .ok (.iload_n 2, 1) := by decide +kernel
theorem dX11_round_45 : decode cX11_round 45 = .ok (.if_icmp .ge 15, 3) := by decide +kernel
theorem dX11_round_48 : decode cX11_round 48 = .ok (.iload 4, 2) := by decide +kernel
theorem dX11_round_50 : decode cX11_round 50 = .ok (.iload_n 3, 1) := by decide +kernel
theorem dX11_round_51 : decode cX11_round 51 = .ok (.imul, 1) := by decide +kernel
theorem dX11_round_52 : decode cX11_round 52 = .ok (.istore 4, 2) := by decide +kernel
theorem dX11_round_54 : decode cX11_round 54 = .ok (.iinc 5 1, 3) := by decide +kernel
theorem dX11_round_57 : decode cX11_round 57 = .ok (.goto (-15), 3) := by decide +kernel
theorem dX11_round_60 : decode cX11_round 60 = .ok (.iload 4, 2) := by decide +kernel
theorem dX11_round_62 : decode cX11_round 62 = .ok (.sipush 1200, 3) := by decide +kernel
theorem dX11_round_65 : decode cX11_round 65 = .ok (.if_icmp .le 5, 3) := by decide +kernel
theorem dX11_round_68 : decode cX11_round 68 = .ok (.iconst (-1), 1) := by decide +kernel
theorem dX11_round_69 : decode cX11_round 69 = .ok (.ireturn, 1) := by decide +kernel
theorem dX11_round_70 : decode cX11_round 70 = .ok (.aload_n 0, 1) := by decide +kernel
theorem dX11_round_71 : decode cX11_round 71 = .ok (.invokevirtual 199, 3) := by decide +kernel
theorem dX11_round_74 : decode cX11_round 74 = .ok (.aload_n 0, 1) := by decide +kernel
theorem dX11_round_75 : decode cX11_round 75 = .ok (.getfield 202, 3) := by decide +kernel
theorem dX11_round_78 : decode cX11_round 78 = .ok (.istore 5, 2) := by decide +kernel
theorem dX11_round_80 : decode cX11_round 80 = .ok (.iconst 0, 1) := by decide +kernel
theorem dX11_round_81 : decode cX11_round 81 = .ok (.istore 6, 2) := by decide +kernel
theorem dX11_round_83 : decode cX11_round 83 = .ok (.iload 6, 2) := by decide +kernel
theorem dX11_round_85 : decode cX11_round 85 = .ok (.bipush 108, 2) := by decide +kernel
theorem dX11_round_87 : decode cX11_round 87 = .ok (.if_icmp .ge 23, 3) := by decide +kernel
theorem dX11_round_90 : decode cX11_round 90 = .ok (.aload_n 0, 1) := by decide +kernel
theorem dX11_round_91 : decode cX11_round 91 = .ok (.getfield 154, 3) := by decide +kernel
theorem dX11_round_94 : decode cX11_round 94 = .ok (.iload 6, 2) := by decide +kernel
theorem dX11_round_96 : decode cX11_round 96 = .ok (.aload_n 0, 1) := by decide +kernel
theorem dX11_round_97 : decode cX11_round 97 = .ok (.getfield 43, 3) := by decide +kernel
theorem dX11_round_100 : decode cX11_round 100 = .ok (.iload 6, 2) := by decide +kernel
theorem dX11_round_102 : decode cX11_round 102 = .ok (.iaload, 1) := by decide +kernel
theorem dX11_round_103 : decode cX11_round 103 = .ok (.iastore, 1) := by decide +kernel
theorem dX11_round_104 : decode cX11_round 104 = .ok (.iinc 6 1, 3) := by decide +kernel
theorem dX11_round_107 : decode cX11_round 107 = .ok (.goto (-24), 3) := by decide +kernel
theorem dX11_round_110 : decode cX11_round 110 = .ok (.aload_n 0, 1) := by decide +kernel
theorem dX11_round_111 : decode cX11_round 111 = .ok (.iload_n 1, 1) := by decide +kernel
theorem dX11_round_112 : decode cX11_round 112 = .ok (.invokevirtual 424, 3) := by decide +kernel
theorem dX11_round_115 : decode cX11_round 115 = .ok (.pop, 1) := by decide +kernel
theorem dX11_round_116 : decode cX11_round 116 = .ok (.aload_n 0, 1) := by decide +kernel
theorem dX11_round_117 : decode cX11_round 117 = .ok (.getfield 202, 3) := by decide +kernel
theorem dX11_round_120 : decode cX11_round 120 = .ok (.istore 6, 2) := by decide +kernel
theorem dX11_round_122 : decode cX11_round 122 = .ok (.iconst (-1), 1) := by decide +kernel
theorem dX11_round_123 : decode cX11_round 123 = .ok (.istore 7, 2) := by decide +kernel
theorem dX11_round_125 : decode cX11_round 125 = .ok (.iconst 0, 1) := by decide +kernel
theorem dX11_round_126 : decode cX11_round 126 = .ok (.istore 8, 2) := by decide +kernel
theorem dX11_round_128 : decode cX11_round 128 = .ok (.iload 8, 2) := by decide +kernel
theorem dX11_round_130 : decode cX11_round 130 = .ok (.iload 4, 2) := by decide +kernel
theorem dX11_round_132 : decode cX11_round 132 = .ok (.if_icmp .ge 252, 3) := by decide +kernel
theorem dX11_round_135 : decode cX11_round 135 = .ok (.iload 6, 2) := by decide +kernel
theorem dX11_round_137 : decode cX11_round 137 = .ok (.istore 9, 2) := by decide +kernel
theorem dX11_round_139 : decode cX11_round 139 = .ok (.iload 8, 2) := by decide +kernel
theorem dX11_round_141 : decode cX11_round 141 = .ok (.istore 10, 2) := by decide +kernel
theorem dX11_round_143 : decode cX11_round 143 = .ok (.iload 4, 2) := by decide +kernel
theorem dX11_round_145 : decode cX11_round 145 = .ok (.istore 11, 2) := by decide +kernel
theorem dX11_round_147 : decode cX11_round 147 = .ok (.iconst 0, 1) := by decide +kernel
theorem dX11_round_148 : decode cX11_round 148 = .ok (.istore 12, 2) := by decide +kernel
theorem dX11_round_150 : decode cX11_round 150 = .ok (.iload 12, 2) := by decide +kernel
theorem dX11_round_152 : decode cX11_round 152 = .ok (.iload_n 2, 1) := by decide +kernel
theorem dX11_round_153 : decode cX11_round 153 = .ok (.if_icmp .ge 67, 3) := by decide +kernel
theorem dX11_round_156 : decode cX11_round 156 = .ok (.iload 11, 2) := by decide +kernel
theorem dX11_round_158 : decode cX11_round 158 = .ok (.iload_n 3, 1) := by decide +kernel
theorem dX11_round_159 : decode cX11_round 159 = .ok (.idiv, 1) := by decide +kernel
theorem dX11_round_160 : decode cX11_round 160 = .ok (.istore 11, 2) := by decide +kernel
theorem dX11_round_162 : decode cX11_round 162 = .ok (.iload 10, 2) := by decide +kernel
theorem dX11_round_164 : decode cX11_round 164 = .ok (.iload 11, 2) := by decide +kernel
theorem dX11_round_166 : decode cX11_round 166 = .ok (.idiv, 1) := by decide +kernel
theorem dX11_round_167 : decode cX11_round 167 = .ok (.istore 13, 2) := by decide +kernel
theorem dX11_round_169 : decode cX11_round 169 = .ok (.iload 10, 2) := by decide +kernel
theorem dX11_round_171 : decode cX11_round 171 = .ok (.iload 11, 2) := by decide +kernel
theorem dX11_round_173 : decode cX11_round 173 = .ok (.irem, 1) := by decide +kernel
theorem dX11_round_174 : decode cX11_round 174 = .ok (.istore 10, 2) := by decide +kernel
theorem dX11_round_176 : decode cX11_round 176 = .ok (.iload 13, 2) := by decide +kernel
theorem dX11_round_178 : decode cX11_round 178 = .ok (.ifCond .ne 6, 3) := by decide +kernel
theorem dX11_round_181 : decode cX11_round 181 = .ok (.goto 33, 3) := by decide +kernel
theorem dX11_round_184 : decode cX11_round 184 = .ok (.aload_n 0, 1) := by decide +kernel
theorem dX11_round_185 : decode cX11_round 185 = .ok (.iload 9, 2) := by decide +kernel
theorem dX11_round_187 : decode cX11_round 187 = .ok (.iload 12, 2) := by decide +kernel
theorem dX11_round_189 : decode cX11_round 189 = .ok (.iload_n 1, 1) := by decide +kernel
theorem dX11_round_190 : decode cX11_round 190 = .ok (.iload 13, 2) := by decide +kernel
theorem dX11_round_192 : decode cX11_round 192 = .ok (.iconst 1, 1) := by decide +kernel
theorem dX11_round_193 : decode cX11_round 193 = .ok (.isub, 1) := by decide +kernel
theorem dX11_round_194 : decode cX11_round 194 = .ok (.aload_n 0, 1) := by decide +kernel
theorem dX11_round_195 : decode cX11_round 195 = .ok (.getfield 192, 3) := by decide +kernel
theorem dX11_round_198 : decode cX11_round 198 = .ok (.idiv, 1) := by decide +kernel
theorem dX11_round_199 : decode cX11_round 199 = .ok (.iload 13, 2) := by decide +kernel
theorem dX11_round_201 : decode cX11_round 201 = .ok (.iconst 1, 1) := by decide +kernel
theorem dX11_round_202 : decode cX11_round 202 = .ok (.isub, 1) := by decide +kernel
theorem dX11_round_203 : decode cX11_round 203 = .ok (.aload_n 0, 1) := by decide +kernel
theorem dX11_round_204 : decode cX11_round 204 = .ok (.getfield 192, 3) := by decide +kernel
theorem dX11_round_207 : decode cX11_round 207 = .ok (.irem, 1) := by decide +kernel
theorem dX11_round_208 : decode cX11_round 208 = .ok (.invokevirtual 208, 3) := by decide +kernel
theorem dX11_round_211 : decode cX11_round 211 = .ok (.iinc 9 1, 3) := by decide +kernel
theorem dX11_round_214 : decode cX11_round 214 = .ok (.iinc 12 1, 3) := by decide +kernel
theorem dX11_round_217 : decode cX11_round 217 = .ok (.goto (-67), 3) := by decide +kernel
theorem dX11_round_220 : decode cX11_round 220 = .ok (.aload_n 0, 1) := by decide +kernel
theorem dX11_round_221 : decode cX11_round 221 = .ok (.iconst 0, 1) := by decide +kernel
theorem dX11_round_222 : decode cX11_round 222 = .ok (.iload 9, 2) := by decide +kernel
theorem dX11_round_224 : decode cX11_round 224 = .ok (.invokevirtual 416, 3) := by decide +kernel
theorem dX11_round_227 : decode cX11_round 227 = .ok (.iload 7, 2) := by decide +kernel
theorem dX11_round_229 : decode cX11_round 229 = .ok (.ifCond .lt 35, 3) := by decide +kernel
theorem dX11_round_232 : decode cX11_round 232 = .ok (.aload_n 0, 1) := by decide +kernel
theorem dX11_round_233 : decode cX11_round 233 = .ok (.getfield 389, 3) := by decide +kernel
theorem dX11_round_236 : decode cX11_round 236 = .ok (.iload 7, 2) := by decide +kernel
theorem dX11_round_238 : decode cX11_round 238 = .ok (.if_icmp .lt 140, 3) := by decide +kernel
theorem dX11_round_241 : decode cX11_round 241 = .ok (.aload_n 0, 1) := by decide +kernel
theorem dX11_round_242 : decode cX11_round 242 = .ok (.getfield 389, 3) := by decide +kernel
theorem dX11_round_245 : decode cX11_round 245 = .ok (.iload 7, 2) := by decide +kernel
theorem dX11_round_247 : decode cX11_round 247 = .ok (.if_icmp .ne 17, 3) := by decide +kernel
theorem dX11_round_250 : decode cX11_round 250 = .ok (.aload_n 0, 1) := by decide +kernel
theorem dX11_round_251 : decode cX11_round 251 = .ok (.getfield 398, 3) := by decide +kernel
theorem dX11_round_254 : decode cX11_round 254 = .ok (.aload_n 0, 1) := by decide +kernel
theorem dX11_round_255 : decode cX11_round 255 = .ok (.getfield 427, 3) := by decide +kernel
theorem dX11_round_258 : decode cX11_round 258 = .ok (.if_icmp .gt 6, 3) := by decide +kernel
theorem dX11_round_261 : decode cX11_round 261 = .ok (.goto 117, 3) := by decide +kernel
theorem dX11_round_264 : decode cX11_round 264 = .ok (.aload_n 0, 1) := by decide +kernel
theorem dX11_round_265 : decode cX11_round 265 = .ok (.getfield 389, 3) := by decide +kernel
theorem dX11_round_268 : decode cX11_round 268 = .ok (.istore 7, 2) := by decide +kernel
theorem dX11_round_270 : decode cX11_round 270 = .ok (.aload_n 0, 1) := by decide +kernel
theorem dX11_round_271 : decode cX11_round 271 = .ok (.aload_n 0, 1) := by decide +kernel
theorem dX11_round_272 : decode cX11_round 272 = .ok (.getfield 398, 3) := by decide +kernel
theorem dX11_round_275 : decode cX11_round 275 = .ok (.putfield 427, 3) := by decide +kernel
theorem dX11_round_278 : decode cX11_round 278 = .ok (.iload 4, 2) := by decide +kernel
theorem dX11_round_280 : decode cX11_round 280 = .ok (.istore 11, 2) := by decide +kernel
theorem dX11_round_282 : decode cX11_round 282 = .ok (.iload 8, 2) := by decide +kernel
theorem dX11_round_284 : decode cX11_round 284 = .ok (.istore 10, 2) := by decide +kernel
theorem dX11_round_286 : decode cX11_round 286 = .ok (.iconst 0, 1) := by decide +kernel
theorem dX11_round_287 : decode cX11_round 287 = .ok (.istore 12, 2) := by decide +kernel
theorem dX11_round_289 : decode cX11_round 289 = .ok (.iload 12, 2) := by decide +kernel
theorem dX11_round_291 : decode cX11_round 291 = .ok (.iconst 3, 1) := by decide +kernel
theorem dX11_round_292 : decode cX11_round 292 = .ok (.if_icmp .ge 86, 3) := by decide +kernel
theorem dX11_round_295 : decode cX11_round 295 = .ok (.iload 12, 2) := by decide +kernel
theorem dX11_round_297 : decode cX11_round 297 = .ok (.iload_n 2, 1) := by decide +kernel
theorem dX11_round_298 : decode cX11_round 298 = .ok (.if_icmp .ge 10, 3) := by decide +kernel
theorem dX11_round_301 : decode cX11_round 301 = .ok (.iload 11, 2) := by decide +kernel
theorem dX11_round_303 : decode cX11_round 303 = .ok (.iload_n 3, 1) := by decide +kernel
theorem dX11_round_304 : decode cX11_round 304 = .ok (.idiv, 1) := by decide +kernel
theorem dX11_round_305 : decode cX11_round 305 = .ok (.goto 4, 3) := by decide +kernel
theorem dX11_round_308 : decode cX11_round 308 = .ok (.iconst 1, 1) := by decide +kernel
theorem dX11_round_309 : decode cX11_round 309 = .ok (.istore 11, 2) := by decide +kernel
theorem dX11_round_311 : decode cX11_round 311 = .ok (.iload 12, 2) := by decide +kernel
theorem dX11_round_313 : decode cX11_round 313 = .ok (.iload_n 2, 1) := by decide +kernel
theorem dX11_round_314 : decode cX11_round 314 = .ok (.if_icmp .ge 11, 3) := by decide +kernel
theorem dX11_round_317 : decode cX11_round 317 = .ok (.iload 10, 2) := by decide +kernel
theorem dX11_round_319 : decode cX11_round 319 = .ok (.iload 11, 2) := by decide +kernel
theorem dX11_round_321 : decode cX11_round 321 = .ok (.idiv, 1) := by decide +kernel
theorem dX11_round_322 : decode cX11_round 322 = .ok (.goto 4, 3) := by decide +kernel
theorem dX11_round_325 : decode cX11_round 325 = .ok (.iconst 0, 1) := by decide +kernel
theorem dX11_round_326 : decode cX11_round 326 = .ok (.istore 13, 2) := by decide +kernel
theorem dX11_round_328 : decode cX11_round 328 = .ok (.iload 10, 2) := by decide +kernel
theorem dX11_round_330 : decode cX11_round 330 = .ok (.iload 11, 2) := by decide +kernel
theorem dX11_round_332 : decode cX11_round 332 = .ok (.irem, 1) := by decide +kernel
theorem dX11_round_333 : decode cX11_round 333 = .ok (.istore 10, 2) := by decide +kernel
theorem dX11_round_335 : decode cX11_round 335 = .ok (.aload_n 0, 1) := by decide +kernel
theorem dX11_round_336 : decode cX11_round 336 = .ok (.getfield 151, 3) := by decide +kernel
theorem dX11_round_339 : decode cX11_round 339 = .ok (.iload 12, 2) := by decide +kernel
theorem dX11_round_341 : decode cX11_round 341 = .ok (.iload 13, 2) := by decide +kernel
theorem dX11_round_343 : decode cX11_round 343 = .ok (.ifCond .ne 7, 3) := by decide +kernel
theorem dX11_round_346 : decode cX11_round 346 = .ok (.iconst (-1), 1) := by decide +kernel
theorem dX11_round_347 : decode cX11_round 347 = .ok (.goto 24, 3) := by decide +kernel
theorem dX11_round_350 : decode cX11_round 350 = .ok (.iconst 4, 1) := by decide +kernel
theorem dX11_round_351 : decode cX11_round 351 = .ok (.iload 13, 2) := by decide +kernel
theorem dX11_round_353 : decode cX11_round 353 = .ok (.iconst 1, 1) := by decide +kernel
theorem dX11_round_354 : decode cX11_round 354 = .ok (.isub, 1) := by decide +kernel
theorem dX11_round_355 : decode cX11_round 355 = .ok (.aload_n 0, 1) := by decide +kernel
theorem dX11_round_356 : decode cX11_round 356 = .ok (.getfield 192, 3) := by decide +kernel
theorem dX11_round_359 : decode cX11_round 359 = .ok (.idiv, 1) := by decide +kernel
theorem dX11_round_360 : decode cX11_round 360 = .ok (.imul, 1) := by decide +kernel
theorem dX11_round_361 : decode cX11_round 361 = .ok (.iload 13, 2) := by decide +kernel
theorem dX11_round_363 : decode cX11_round 363 = .ok (.iconst 1, 1) := by decide +kernel
theorem dX11_round_364 : decode cX11_round 364 = .ok (.isub, 1) := by decide +kernel
theorem dX11_round_365 : decode cX11_round 365 = .ok (.aload_n 0, 1) := by decide +kernel
theorem dX11_round_366 : decode cX11_round 366 = .ok (.getfield 192, 3) := by decide +kernel
theorem dX11_round_369 : decode cX11_round 369 = .ok (.irem, 1) := by decide +kernel
theorem dX11_round_370 : decode cX11_round 370 = .ok (.iadd, 1) := by decide +kernel
theorem dX11_round_371 : decode cX11_round 371 = .ok (.iastore, 1) := by decide +kernel
theorem dX11_round_372 : decode cX11_round 372 = .ok (.iinc 12 1, 3) := by decide +kernel
theorem dX11_round_375 : decode cX11_round 375 = .ok (.goto (-86), 3) := by decide +kernel
theorem dX11_round_378 : decode cX11_round 378 = .ok (.iinc 8 1, 3) := by decide +kernel
theorem dX11_round_381 : decode cX11_round 381 = .ok (.goto (-253), 3) := by decide +kernel
theorem dX11_round_384 : decode cX11_round 384 = .ok (.aload_n 0, 1) := by decide +kernel
theorem dX11_round_385 : decode cX11_round 385 = .ok (.iload 5, 2) := by decide +kernel
theorem dX11_round_387 : decode cX11_round 387 = .ok (.putfield 202, 3) := by decide +kernel
theorem dX11_round_390 : decode cX11_round 390 = .ok (.iconst 0, 1) := by decide +kernel
theorem dX11_round_391 : decode cX11_round 391 = .ok (.istore 8, 2) := by decide +kernel
theorem dX11_round_393 : decode cX11_round 393 = .ok (.iload 8, 2) := by decide +kernel
theorem dX11_round_395 : decode cX11_round 395 = .ok (.bipush 108, 2) := by decide +kernel
theorem dX11_round_397 : decode cX11_round 397 = .ok (.if_icmp .ge 23, 3) := by decide +kernel
theorem dX11_round_400 : decode cX11_round 400 = .ok (.aload_n 0, 1) := by decide +kernel
theorem dX11_round_401 : decode cX11_round 401 = .ok (.getfield 43, 3) := by decide +kernel
theorem dX11_round_404 : decode cX11_round 404 = .ok (.iload 8, 2) := by decide +kernel
theorem dX11_round_406 : decode cX11_round 406 = .ok (.aload_n 0, 1) := by decide +kernel
theorem dX11_round_407 : decode cX11_round 407 = .ok (.getfield 154, 3) := by decide +kernel
theorem dX11_round_410 : decode cX11_round 410 = .ok (.iload 8, 2) := by decide +kernel
theorem dX11_round_412 : decode cX11_round 412 = .ok (.iaload, 1) := by decide +kernel
theorem dX11_round_413 : decode cX11_round 413 = .ok (.iastore, 1) := by decide +kernel
theorem dX11_round_414 : decode cX11_round 414 = .ok (.iinc 8 1, 3) := by decide +kernel
theorem dX11_round_417 : decode cX11_round 417 = .ok (.goto (-24), 3) := by decide +kernel
theorem dX11_round_420 : decode cX11_round 420 = .ok (.aload_n 0, 1) := by decide +kernel
theorem dX11_round_421 : decode cX11_round 421 = .ok (.iconst 1, 1) := by decide +kernel
theorem dX11_round_422 : decode cX11_round 422 = .ok (.putfield 430, 3) := by decide +kernel
theorem dX11_round_425 : decode cX11_round 425 = .ok (.aload_n 0, 1) := by decide +kernel
theorem dX11_round_426 : decode cX11_round 426 = .ok (.iload 4, 2) := by decide +kernel
theorem dX11_round_428 : decode cX11_round 428 = .ok (.putfield 433, 3) := by decide +kernel
theorem dX11_round_431 : decode cX11_round 431 = .ok (.iload 7, 2) := by decide +kernel
theorem dX11_round_433 : decode cX11_round 433 = .ok (.ireturn, 1) := by decide +kernel
theorem dX11_rounded_0 : decode cX11_rounded 0 = .ok (.aload_n 0, 1) := by decide +kernel
theorem dX11_rounded_1 : decode cX11_rounded 1 = .ok (.iconst 0, 1) := by decide +kernel
theorem dX11_rounded_2 : decode cX11_rounded 2 = .ok (.putfield 163, 3) := by decide +kernel
theorem dX11_rounded_5 : decode cX11_rounded 5 = .ok (.aload_n 0, 1) := by decide +kernel
theorem dX11_rounded_6 : decode cX11_rounded 6 = .ok (.getfield 430, 3) := by decide +kernel
theorem dX11_rounded_9 : decode cX11_rounded 9 = .ok (.ifCond .eq 12, 3) := by decide +kernel
theorem dX11_rounded_12 : decode cX11_rounded 12 = .ok (.iload_n 1, 1) := by decide +kernel
theorem dX11_rounded_13 : decode cX11_rounded 13 = .ok (.iconst 0, 1) := by decide +kernel
theorem dX11_rounded_14 : decode cX11_rounded 14 = .ok (.iconst 4, 1) := by decide +kernel
theorem dX11_rounded_15 : decode cX11_rounded 15 = .ok (.invokestatic 172, 3) := by decide +kernel
theorem dX11_rounded_18 : decode cX11_rounded 18 = .ok (.ifCond .ne 7, 3) := by decide +kernel
theorem dX11_rounded_21 : decode cX11_rounded 21 = .ok (.ldc_w 419, 3) := by decide +kernel
theorem dX11_rounded_24 : decode cX11_rounded 24 = .ok (.ireturn, 1) := by decide +kernel
theorem dX11_rounded_25 : decode cX11_rounded 25 = .ok (.iload_n 1, 1) := by decide +kernel
theorem dX11_rounded_26 : decode cX11_rounded 26 = .ok (.ifCond .ne 10, 3) := by decide +kernel
theorem dX11_rounded_29 : decode cX11_rounded 29 = .ok (.aload_n 0, 1) := by decide +kernel
theorem dX11_rounded_30 : decode cX11_rounded 30 = .ok (.getfield 427, 3) := by decide +kernel
theorem dX11_rounded_33 : decode cX11_rounded 33 = .ok (.goto 23, 3) := by decide +kernel
theorem dX11_rounded_36 : decode cX11_rounded 36 = .ok (.iload_n 1, 1) := by decide +kernel
theorem dX11_rounded_37 : decode cX11_rounded 37 = .ok (.iconst 4, 1) := by decide +kernel
theorem dX11_rounded_38 : decode cX11_rounded 38 = .ok (.if_icmp .ne 10, 3) := by decide +kernel
theorem dX11_rounded_41 : decode cX11_rounded 41 = .ok (.aload_n 0, 1) := by decide +kernel
theorem dX11_rounded_42 : decode cX11_rounded 42 = .ok (.getfield 433, 3) := by decide +kernel
theorem dX11_rounded_45 : decode cX11_rounded 45 = .ok (.goto 11, 3) := by decide +kernel
theorem dX11_rounded_48 : decode cX11_rounded 48 = .ok (.aload_n 0, 1) := by decide +kernel
theorem dX11_rounded_49 : decode cX11_rounded 49 = .ok (.getfield 151, 3) := by decide +kernel
theorem dX11_rounded_52 : decode cX11_rounded 52 = .ok (.iload_n 1, 1) := by decide +kernel
theorem dX11_rounded_53 : decode cX11_rounded 53 = .ok (.iconst 1, 1) := by decide +kernel
theorem dX11_rounded_54 : decode cX11_rounded 54 = .ok (.isub, 1) := by decide +kernel
theorem dX11_rounded_55 : decode cX11_rounded 55 = .ok (.iaload, 1) := by decide +kernel
theorem dX11_rounded_56 : decode cX11_rounded 56 = .ok (.ireturn, 1) := by decide +kernel
theorem dX11_report_0 : decode cX11_report 0 = .ok (.aload_n 0, 1) := by decide +kernel
theorem dX11_report_1 : decode cX11_report 1 = .ok (.iconst 0, 1) := by decide +kernel
theorem dX11_report_2 : decode cX11_report 2 = .ok (.putfield 163, 3) := by decide +kernel
theorem dX11_report_5 : decode cX11_report 5 = .ok (.aload_n 0, 1) := by decide +kernel
theorem dX11_report_6 : decode cX11_report 6 = .ok (.getfield 436, 3) := by decide +kernel
theorem dX11_report_9 : decode cX11_report 9 = .ok (.bipush 40, 2) := by decide +kernel
theorem dX11_report_11 : decode cX11_report 11 = .ok (.if_icmp .eq 29, 3) := by decide +kernel
theorem dX11_report_14 : decode cX11_report 14 = .ok (.aload_n 0, 1) := by decide +kernel
theorem dX11_report_15 : decode cX11_report 15 = .ok (.iload_n 1, 1) := by decide +kernel
theorem dX11_report_16 : decode cX11_report 16 = .ok (.invokevirtual 176, 3) := by decide +kernel
theorem dX11_report_19 : decode cX11_report 19 = .ok (.ifCond .eq 21, 3) := by decide +kernel
theorem dX11_report_22 : decode cX11_report 22 = .ok (.iload_n 2, 1) := by decide +kernel
theorem dX11_report_23 : decode cX11_report 23 = .ok (.invokestatic 195, 3) := by decide +kernel
theorem dX11_report_26 : decode cX11_report 26 = .ok (.ifCond .eq 14, 3) := by decide +kernel
theorem dX11_report_29 : decode cX11_report 29 = .ok (.iload_n 3, 1) := by decide +kernel
theorem dX11_report_30 : decode cX11_report 30 = .ok (.iconst 0, 1) := by decide +kernel
theorem dX11_report_31 : decode cX11_report 31 = .ok (.sipush 500, 3) := by decide +kernel
theorem dX11_report_34 : decode cX11_report 34 = .ok (.invokestatic 172, 3) := by decide +kernel
theorem dX11_report_37 : decode cX11_report 37 = .ok (.ifCond .ne 5, 3) := by decide +kernel
theorem dX11_report_40 : decode cX11_report 40 = .ok (.iconst (-1), 1) := by decide +kernel
theorem dX11_report_41 : decode cX11_report 41 = .ok (.ireturn, 1) := by decide +kernel
theorem dX11_report_42 : decode cX11_report 42 = .ok (.aload_n 0, 1) := by decide +kernel
theorem dX11_report_43 : decode cX11_report 43 = .ok (.getfield 49, 3) := by decide +kernel
theorem dX11_report_46 : decode cX11_report 46 = .ok (.aload_n 0, 1) := by decide +kernel
theorem dX11_report_47 : decode cX11_report 47 = .ok (.getfield 436, 3) := by decide +kernel
theorem dX11_report_50 : decode cX11_report 50 = .ok (.iload_n 1, 1) := by decide +kernel
theorem dX11_report_51 : decode cX11_report 51 = .ok (.iastore, 1) := by decide +kernel
theorem dX11_report_52 : decode cX11_report 52 = .ok (.aload_n 0, 1) := by decide +kernel
theorem dX11_report_53 : decode cX11_report 53 = .ok (.getfield 52, 3) := by decide +kernel
theorem dX11_report_56 : decode cX11_report 56 = .ok (.aload_n 0, 1) := by decide +kernel
theorem dX11_report_57 : decode cX11_report 57 = .ok (.getfield 436, 3) := by decide +kernel
theorem dX11_report_60 : decode cX11_report 60 = .ok (.iload_n 2, 1) := by decide +kernel
theorem dX11_report_61 : decode cX11_report 61 = .ok (.iastore, 1) := by decide +kernel
theorem dX11_report_62 : decode cX11_report 62 = .ok (.aload_n 0, 1) := by decide +kernel
theorem dX11_report_63 : decode cX11_report 63 = .ok (.getfield 55, 3) := by decide +kernel
theorem dX11_report_66 : decode cX11_report 66 = .ok (.aload_n 0, 1) := by decide +kernel
theorem dX11_report_67 : decode cX11_report 67 = .ok (.getfield 436, 3) := by decide +kernel
theorem dX11_report_70 : decode cX11_report 70 = .ok (.iload_n 3, 1) := by decide +kernel
theorem dX11_report_71 : decode cX11_report 71 = .ok (.iastore, 1) := by decide +kernel
theorem dX11_report_72 : decode cX11_report 72 = .ok (.aload_n 0, 1) := by decide +kernel
theorem dX11_report_73 : decode cX11_report 73 = .ok (.dup, 1) := by decide +kernel
theorem dX11_report_74 : decode cX11_report 74 = .ok (.getfield 436, 3) := by decide +kernel
theorem dX11_report_77 : decode cX11_report 77 = .ok (.iconst 1, 1) := by decide +kernel
theorem dX11_report_78 : decode cX11_report 78 = .ok (.iadd, 1) := by decide +kernel
theorem dX11_report_79 : decode cX11_report 79 = .ok (.putfield 436, 3) := by decide +kernel
theorem dX11_report_82 : decode cX11_report 82 = .ok (.aload_n 0, 1) := by decide +kernel
theorem dX11_report_83 : decode cX11_report 83 = .ok (.getfield 436, 3) := by decide +kernel
theorem dX11_report_86 : decode cX11_report 86 = .ok (.iconst 1, 1) := by decide +kernel
theorem dX11_report_87 : decode cX11_report 87 = .ok (.isub, 1) := by decide +kernel
theorem dX11_report_88 : decode cX11_report 88 = .ok (.ireturn, 1) := by decide +kernel
theorem dX11_strike_0 : decode cX11_strike 0 = .ok (.aload_n 0, 1) := by decide +kernel
theorem dX11_strike_1 : decode cX11_strike 1 = .ok (.iconst 0, 1) := by decide +kernel
theorem dX11_strike_2 : decode cX11_strike 2 = .ok (.putfield 163, 3) := by decide +kernel
theorem dX11_strike_5 : decode cX11_strike 5 = .ok (.iload_n 1, 1) := by decide +kernel
theorem dX11_strike_6 : decode cX11_strike 6 = .ok (.ifCond .lt 20, 3) := by decide +kernel
theorem dX11_strike_9 : decode cX11_strike 9 = .ok (.iload_n 1, 1) := by decide +kernel
theorem dX11_strike_10 : decode cX11_strike 10 = .ok (.aload_n 0, 1) := by decide +kernel
theorem dX11_strike_11 : decode cX11_strike 11 = .ok (.getfield 436, 3) := by decide +kernel
theorem dX11_strike_14 : decode cX11_strike 14 = .ok (.if_icmp .ge 12, 3) := by decide +kernel
theorem dX11_strike_17 : decode cX11_strike 17 = .ok (.aload_n 0, 1) := by decide +kernel
theorem dX11_strike_18 : decode cX11_strike 18 = .ok (.getfield 436, 3) := by decide +kernel
theorem dX11_strike_21 : decode cX11_strike 21 = .ok (.bipush 40, 2) := by decide +kernel
theorem dX11_strike_23 : decode cX11_strike 23 = .ok (.if_icmp .ne 5, 3) := by decide +kernel
theorem dX11_strike_26 : decode cX11_strike 26 = .ok (.iconst (-1), 1) := by decide +kernel
theorem dX11_strike_27 : decode cX11_strike 27 = .ok (.ireturn, 1) := by decide +kernel
theorem dX11_strike_28 : decode cX11_strike 28 = .ok (.aload_n 0, 1) := by decide +kernel
theorem dX11_strike_29 : decode cX11_strike 29 = .ok (.getfield 49, 3) := by decide +kernel
theorem dX11_strike_32 : decode cX11_strike 32 = .ok (.aload_n 0, 1) := by decide +kernel
theorem dX11_strike_33 : decode cX11_strike 33 = .ok (.getfield 436, 3) := by decide +kernel
theorem dX11_strike_36 : decode cX11_strike 36 = .ok (.iconst (-1), 1) := by decide +kernel
theorem dX11_strike_37 : decode cX11_strike 37 = .ok (.iastore, 1) := by decide +kernel
theorem dX11_strike_38 : decode cX11_strike 38 = .ok (.aload_n 0, 1) := by decide +kernel
theorem dX11_strike_39 : decode cX11_strike 39 = .ok (.getfield 52, 3) := by decide +kernel
theorem dX11_strike_42 : decode cX11_strike 42 = .ok (.aload_n 0, 1) := by decide +kernel
theorem dX11_strike_43 : decode cX11_strike 43 = .ok (.getfield 436, 3) := by decide +kernel
theorem dX11_strike_46 : decode cX11_strike 46 = .ok (.iload_n 1, 1) := by decide +kernel
theorem dX11_strike_47 : decode cX11_strike 47 = .ok (.iastore, 1) := by decide +kernel
theorem dX11_strike_48 : decode cX11_strike 48 = .ok (.aload_n 0, 1) := by decide +kernel
theorem dX11_strike_49 : decode cX11_strike 49 = .ok (.dup, 1) := by decide +kernel
theorem dX11_strike_50 : decode cX11_strike 50 = .ok (.getfield 436, 3) := by decide +kernel
theorem dX11_strike_53 : decode cX11_strike 53 = .ok (.iconst 1, 1) := by decide +kernel
theorem dX11_strike_54 : decode cX11_strike 54 = .ok (.iadd, 1) := by decide +kernel
theorem dX11_strike_55 : decode cX11_strike 55 = .ok (.putfield 436, 3) := by decide +kernel
theorem dX11_strike_58 : decode cX11_strike 58 = .ok (.aload_n 0, 1) := by decide +kernel
theorem dX11_strike_59 : decode cX11_strike 59 = .ok (.getfield 436, 3) := by decide +kernel
theorem dX11_strike_62 : decode cX11_strike 62 = .ok (.iconst 1, 1) := by decide +kernel
theorem dX11_strike_63 : decode cX11_strike 63 = .ok (.isub, 1) := by decide +kernel
theorem dX11_strike_64 : decode cX11_strike 64 = .ok (.ireturn, 1) := by decide +kernel
theorem dX11_know_0 : decode cX11_know 0 = .ok (.iconst 0, 1) := by decide +kernel
theorem dX11_know_1 : decode cX11_know 1 = .ok (.istore_n 2, 1) := by decide +kernel
theorem dX11_know_2 : decode cX11_know 2 = .ok (.iload_n 2, 1) := by decide +kernel
theorem dX11_know_3 : decode cX11_know 3 = .ok (.bipush 40, 2) := by decide +kernel
theorem dX11_know_5 : decode cX11_know 5 = .ok (.if_icmp .ge 25, 3) := by decide +kernel
theorem dX11_know_8 : decode cX11_know 8 = .ok (.aload_n 0, 1) := by decide +kernel
theorem dX11_know_9 : decode cX11_know 9 = .ok (.getfield 58, 3) := by decide +kernel
theorem dX11_know_12 : decode cX11_know 12 = .ok (.iload_n 2, 1) := by decide +kernel
theorem dX11_know_13 : decode cX11_know 13 = .ok (.iload_n 2, 1) := by decide +kernel
theorem dX11_know_14 : decode cX11_know 14 = .ok (.iload_n 1, 1) := by decide +kernel
theorem dX11_know_15 : decode cX11_know 15 = .ok (.if_icmp .ge 7, 3) := by decide +kernel
theorem dX11_know_18 : decode cX11_know 18 = .ok (.iconst 1, 1) := by decide +kernel
theorem dX11_know_19 : decode cX11_know 19 = .ok (.goto 4, 3) := by decide +kernel
theorem dX11_know_22 : decode cX11_know 22 = .ok (.iconst 0, 1) := by decide +kernel
theorem dX11_know_23 : decode cX11_know 23 = .ok (.bastore, 1) := by decide +kernel
theorem dX11_know_24 : decode cX11_know 24 = .ok (.iinc 2 1, 3) := by decide +kernel
theorem dX11_know_27 : decode cX11_know 27 = .ok (.goto (-25), 3) := by decide +kernel
theorem dX11_know_30 : decode cX11_know 30 = .ok (.iload_n 1, 1) := by decide +kernel
theorem dX11_know_31 : decode cX11_know 31 = .ok (.iconst 1, 1) := by decide +kernel
theorem dX11_know_32 : decode cX11_know 32 = .ok (.isub, 1) := by decide +kernel
theorem dX11_know_33 : decode cX11_know 33 = .ok (.istore_n 2, 1) := by decide +kernel
theorem dX11_know_34 : decode cX11_know 34 = .ok (.iload_n 2, 1) := by decide +kernel
theorem dX11_know_35 : decode cX11_know 35 = .ok (.ifCond .lt 39, 3) := by decide +kernel
theorem dX11_know_38 : decode cX11_know 38 = .ok (.aload_n 0, 1) := by decide +kernel
theorem dX11_know_39 : decode cX11_know 39 = .ok (.getfield 49, 3) := by decide +kernel
theorem dX11_know_42 : decode cX11_know 42 = .ok (.iload_n 2, 1) := by decide +kernel
theorem dX11_know_43 : decode cX11_know 43 = .ok (.iaload, 1) := by decide +kernel
theorem dX11_know_44 : decode cX11_know 44 = .ok (.ifCond .ge 24, 3) := by decide +kernel
theorem dX11_know_47 : decode cX11_know 47 = .ok (.aload_n 0, 1) := by decide +kernel
theorem dX11_know_48 : decode cX11_know 48 = .ok (.getfield 58, 3) := by decide +kernel
theorem dX11_know_51 : decode cX11_know 51 = .ok (.iload_n 2, 1) := by decide +kernel
theorem dX11_know_52 : decode cX11_know 52 = .ok (.baload, 1) := by decide +kernel
theorem dX11_know_53 : decode cX11_know 53 = .ok (.ifCond .eq 15, 3) := by decide +kernel
theorem dX11_know_56 : decode cX11_know 56 = .ok (.aload_n 0, 1) := by decide +kernel
theorem dX11_know_57 : decode cX11_know 57 = .ok (.getfield 58, 3) := by decide +kernel
theorem dX11_know_60 : decode cX11_know 60 = .ok (.aload_n 0, 1) := by decide +kernel
theorem dX11_know_61 : decode cX11_know 61 = .ok (.getfield 52, 3) := by decide +kernel
theorem dX11_know_64 : decode cX11_know 64 = .ok (.iload_n 2, 1) := by decide +kernel
theorem dX11_know_65 : decode cX11_know 65 = .ok (.iaload, 1) := by decide +kernel
theorem dX11_know_66 : decode cX11_know 66 = .ok (.iconst 0, 1) := by decide +kernel
theorem dX11_know_67 : decode cX11_know 67 = .ok (.bastore, 1) := by decide +kernel
theorem dX11_know_68 : decode cX11_know 68 = .ok (.iinc 2 (-1), 3) := by decide +kernel
theorem dX11_know_71 : decode cX11_know 71 = .ok (.goto (-37), 3) := by decide +kernel
theorem dX11_know_74 : decode cX11_know 74 = .ok (.return_, 1) := by decide +kernel
theorem dX11_reported_0 : decode cX11_reported 0 = .ok (.aload_n 0, 1) := by decide +kernel
theorem dX11_reported_1 : decode cX11_reported 1 = .ok (.getfield 436, 3) := by decide +kernel
theorem dX11_reported_4 : decode cX11_reported 4 = .ok (.iconst 1, 1) := by decide +kernel
theorem dX11_reported_5 : decode cX11_reported 5 = .ok (.isub, 1) := by decide +kernel
theorem dX11_reported_6 : decode cX11_reported 6 = .ok (.istore_n 3, 1) := by decide +kernel
theorem dX11_reported_7 : decode cX11_reported 7 = .ok (.iload_n 3, 1) := by decide +kernel
theorem dX11_reported_8 : decode cX11_reported 8 = .ok (.ifCond .lt 45, 3) := by decide +kernel
theorem dX11_reported_11 : decode cX11_reported 11 = .ok (.aload_n 0, 1) := by decide +kernel
theorem dX11_reported_12 : decode cX11_reported 12 = .ok (.getfield 58, 3) := by decide +kernel
theorem dX11_reported_15 : decode cX11_reported 15 = .ok (.iload_n 3, 1) := by decide +kernel
theorem dX11_reported_16 : decode cX11_reported 16 = .ok (.baload, 1) := by decide +kernel
theorem dX11_reported_17 : decode cX11_reported 17 = .ok (.ifCond .eq 30, 3) := by decide +kernel
theorem dX11_reported_20 : decode cX11_reported 20 = .ok (.aload_n 0, 1) := by decide +kernel
theorem dX11_reported_21 : decode cX11_reported 21 = .ok (.getfield 49, 3) := by decide +kernel
theorem dX11_reported_24 : decode cX11_reported 24 = .ok (.iload_n 3, 1) := by decide +kernel
theorem dX11_reported_25 : decode cX11_reported 25 = .ok (.iaload, 1) := by decide +kernel
theorem dX11_reported_26 : decode cX11_reported 26 = .ok (.iload_n 1, 1) := by decide +kernel
theorem dX11_reported_27 : decode cX11_reported 27 = .ok (.if_icmp .ne 20, 3) := by decide +kernel
theorem dX11_reported_30 : decode cX11_reported 30 = .ok (.aload_n 0, 1) := by decide +kernel
theorem dX11_reported_31 : decode cX11_reported 31 = .ok (.getfield 52, 3) := by decide +kernel
theorem dX11_reported_34 : decode cX11_reported 34 = .ok (.iload_n 3, 1) := by decide +kernel
theorem dX11_reported_35 : decode cX11_reported 35 = .ok (.iaload, 1) := by decide +kernel
theorem dX11_reported_36 : decode cX11_reported 36 = .ok (.iload_n 2, 1) := by decide +kernel
theorem dX11_reported_37 : decode cX11_reported 37 = .ok (.if_icmp .ne 10, 3) := by decide +kernel
theorem dX11_reported_40 : decode cX11_reported 40 = .ok (.aload_n 0, 1) := by decide +kernel
theorem dX11_reported_41 : decode cX11_reported 41 = .ok (.getfield 55, 3) := by decide +kernel
theorem dX11_reported_44 : decode cX11_reported 44 = .ok (.iload_n 3, 1) := by decide +kernel
theorem dX11_reported_45 : decode cX11_reported 45 = .ok (.iaload, 1) := by decide +kernel
theorem dX11_reported_46 : decode cX11_reported 46 = .ok (.ireturn, 1) := by decide +kernel
theorem dX11_reported_47 : decode cX11_reported 47 = .ok (.iinc 3 (-1), 3) := by decide +kernel
theorem dX11_reported_50 : decode cX11_reported 50 = .ok (.goto (-43), 3) := by decide +kernel
theorem dX11_reported_53 : decode cX11_reported 53 = .ok (.iconst (-1), 1) := by decide +kernel
theorem dX11_reported_54 : decode cX11_reported 54 = .ok (.ireturn, 1) := by decide +kernel
theorem dX11_ends_0 : decode cX11_ends 0 = .ok (.aload_n 0, 1) := by decide +kernel
theorem dX11_ends_1 : decode cX11_ends 1 = .ok (.iconst 0, 1) := by decide +kernel
theorem dX11_ends_2 : decode cX11_ends 2 = .ok (.putfield 163, 3) := by decide +kernel
theorem dX11_ends_5 : decode cX11_ends 5 = .ok (.iload_n 1, 1) := by decide +kernel
theorem dX11_ends_6 : decode cX11_ends 6 = .ok (.ifCond .lt 20, 3) := by decide +kernel
theorem dX11_ends_9 : decode cX11_ends 9 = .ok (.iload_n 1, 1) := by decide +kernel
theorem dX11_ends_10 : decode cX11_ends 10 = .ok (.aload_n 0, 1) := by decide +kernel
theorem dX11_ends_11 : decode cX11_ends 11 = .ok (.getfield 436, 3) := by decide +kernel
theorem dX11_ends_14 : decode cX11_ends 14 = .ok (.if_icmp .gt 12, 3) := by decide +kernel
theorem dX11_ends_17 : decode cX11_ends 17 = .ok (.iload_n 2, 1) := by decide +kernel
theorem dX11_ends_18 : decode cX11_ends 18 = .ok (.iconst 0, 1) := by decide +kernel
theorem dX11_ends_19 : decode cX11_ends 19 = .ok (.iconst 2, 1) := by decide +kernel
theorem dX11_ends_20 : decode cX11_ends 20 = .ok (.invokestatic 172, 3) := by decide +kernel
theorem dX11_ends_23 : decode cX11_ends 23 = .ok (.ifCond .ne 5, 3) := by decide +kernel
theorem dX11_ends_26 : decode cX11_ends 26 = .ok (.iconst (-1), 1) := by decide +kernel
theorem dX11_ends_27 : decode cX11_ends 27 = .ok (.ireturn, 1) := by decide +kernel
theorem dX11_ends_28 : decode cX11_ends 28 = .ok (.aload_n 0, 1) := by decide +kernel
theorem dX11_ends_29 : decode cX11_ends 29 = .ok (.iload_n 1, 1) := by decide +kernel
theorem dX11_ends_30 : decode cX11_ends 30 = .ok (.invokevirtual 439, 3) := by decide +kernel
theorem dX11_ends_33 : decode cX11_ends 33 = .ok (.aload_n 0, 1) := by decide +kernel
theorem dX11_ends_34 : decode cX11_ends 34 = .ok (.invokevirtual 199, 3) := by decide +kernel
theorem dX11_ends_37 : decode cX11_ends 37 = .ok (.aload_n 0, 1) := by decide +kernel
theorem dX11_ends_38 : decode cX11_ends 38 = .ok (.iconst 0, 1) := by decide +kernel
theorem dX11_ends_39 : decode cX11_ends 39 = .ok (.aload_n 0, 1) := by decide +kernel
theorem dX11_ends_40 : decode cX11_ends 40 = .ok (.getfield 202, 3) := by decide +kernel
theorem dX11_ends_43 : decode cX11_ends 43 = .ok (.invokevirtual 416, 3) := by decide +kernel
theorem dX11_ends_46 : decode cX11_ends 46 = .ok (.iconst 0, 1) := by decide +kernel
theorem dX11_ends_47 : decode cX11_ends 47 = .ok (.istore_n 3, 1) := by decide +kernel
theorem dX11_ends_48 : decode cX11_ends 48 = .ok (.iconst 0, 1) := by decide +kernel
theorem dX11_ends_49 : decode cX11_ends 49 = .ok (.istore 4, 2) := by decide +kernel
theorem dX11_ends_51 : decode cX11_ends 51 = .ok (.iconst 0, 1) := by decide +kernel
theorem dX11_ends_52 : decode cX11_ends 52 = .ok (.istore 5, 2) := by decide +kernel
theorem dX11_ends_54 : decode cX11_ends 54 = .ok (.iconst 0, 1) := by decide +kernel
theorem dX11_ends_55 : decode cX11_ends 55 = .ok (.istore 6, 2) := by decide +kernel
theorem dX11_ends_57 : decode cX11_ends 57 = .ok (.iload 6, 2) := by decide +kernel
theorem dX11_ends_59 : decode cX11_ends 59 = .ok (.aload_n 0, 1) := by decide +kernel
theorem dX11_ends_60 : decode cX11_ends 60 = .ok (.getfield 202, 3) := by decide +kernel
theorem dX11_ends_63 : decode cX11_ends 63 = .ok (.if_icmp .ge 116, 3) := by decide +kernel
theorem dX11_ends_66 : decode cX11_ends 66 = .ok (.aload_n 0, 1) := by decide +kernel
theorem dX11_ends_67 : decode cX11_ends 67 = .ok (.getfield 142, 3) := by decide +kernel
theorem dX11_ends_70 : decode cX11_ends 70 = .ok (.bipush 7, 2) := by decide +kernel
theorem dX11_ends_72 : decode cX11_ends 72 = .ok (.iload 6, 2) := by decide +kernel
theorem dX11_ends_74 : decode cX11_ends 74 = .ok (.imul, 1) := by decide +kernel
theorem dX11_ends_75 : decode cX11_ends 75 = .ok (.iaload, 1) := by decide +kernel
theorem dX11_ends_76 : decode cX11_ends 76 = .ok (.ifCond .le 6, 3) := by decide +kernel
theorem dX11_ends_79 : decode cX11_ends 79 = .ok (.goto 94, 3) := by decide +kernel
theorem dX11_ends_82 : decode cX11_ends 82 = .ok (.aload_n 0, 1) := by decide +kernel
theorem dX11_ends_83 : decode cX11_ends 83 = .ok (.aload_n 0, 1) := by decide +kernel
theorem dX11_ends_84 : decode cX11_ends 84 = .ok (.getfield 43, 3) := by decide +kernel
theorem dX11_ends_87 : decode cX11_ends 87 = .ok (.iconst 4, 1) := by decide +kernel
theorem dX11_ends_88 : decode cX11_ends 88 = .ok (.iload 6, 2) := by decide +kernel
theorem dX11_ends_90 : decode cX11_ends 90 = .ok (.imul, 1) := by decide +kernel
theorem dX11_ends_91 : decode cX11_ends 91 = .ok (.iconst 2, 1) := by decide +kernel
theorem dX11_ends_92 : decode cX11_ends 92 = .ok (.iadd, 1) := by decide +kernel
theorem dX11_ends_93 : decode cX11_ends 93 = .ok (.iaload, 1) := by decide +kernel
theorem dX11_ends_94 : decode cX11_ends 94 = .ok (.aload_n 0, 1) := by decide +kernel
theorem dX11_ends_95 : decode cX11_ends 95 = .ok (.getfield 43, 3) := by decide +kernel
theorem dX11_ends_98 : decode cX11_ends 98 = .ok (.iconst 4, 1) := by decide +kernel
theorem dX11_ends_99 : decode cX11_ends 99 = .ok (.iload 6, 2) := by decide +kernel
theorem dX11_ends_101 : decode cX11_ends 101 = .ok (.imul, 1) := by decide +kernel
theorem dX11_ends_102 : decode cX11_ends 102 = .ok (.iaload, 1) := by decide +kernel
theorem dX11_ends_103 : decode cX11_ends 103 = .ok (.invokevirtual 442, 3) := by decide +kernel
theorem dX11_ends_106 : decode cX11_ends 106 = .ok (.istore 7, 2) := by decide +kernel
theorem dX11_ends_108 : decode cX11_ends 108 = .ok (.iload_n 3, 1) := by decide +kernel
theorem dX11_ends_109 : decode cX11_ends 109 = .ok (.iload 7, 2) := by decide +kernel
theorem dX11_ends_111 : decode cX11_ends 111 = .ok (.ifCond .ge 7, 3) := by decide +kernel
theorem dX11_ends_114 : decode cX11_ends 114 = .ok (.iconst 0, 1) := by decide +kernel
theorem dX11_ends_115 : decode cX11_ends 115 = .ok (.goto 5, 3) := by decide +kernel
theorem dX11_ends_118 : decode cX11_ends 118 = .ok (.iload 7, 2) := by decide +kernel
theorem dX11_ends_120 : decode cX11_ends 120 = .ok (.iadd, 1) := by decide +kernel
theorem dX11_ends_121 : decode cX11_ends 121 = .ok (.istore_n 3, 1) := by decide +kernel
theorem dX11_ends_122 : decode cX11_ends 122 = .ok (.iload 4, 2) := by decide +kernel
theorem dX11_ends_124 : decode cX11_ends 124 = .ok (.iload 7, 2) := by decide +kernel
theorem dX11_ends_126 : decode cX11_ends 126 = .ok (.ifCond .ge 27, 3) := by decide +kernel
theorem dX11_ends_129 : decode cX11_ends 129 = .ok (.aload_n 0, 1) := by decide +kernel
theorem dX11_ends_130 : decode cX11_ends 130 = .ok (.getfield 13, 3) := by decide +kernel
theorem dX11_ends_133 : decode cX11_ends 133 = .ok (.bipush 8, 2) := by decide +kernel
theorem dX11_ends_135 : decode cX11_ends 135 = .ok (.aload_n 0, 1) := by decide +kernel
theorem dX11_ends_136 : decode cX11_ends 136 = .ok (.getfield 43, 3) := by decide +kernel
theorem dX11_ends_139 : decode cX11_ends 139 = .ok (.iconst 4, 1) := by decide +kernel
theorem dX11_ends_140 : decode cX11_ends 140 = .ok (.iload 6, 2) := by decide +kernel
theorem dX11_ends_142 : decode cX11_ends 142 = .ok (.imul, 1) := by decide +kernel
theorem dX11_ends_143 : decode cX11_ends 143 = .ok (.iconst 2, 1) := by decide +kernel
theorem dX11_ends_144 : decode cX11_ends 144 = .ok (.iadd, 1) := by decide +kernel
theorem dX11_ends_145 : decode cX11_ends 145 = .ok (.iaload, 1) := by decide +kernel
theorem dX11_ends_146 : decode cX11_ends 146 = .ok (.imul, 1) := by decide +kernel
theorem dX11_ends_147 : decode cX11_ends 147 = .ok (.iconst 1, 1) := by decide +kernel
theorem dX11_ends_148 : decode cX11_ends 148 = .ok (.iadd, 1) := by decide +kernel
theorem dX11_ends_149 : decode cX11_ends 149 = .ok (.iaload, 1) := by decide +kernel
theorem dX11_ends_150 : decode cX11_ends 150 = .ok (.goto 5, 3) := by decide +kernel
theorem dX11_ends_153 : decode cX11_ends 153 = .ok (.iload 7, 2) := by decide +kernel
theorem dX11_ends_155 : decode cX11_ends 155 = .ok (.iadd, 1) := by decide +kernel
theorem dX11_ends_156 : decode cX11_ends 156 = .ok (.istore 4, 2) := by decide +kernel
theorem dX11_ends_158 : decode cX11_ends 158 = .ok (.iload 5, 2) := by decide +kernel
theorem dX11_ends_160 : decode cX11_ends 160 = .ok (.iload 7, 2) := by decide +kernel
theorem dX11_ends_162 : decode cX11_ends 162 = .ok (.ifCond .ge 7, 3) := by decide +kernel
theorem dX11_ends_165 : decode cX11_ends 165 = .ok (.iconst 1, 1) := by decide +kernel
theorem dX11_ends_166 : decode cX11_ends 166 = .ok (.goto 4, 3) := by decide +kernel
theorem dX11_ends_169 : decode cX11_ends 169 = .ok (.iconst 0, 1) := by decide +kernel
theorem dX11_ends_170 : decode cX11_ends 170 = .ok (.iadd, 1) := by decide +kernel
theorem dX11_ends_171 : decode cX11_ends 171 = .ok (.istore 5, 2) := by decide +kernel
theorem dX11_ends_173 : decode cX11_ends 173 = .ok (.iinc 6 1, 3) := by decide +kernel
theorem dX11_ends_176 : decode cX11_ends 176 = .ok (.goto (-119), 3) := by decide +kernel
theorem dX11_ends_179 : decode cX11_ends 179 = .ok (.iload_n 2, 1) := by decide +kernel
theorem dX11_ends_180 : decode cX11_ends 180 = .ok (.ifCond .ne 7, 3) := by decide +kernel
theorem dX11_ends_183 : decode cX11_ends 183 = .ok (.iload_n 3, 1) := by decide +kernel
theorem dX11_ends_184 : decode cX11_ends 184 = .ok (.goto 15, 3) := by decide +kernel
theorem dX11_ends_187 : decode cX11_ends 187 = .ok (.iload_n 2, 1) := by decide +kernel
theorem dX11_ends_188 : decode cX11_ends 188 = .ok (.iconst 1, 1) := by decide +kernel
theorem dX11_ends_189 : decode cX11_ends 189 = .ok (.if_icmp .ne 8, 3) := by decide +kernel
theorem dX11_ends_192 : decode cX11_ends 192 = .ok (.iload 4, 2) := by decide +kernel
theorem dX11_ends_194 : decode cX11_ends 194 = .ok (.goto 5, 3) := by decide +kernel
theorem dX11_ends_197 : decode cX11_ends 197 = .ok (.iload 5, 2) := by decide +kernel
theorem dX11_ends_199 : decode cX11_ends 199 = .ok (.ireturn, 1) := by decide +kernel
theorem dX11_fails_0 : decode cX11_fails 0 = .ok (.aload_n 0, 1) := by decide +kernel
theorem dX11_fails_1 : decode cX11_fails 1 = .ok (.iload_n 1, 1) := by decide +kernel
theorem dX11_fails_2 : decode cX11_fails 2 = .ok (.putfield 163, 3) := by decide +kernel
theorem dX11_fails_5 : decode cX11_fails 5 = .ok (.iconst 0, 1) := by decide +kernel
theorem dX11_fails_6 : decode cX11_fails 6 = .ok (.ireturn, 1) := by decide +kernel
theorem dX11_look_0 : decode cX11_look 0 = .ok (.aload_n 0, 1) := by decide +kernel
theorem dX11_look_1 : decode cX11_look 1 = .ok (.iconst 0, 1) := by decide +kernel
theorem dX11_look_2 : decode cX11_look 2 = .ok (.putfield 163, 3) := by decide +kernel
theorem dX11_look_5 : decode cX11_look 5 = .ok (.aload_n 0, 1) := by decide +kernel
theorem dX11_look_6 : decode cX11_look 6 = .ok (.iload_n 1, 1) := by decide +kernel
theorem dX11_look_7 : decode cX11_look 7 = .ok (.invokevirtual 176, 3) := by decide +kernel
theorem dX11_look_10 : decode cX11_look 10 = .ok (.ifCond .ne 9, 3) := by decide +kernel
theorem dX11_look_13 : decode cX11_look 13 = .ok (.aload_n 0, 1) := by decide +kernel
theorem dX11_look_14 : decode cX11_look 14 = .ok (.iconst 1, 1) := by decide +kernel
theorem dX11_look_15 : decode cX11_look 15 = .ok (.invokevirtual 445, 3) := by decide +kernel
theorem dX11_look_18 : decode cX11_look 18 = .ok (.ireturn, 1) := by decide +kernel
theorem dX11_look_19 : decode cX11_look 19 = .ok (.iload_n 2, 1) := by decide +kernel
theorem dX11_look_20 : decode cX11_look 20 = .ok (.ifCond .lt 23, 3) := by decide +kernel
theorem dX11_look_23 : decode cX11_look 23 = .ok (.iload_n 2, 1) := by decide +kernel
theorem dX11_look_24 : decode cX11_look 24 = .ok (.bipush 8, 2) := by decide +kernel
theorem dX11_look_26 : decode cX11_look 26 = .ok (.if_icmp .ge 17, 3) := by decide +kernel
theorem dX11_look_29 : decode cX11_look 29 = .ok (.aload_n 0, 1) := by decide +kernel
theorem dX11_look_30 : decode cX11_look 30 = .ok (.getfield 13, 3) := by decide +kernel
theorem dX11_look_33 : decode cX11_look 33 = .ok (.bipush 8, 2) := by decide +kernel
theorem dX11_look_35 : decode cX11_look 35 = .ok (.iload_n 1, 1) := by decide +kernel
theorem dX11_look_36 : decode cX11_look 36 = .ok (.imul, 1) := by decide +kernel
theorem dX11_look_37 : decode cX11_look 37 = .ok (.iload_n 2, 1) := by decide +kernel
theorem dX11_look_38 : decode cX11_look 38 = .ok (.iadd, 1) := by decide +kernel
theorem dX11_look_39 : decode cX11_look 39 = .ok (.iaload, 1) := by decide +kernel
theorem dX11_look_40 : decode cX11_look 40 = .ok (.goto 8, 3) := by decide +kernel
theorem dX11_look_43 : decode cX11_look 43 = .ok (.aload_n 0, 1) := by decide +kernel
theorem dX11_look_44 : decode cX11_look 44 = .ok (.iconst 2, 1) := by decide +kernel
theorem dX11_look_45 : decode cX11_look 45 = .ok (.invokevirtual 445, 3) := by decide +kernel
theorem dX11_look_48 : decode cX11_look 48 = .ok (.ireturn, 1) := by decide +kernel
theorem dX11_count_0 : decode cX11_count 0 = .ok (.aload_n 0, 1) := by decide +kernel
theorem dX11_count_1 : decode cX11_count 1 = .ok (.iconst 0, 1) := by decide +kernel
theorem dX11_count_2 : decode cX11_count 2 = .ok (.putfield 163, 3) := by decide +kernel
theorem dX11_count_5 : decode cX11_count 5 = .ok (.iload_n 1, 1) := by decide +kernel
theorem dX11_count_6 : decode cX11_count 6 = .ok (.tableswitch 113 0 10 #[58, 63, 68, 73, 78, 83, 88, 93, 98, 98, 108], 58) := by decide +kernel
theorem dX11_count_64 : decode cX11_count 64 = .ok (.aload_n 0, 1) := by decide +kernel
theorem dX11_count_65 : decode cX11_count 65 = .ok (.getfield 169, 3) := by decide +kernel
theorem dX11_count_68 : decode cX11_count 68 = .ok (.ireturn, 1) := by decide +kernel
theorem dX11_count_69 : decode cX11_count 69 = .ok (.aload_n 0, 1) := by decide +kernel
theorem dX11_count_70 : decode cX11_count 70 = .ok (.getfield 180, 3) := by decide +kernel
theorem dX11_count_73 : decode cX11_count 73 = .ok (.ireturn, 1) := by decide +kernel
theorem dX11_count_74 : decode cX11_count 74 = .ok (.aload_n 0, 1) := by decide +kernel
theorem dX11_count_75 : decode cX11_count 75 = .ok (.getfield 183, 3) := by decide +kernel
theorem dX11_count_78 : decode cX11_count 78 = .ok (.ireturn, 1) := by decide +kernel
theorem dX11_count_79 : decode cX11_count 79 = .ok (.aload_n 0, 1) := by decide +kernel
theorem dX11_count_80 : decode cX11_count 80 = .ok (.getfield 186, 3) := by decide +kernel
theorem dX11_count_83 : decode cX11_count 83 = .ok (.ireturn, 1) := by decide +kernel
theorem dX11_count_84 : decode cX11_count 84 = .ok (.aload_n 0, 1) := by decide +kernel
theorem dX11_count_85 : decode cX11_count 85 = .ok (.getfield 192, 3) := by decide +kernel
theorem dX11_count_88 : decode cX11_count 88 = .ok (.ireturn, 1) := by decide +kernel
theorem dX11_count_89 : decode cX11_count 89 = .ok (.aload_n 0, 1) := by decide +kernel
theorem dX11_count_90 : decode cX11_count 90 = .ok (.getfield 202, 3) := by decide +kernel
theorem dX11_count_93 : decode cX11_count 93 = .ok (.ireturn, 1) := by decide +kernel
theorem dX11_count_94 : decode cX11_count 94 = .ok (.aload_n 0, 1) := by decide +kernel
theorem dX11_count_95 : decode cX11_count 95 = .ok (.getfield 212, 3) := by decide +kernel
theorem dX11_count_98 : decode cX11_count 98 = .ok (.ireturn, 1) := by decide +kernel
theorem dX11_count_99 : decode cX11_count 99 = .ok (.aload_n 0, 1) := by decide +kernel
theorem dX11_count_100 : decode cX11_count 100 = .ok (.getfield 436, 3) := by decide +kernel
theorem dX11_count_103 : decode cX11_count 103 = .ok (.ireturn, 1) := by decide +kernel
theorem dX11_count_104 : decode cX11_count 104 = .ok (.aload_n 0, 1) := by decide +kernel
theorem dX11_count_105 : decode cX11_count 105 = .ok (.getfield 72, 3) := by decide +kernel
theorem dX11_count_108 : decode cX11_count 108 = .ok (.iload_n 1, 1) := by decide +kernel
theorem dX11_count_109 : decode cX11_count 109 = .ok (.bipush 8, 2) := by decide +kernel
theorem dX11_count_111 : decode cX11_count 111 = .ok (.isub, 1) := by decide +kernel
theorem dX11_count_112 : decode cX11_count 112 = .ok (.iaload, 1) := by decide +kernel
theorem dX11_count_113 : decode cX11_count 113 = .ok (.ireturn, 1) := by decide +kernel
theorem dX11_count_114 : decode cX11_count 114 = .ok (.aload_n 0, 1) := by decide +kernel
theorem dX11_count_115 : decode cX11_count 115 = .ok (.getfield 326, 3) := by decide +kernel
theorem dX11_count_118 : decode cX11_count 118 = .ok (.ireturn, 1) := by decide +kernel
theorem dX11_count_119 : decode cX11_count 119 = .ok (.iconst (-1), 1) := by decide +kernel
theorem dX11_count_120 : decode cX11_count 120 = .ok (.ireturn, 1) := by decide +kernel
