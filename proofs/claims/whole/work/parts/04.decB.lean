theorem dX0_init_0 : decode cX0_init 0 = .ok (.aload_n 0, 1) := by decide +kernel
theorem dX0_init_1 : decode cX0_init 1 = .ok (.invokespecial 3, 3) := by decide +kernel
theorem dX0_init_4 : decode cX0_init 4 = .ok (.aload_n 0, 1) := by decide +kernel
theorem dX0_init_5 : decode cX0_init 5 = .ok (.bipush 7, 2) := by decide +kernel
theorem dX0_init_7 : decode cX0_init 7 = .ok (.bipush 27, 2) := by decide +kernel
theorem dX0_init_9 : decode cX0_init 9 = .ok (.multianewarray 11 2, 4) := by decide +kernel
theorem dX0_init_13 : decode cX0_init 13 = .ok (.putfield 13, 3) := by decide +kernel
theorem dX0_init_16 : decode cX0_init 16 = .ok (.aload_n 0, 1) := by decide +kernel
theorem dX0_init_17 : decode cX0_init 17 = .ok (.iconst 5, 1) := by decide +kernel
theorem dX0_init_18 : decode cX0_init 18 = .ok (.newarray .int, 2) := by decide +kernel
theorem dX0_init_20 : decode cX0_init 20 = .ok (.putfield 18, 3) := by decide +kernel
theorem dX0_init_23 : decode cX0_init 23 = .ok (.aload_n 0, 1) := by decide +kernel
theorem dX0_init_24 : decode cX0_init 24 = .ok (.iconst 3, 1) := by decide +kernel
theorem dX0_init_25 : decode cX0_init 25 = .ok (.newarray .int, 2) := by decide +kernel
theorem dX0_init_27 : decode cX0_init 27 = .ok (.putfield 22, 3) := by decide +kernel
theorem dX0_init_30 : decode cX0_init 30 = .ok (.aload_n 0, 1) := by decide +kernel
theorem dX0_init_31 : decode cX0_init 31 = .ok (.bipush 12, 2) := by decide +kernel
theorem dX0_init_33 : decode cX0_init 33 = .ok (.newarray .int, 2) := by decide +kernel
theorem dX0_init_35 : decode cX0_init 35 = .ok (.putfield 25, 3) := by decide +kernel
theorem dX0_init_38 : decode cX0_init 38 = .ok (.aload_n 0, 1) := by decide +kernel
theorem dX0_init_39 : decode cX0_init 39 = .ok (.iconst 3, 1) := by decide +kernel
theorem dX0_init_40 : decode cX0_init 40 = .ok (.newarray .int, 2) := by decide +kernel
theorem dX0_init_42 : decode cX0_init 42 = .ok (.putfield 28, 3) := by decide +kernel
theorem dX0_init_45 : decode cX0_init 45 = .ok (.aload_n 0, 1) := by decide +kernel
theorem dX0_init_46 : decode cX0_init 46 = .ok (.iconst 4, 1) := by decide +kernel
theorem dX0_init_47 : decode cX0_init 47 = .ok (.newarray .int, 2) := by decide +kernel
theorem dX0_init_49 : decode cX0_init 49 = .ok (.putfield 31, 3) := by decide +kernel
theorem dX0_init_52 : decode cX0_init 52 = .ok (.aload_n 0, 1) := by decide +kernel
theorem dX0_init_53 : decode cX0_init 53 = .ok (.iconst 4, 1) := by decide +kernel
theorem dX0_init_54 : decode cX0_init 54 = .ok (.newarray .int, 2) := by decide +kernel
theorem dX0_init_56 : decode cX0_init 56 = .ok (.putfield 34, 3) := by decide +kernel
theorem dX0_init_59 : decode cX0_init 59 = .ok (.aload_n 0, 1) := by decide +kernel
theorem dX0_init_60 : decode cX0_init 60 = .ok (.iconst 4, 1) := by decide +kernel
theorem dX0_init_61 : decode cX0_init 61 = .ok (.newarray .int, 2) := by decide +kernel
theorem dX0_init_63 : decode cX0_init 63 = .ok (.putfield 37, 3) := by decide +kernel
theorem dX0_init_66 : decode cX0_init 66 = .ok (.aload_n 0, 1) := by decide +kernel
theorem dX0_init_67 : decode cX0_init 67 = .ok (.bipush 32, 2) := by decide +kernel
theorem dX0_init_69 : decode cX0_init 69 = .ok (.newarray .int, 2) := by decide +kernel
theorem dX0_init_71 : decode cX0_init 71 = .ok (.putfield 40, 3) := by decide +kernel
theorem dX0_init_74 : decode cX0_init 74 = .ok (.aload_n 0, 1) := by decide +kernel
theorem dX0_init_75 : decode cX0_init 75 = .ok (.bipush 11, 2) := by decide +kernel
theorem dX0_init_77 : decode cX0_init 77 = .ok (.newarray .long, 2) := by decide +kernel
theorem dX0_init_79 : decode cX0_init 79 = .ok (.putfield 43, 3) := by decide +kernel
theorem dX0_init_82 : decode cX0_init 82 = .ok (.aload_n 0, 1) := by decide +kernel
theorem dX0_init_83 : decode cX0_init 83 = .ok (.aload_n 1, 1) := by decide +kernel
theorem dX0_init_84 : decode cX0_init 84 = .ok (.putfield 47, 3) := by decide +kernel
theorem dX0_init_87 : decode cX0_init 87 = .ok (.aload_n 0, 1) := by decide +kernel
theorem dX0_init_88 : decode cX0_init 88 = .ok (.aload_n 2, 1) := by decide +kernel
theorem dX0_init_89 : decode cX0_init 89 = .ok (.putfield 51, 3) := by decide +kernel
theorem dX0_init_92 : decode cX0_init 92 = .ok (.aload_n 0, 1) := by decide +kernel
theorem dX0_init_93 : decode cX0_init 93 = .ok (.aload_n 3, 1) := by decide +kernel
theorem dX0_init_94 : decode cX0_init 94 = .ok (.putfield 55, 3) := by decide +kernel
theorem dX0_init_97 : decode cX0_init 97 = .ok (.aload_n 0, 1) := by decide +kernel
theorem dX0_init_98 : decode cX0_init 98 = .ok (.aload 4, 2) := by decide +kernel
theorem dX0_init_100 : decode cX0_init 100 = .ok (.putfield 59, 3) := by decide +kernel
theorem dX0_init_103 : decode cX0_init 103 = .ok (.aload_n 0, 1) := by decide +kernel
theorem dX0_init_104 : decode cX0_init 104 = .ok (.aload 5, 2) := by decide +kernel
theorem dX0_init_106 : decode cX0_init 106 = .ok (.putfield 63, 3) := by decide +kernel
theorem dX0_init_109 : decode cX0_init 109 = .ok (.return_, 1) := by decide +kernel
theorem dX0_goThrough_0 : decode cX0_goThrough 0 = .ok (.aload_n 0, 1) := by decide +kernel
theorem dX0_goThrough_1 : decode cX0_goThrough 1 = .ok (.aload_n 1, 1) := by decide +kernel
theorem dX0_goThrough_2 : decode cX0_goThrough 2 = .ok (.putfield 55, 3) := by decide +kernel
theorem dX0_goThrough_5 : decode cX0_goThrough 5 = .ok (.aload_n 0, 1) := by decide +kernel
theorem dX0_goThrough_6 : decode cX0_goThrough 6 = .ok (.invokevirtual 66, 3) := by decide +kernel
theorem dX0_goThrough_9 : decode cX0_goThrough 9 = .ok (.iconst 0, 1) := by decide +kernel
theorem dX0_goThrough_10 : decode cX0_goThrough 10 = .ok (.istore_n 3, 1) := by decide +kernel
theorem dX0_goThrough_11 : decode cX0_goThrough 11 = .ok (.iload_n 3, 1) := by decide +kernel
theorem dX0_goThrough_12 : decode cX0_goThrough 12 = .ok (.iconst 4, 1) := by decide +kernel
theorem dX0_goThrough_13 : decode cX0_goThrough 13 = .ok (.if_icmp .ge 78, 3) := by decide +kernel
theorem dX0_goThrough_16 : decode cX0_goThrough 16 = .ok (.aload_n 0, 1) := by decide +kernel
theorem dX0_goThrough_17 : decode cX0_goThrough 17 = .ok (.iload_n 3, 1) := by decide +kernel
theorem dX0_goThrough_18 : decode cX0_goThrough 18 = .ok (.putfield 69, 3) := by decide +kernel
theorem dX0_goThrough_21 : decode cX0_goThrough 21 = .ok (.aload_n 0, 1) := by decide +kernel
theorem dX0_goThrough_22 : decode cX0_goThrough 22 = .ok (.iload_n 2, 1) := by decide +kernel
theorem dX0_goThrough_23 : decode cX0_goThrough 23 = .ok (.iconst 2, 1) := by decide +kernel
theorem dX0_goThrough_24 : decode cX0_goThrough 24 = .ok (.iload_n 3, 1) := by decide +kernel
theorem dX0_goThrough_25 : decode cX0_goThrough 25 = .ok (.imul, 1) := by decide +kernel
theorem dX0_goThrough_26 : decode cX0_goThrough 26 = .ok (.ishr, 1) := by decide +kernel
theorem dX0_goThrough_27 : decode cX0_goThrough 27 = .ok (.iconst 3, 1) := by decide +kernel
theorem dX0_goThrough_28 : decode cX0_goThrough 28 = .ok (.iand, 1) := by decide +kernel
theorem dX0_goThrough_29 : decode cX0_goThrough 29 = .ok (.putfield 73, 3) := by decide +kernel
theorem dX0_goThrough_32 : decode cX0_goThrough 32 = .ok (.aload_n 0, 1) := by decide +kernel
theorem dX0_goThrough_33 : decode cX0_goThrough 33 = .ok (.iconst 0, 1) := by decide +kernel
theorem dX0_goThrough_34 : decode cX0_goThrough 34 = .ok (.putfield 76, 3) := by decide +kernel
theorem dX0_goThrough_37 : decode cX0_goThrough 37 = .ok (.aload_n 0, 1) := by decide +kernel
theorem dX0_goThrough_38 : decode cX0_goThrough 38 = .ok (.invokevirtual 79, 3) := by decide +kernel
theorem dX0_goThrough_41 : decode cX0_goThrough 41 = .ok (.iconst 0, 1) := by decide +kernel
theorem dX0_goThrough_42 : decode cX0_goThrough 42 = .ok (.istore 4, 2) := by decide +kernel
theorem dX0_goThrough_44 : decode cX0_goThrough 44 = .ok (.iload 4, 2) := by decide +kernel
theorem dX0_goThrough_46 : decode cX0_goThrough 46 = .ok (.aload_n 0, 1) := by decide +kernel
theorem dX0_goThrough_47 : decode cX0_goThrough 47 = .ok (.getfield 51, 3) := by decide +kernel
theorem dX0_goThrough_50 : decode cX0_goThrough 50 = .ok (.getfield 82, 3) := by decide +kernel
theorem dX0_goThrough_53 : decode cX0_goThrough 53 = .ok (.if_icmp .ge 28, 3) := by decide +kernel
theorem dX0_goThrough_56 : decode cX0_goThrough 56 = .ok (.aload_n 0, 1) := by decide +kernel
theorem dX0_goThrough_57 : decode cX0_goThrough 57 = .ok (.getfield 55, 3) := by decide +kernel
theorem dX0_goThrough_60 : decode cX0_goThrough 60 = .ok (.iload_n 3, 1) := by decide +kernel
theorem dX0_goThrough_61 : decode cX0_goThrough 61 = .ok (.iload 4, 2) := by decide +kernel
theorem dX0_goThrough_63 : decode cX0_goThrough 63 = .ok (.invokevirtual 87, 3) := by decide +kernel
theorem dX0_goThrough_66 : decode cX0_goThrough 66 = .ok (.ifCond .eq 9, 3) := by decide +kernel
theorem dX0_goThrough_69 : decode cX0_goThrough 69 = .ok (.aload_n 0, 1) := by decide +kernel
theorem dX0_goThrough_70 : decode cX0_goThrough 70 = .ok (.iload 4, 2) := by decide +kernel
theorem dX0_goThrough_72 : decode cX0_goThrough 72 = .ok (.invokevirtual 91, 3) := by decide +kernel
theorem dX0_goThrough_75 : decode cX0_goThrough 75 = .ok (.iinc 4 1, 3) := by decide +kernel
theorem dX0_goThrough_78 : decode cX0_goThrough 78 = .ok (.goto (-34), 3) := by decide +kernel
theorem dX0_goThrough_81 : decode cX0_goThrough 81 = .ok (.aload_n 0, 1) := by decide +kernel
theorem dX0_goThrough_82 : decode cX0_goThrough 82 = .ok (.invokevirtual 95, 3) := by decide +kernel
theorem dX0_goThrough_85 : decode cX0_goThrough 85 = .ok (.iinc 3 1, 3) := by decide +kernel
theorem dX0_goThrough_88 : decode cX0_goThrough 88 = .ok (.goto (-77), 3) := by decide +kernel
theorem dX0_goThrough_91 : decode cX0_goThrough 91 = .ok (.aload_n 0, 1) := by decide +kernel
theorem dX0_goThrough_92 : decode cX0_goThrough 92 = .ok (.invokevirtual 98, 3) := by decide +kernel
theorem dX0_goThrough_95 : decode cX0_goThrough 95 = .ok (.aload_n 0, 1) := by decide +kernel
theorem dX0_goThrough_96 : decode cX0_goThrough 96 = .ok (.invokevirtual 101, 3) := by decide +kernel
theorem dX0_goThrough_99 : decode cX0_goThrough 99 = .ok (.return_, 1) := by decide +kernel
theorem dX0_begin_0 : decode cX0_begin 0 = .ok (.aload_n 0, 1) := by decide +kernel
theorem dX0_begin_1 : decode cX0_begin 1 = .ok (.getfield 18, 3) := by decide +kernel
theorem dX0_begin_4 : decode cX0_begin 4 = .ok (.iconst 0, 1) := by decide +kernel
theorem dX0_begin_5 : decode cX0_begin 5 = .ok (.invokestatic 104, 3) := by decide +kernel
theorem dX0_begin_8 : decode cX0_begin 8 = .ok (.aload_n 0, 1) := by decide +kernel
theorem dX0_begin_9 : decode cX0_begin 9 = .ok (.getfield 28, 3) := by decide +kernel
theorem dX0_begin_12 : decode cX0_begin 12 = .ok (.iconst 0, 1) := by decide +kernel
theorem dX0_begin_13 : decode cX0_begin 13 = .ok (.invokestatic 104, 3) := by decide +kernel
theorem dX0_begin_16 : decode cX0_begin 16 = .ok (.aload_n 0, 1) := by decide +kernel
theorem dX0_begin_17 : decode cX0_begin 17 = .ok (.getfield 37, 3) := by decide +kernel
theorem dX0_begin_20 : decode cX0_begin 20 = .ok (.iconst 0, 1) := by decide +kernel
theorem dX0_begin_21 : decode cX0_begin 21 = .ok (.invokestatic 104, 3) := by decide +kernel
theorem dX0_begin_24 : decode cX0_begin 24 = .ok (.aload_n 0, 1) := by decide +kernel
theorem dX0_begin_25 : decode cX0_begin 25 = .ok (.getfield 40, 3) := by decide +kernel
theorem dX0_begin_28 : decode cX0_begin 28 = .ok (.iconst 0, 1) := by decide +kernel
theorem dX0_begin_29 : decode cX0_begin 29 = .ok (.invokestatic 104, 3) := by decide +kernel
theorem dX0_begin_32 : decode cX0_begin 32 = .ok (.aload_n 0, 1) := by decide +kernel
theorem dX0_begin_33 : decode cX0_begin 33 = .ok (.getfield 34, 3) := by decide +kernel
theorem dX0_begin_36 : decode cX0_begin 36 = .ok (.iconst (-1), 1) := by decide +kernel
theorem dX0_begin_37 : decode cX0_begin 37 = .ok (.invokestatic 104, 3) := by decide +kernel
theorem dX0_begin_40 : decode cX0_begin 40 = .ok (.iconst 0, 1) := by decide +kernel
theorem dX0_begin_41 : decode cX0_begin 41 = .ok (.istore_n 1, 1) := by decide +kernel
theorem dX0_begin_42 : decode cX0_begin 42 = .ok (.iload_n 1, 1) := by decide +kernel
theorem dX0_begin_43 : decode cX0_begin 43 = .ok (.aload_n 0, 1) := by decide +kernel
theorem dX0_begin_44 : decode cX0_begin 44 = .ok (.getfield 51, 3) := by decide +kernel
theorem dX0_begin_47 : decode cX0_begin 47 = .ok (.getfield 82, 3) := by decide +kernel
theorem dX0_begin_50 : decode cX0_begin 50 = .ok (.if_icmp .ge 24, 3) := by decide +kernel
theorem dX0_begin_53 : decode cX0_begin 53 = .ok (.aload_n 0, 1) := by decide +kernel
theorem dX0_begin_54 : decode cX0_begin 54 = .ok (.getfield 22, 3) := by decide +kernel
theorem dX0_begin_57 : decode cX0_begin 57 = .ok (.iload_n 1, 1) := by decide +kernel
theorem dX0_begin_58 : decode cX0_begin 58 = .ok (.aload_n 0, 1) := by decide +kernel
theorem dX0_begin_59 : decode cX0_begin 59 = .ok (.getfield 51, 3) := by decide +kernel
theorem dX0_begin_62 : decode cX0_begin 62 = .ok (.getfield 110, 3) := by decide +kernel
theorem dX0_begin_65 : decode cX0_begin 65 = .ok (.iload_n 1, 1) := by decide +kernel
theorem dX0_begin_66 : decode cX0_begin 66 = .ok (.iaload, 1) := by decide +kernel
theorem dX0_begin_67 : decode cX0_begin 67 = .ok (.iastore, 1) := by decide +kernel
theorem dX0_begin_68 : decode cX0_begin 68 = .ok (.iinc 1 1, 3) := by decide +kernel
theorem dX0_begin_71 : decode cX0_begin 71 = .ok (.goto (-29), 3) := by decide +kernel
theorem dX0_begin_74 : decode cX0_begin 74 = .ok (.iconst 0, 1) := by decide +kernel
theorem dX0_begin_75 : decode cX0_begin 75 = .ok (.istore_n 1, 1) := by decide +kernel
theorem dX0_begin_76 : decode cX0_begin 76 = .ok (.iload_n 1, 1) := by decide +kernel
theorem dX0_begin_77 : decode cX0_begin 77 = .ok (.aload_n 0, 1) := by decide +kernel
theorem dX0_begin_78 : decode cX0_begin 78 = .ok (.getfield 51, 3) := by decide +kernel
theorem dX0_begin_81 : decode cX0_begin 81 = .ok (.getfield 113, 3) := by decide +kernel
theorem dX0_begin_84 : decode cX0_begin 84 = .ok (.if_icmp .ge 26, 3) := by decide +kernel
theorem dX0_begin_87 : decode cX0_begin 87 = .ok (.aload_n 0, 1) := by decide +kernel
theorem dX0_begin_88 : decode cX0_begin 88 = .ok (.getfield 31, 3) := by decide +kernel
theorem dX0_begin_91 : decode cX0_begin 91 = .ok (.iload_n 1, 1) := by decide +kernel
theorem dX0_begin_92 : decode cX0_begin 92 = .ok (.aload_n 0, 1) := by decide +kernel
theorem dX0_begin_93 : decode cX0_begin 93 = .ok (.getfield 51, 3) := by decide +kernel
theorem dX0_begin_96 : decode cX0_begin 96 = .ok (.getfield 116, 3) := by decide +kernel
theorem dX0_begin_99 : decode cX0_begin 99 = .ok (.iload_n 1, 1) := by decide +kernel
theorem dX0_begin_100 : decode cX0_begin 100 = .ok (.aaload, 1) := by decide +kernel
theorem dX0_begin_101 : decode cX0_begin 101 = .ok (.iconst 3, 1) := by decide +kernel
theorem dX0_begin_102 : decode cX0_begin 102 = .ok (.iaload, 1) := by decide +kernel
theorem dX0_begin_103 : decode cX0_begin 103 = .ok (.iastore, 1) := by decide +kernel
theorem dX0_begin_104 : decode cX0_begin 104 = .ok (.iinc 1 1, 3) := by decide +kernel
theorem dX0_begin_107 : decode cX0_begin 107 = .ok (.goto (-31), 3) := by decide +kernel
theorem dX0_begin_110 : decode cX0_begin 110 = .ok (.return_, 1) := by decide +kernel
theorem dX0_handOn_0 : decode cX0_handOn 0 = .ok (.iconst 0, 1) := by decide +kernel
theorem dX0_handOn_1 : decode cX0_handOn 1 = .ok (.istore_n 1, 1) := by decide +kernel
theorem dX0_handOn_2 : decode cX0_handOn 2 = .ok (.iload_n 1, 1) := by decide +kernel
theorem dX0_handOn_3 : decode cX0_handOn 3 = .ok (.aload_n 0, 1) := by decide +kernel
theorem dX0_handOn_4 : decode cX0_handOn 4 = .ok (.getfield 55, 3) := by decide +kernel
theorem dX0_handOn_7 : decode cX0_handOn 7 = .ok (.getfield 119, 3) := by decide +kernel
theorem dX0_handOn_10 : decode cX0_handOn 10 = .ok (.if_icmp .ge 120, 3) := by decide +kernel
theorem dX0_handOn_13 : decode cX0_handOn 13 = .ok (.aload_n 0, 1) := by decide +kernel
theorem dX0_handOn_14 : decode cX0_handOn 14 = .ok (.getfield 55, 3) := by decide +kernel
theorem dX0_handOn_17 : decode cX0_handOn 17 = .ok (.getfield 122, 3) := by decide +kernel
theorem dX0_handOn_20 : decode cX0_handOn 20 = .ok (.iload_n 1, 1) := by decide +kernel
theorem dX0_handOn_21 : decode cX0_handOn 21 = .ok (.iaload, 1) := by decide +kernel
theorem dX0_handOn_22 : decode cX0_handOn 22 = .ok (.aload_n 0, 1) := by decide +kernel
theorem dX0_handOn_23 : decode cX0_handOn 23 = .ok (.getfield 69, 3) := by decide +kernel
theorem dX0_handOn_26 : decode cX0_handOn 26 = .ok (.if_icmp .ne 98, 3) := by decide +kernel
theorem dX0_handOn_29 : decode cX0_handOn 29 = .ok (.aload_n 0, 1) := by decide +kernel
theorem dX0_handOn_30 : decode cX0_handOn 30 = .ok (.getfield 55, 3) := by decide +kernel
theorem dX0_handOn_33 : decode cX0_handOn 33 = .ok (.getfield 125, 3) := by decide +kernel
theorem dX0_handOn_36 : decode cX0_handOn 36 = .ok (.iload_n 1, 1) := by decide +kernel
theorem dX0_handOn_37 : decode cX0_handOn 37 = .ok (.iaload, 1) := by decide +kernel
theorem dX0_handOn_38 : decode cX0_handOn 38 = .ok (.istore_n 2, 1) := by decide +kernel
theorem dX0_handOn_39 : decode cX0_handOn 39 = .ok (.aload_n 0, 1) := by decide +kernel
theorem dX0_handOn_40 : decode cX0_handOn 40 = .ok (.getfield 31, 3) := by decide +kernel
theorem dX0_handOn_43 : decode cX0_handOn 43 = .ok (.iload_n 2, 1) := by decide +kernel
theorem dX0_handOn_44 : decode cX0_handOn 44 = .ok (.iaload, 1) := by decide +kernel
theorem dX0_handOn_45 : decode cX0_handOn 45 = .ok (.istore_n 3, 1) := by decide +kernel
theorem dX0_handOn_46 : decode cX0_handOn 46 = .ok (.aload_n 0, 1) := by decide +kernel
theorem dX0_handOn_47 : decode cX0_handOn 47 = .ok (.getfield 55, 3) := by decide +kernel
theorem dX0_handOn_50 : decode cX0_handOn 50 = .ok (.getfield 128, 3) := by decide +kernel
theorem dX0_handOn_53 : decode cX0_handOn 53 = .ok (.iload_n 1, 1) := by decide +kernel
theorem dX0_handOn_54 : decode cX0_handOn 54 = .ok (.iaload, 1) := by decide +kernel
theorem dX0_handOn_55 : decode cX0_handOn 55 = .ok (.istore 4, 2) := by decide +kernel
theorem dX0_handOn_57 : decode cX0_handOn 57 = .ok (.aload_n 0, 1) := by decide +kernel
theorem dX0_handOn_58 : decode cX0_handOn 58 = .ok (.getfield 51, 3) := by decide +kernel
theorem dX0_handOn_61 : decode cX0_handOn 61 = .ok (.iload_n 3, 1) := by decide +kernel
theorem dX0_handOn_62 : decode cX0_handOn 62 = .ok (.aload_n 0, 1) := by decide +kernel
theorem dX0_handOn_63 : decode cX0_handOn 63 = .ok (.getfield 69, 3) := by decide +kernel
theorem dX0_handOn_66 : decode cX0_handOn 66 = .ok (.invokevirtual 131, 3) := by decide +kernel
theorem dX0_handOn_69 : decode cX0_handOn 69 = .ok (.ifCond .ne 19, 3) := by decide +kernel
theorem dX0_handOn_72 : decode cX0_handOn 72 = .ok (.aload_n 0, 1) := by decide +kernel
theorem dX0_handOn_73 : decode cX0_handOn 73 = .ok (.getfield 51, 3) := by decide +kernel
theorem dX0_handOn_76 : decode cX0_handOn 76 = .ok (.iload 4, 2) := by decide +kernel
theorem dX0_handOn_78 : decode cX0_handOn 78 = .ok (.aload_n 0, 1) := by decide +kernel
theorem dX0_handOn_79 : decode cX0_handOn 79 = .ok (.getfield 69, 3) := by decide +kernel
theorem dX0_handOn_82 : decode cX0_handOn 82 = .ok (.invokevirtual 131, 3) := by decide +kernel
theorem dX0_handOn_85 : decode cX0_handOn 85 = .ok (.ifCond .eq 7, 3) := by decide +kernel
theorem dX0_handOn_88 : decode cX0_handOn 88 = .ok (.iconst 1, 1) := by decide +kernel
theorem dX0_handOn_89 : decode cX0_handOn 89 = .ok (.goto 4, 3) := by decide +kernel
theorem dX0_handOn_92 : decode cX0_handOn 92 = .ok (.iconst 0, 1) := by decide +kernel
theorem dX0_handOn_93 : decode cX0_handOn 93 = .ok (.istore 5, 2) := by decide +kernel
theorem dX0_handOn_95 : decode cX0_handOn 95 = .ok (.iload 5, 2) := by decide +kernel
theorem dX0_handOn_97 : decode cX0_handOn 97 = .ok (.ifCond .ne 27, 3) := by decide +kernel
theorem dX0_handOn_100 : decode cX0_handOn 100 = .ok (.aload_n 0, 1) := by decide +kernel
theorem dX0_handOn_101 : decode cX0_handOn 101 = .ok (.getfield 22, 3) := by decide +kernel
theorem dX0_handOn_104 : decode cX0_handOn 104 = .ok (.iload_n 3, 1) := by decide +kernel
theorem dX0_handOn_105 : decode cX0_handOn 105 = .ok (.iaload, 1) := by decide +kernel
theorem dX0_handOn_106 : decode cX0_handOn 106 = .ok (.aload_n 0, 1) := by decide +kernel
theorem dX0_handOn_107 : decode cX0_handOn 107 = .ok (.getfield 22, 3) := by decide +kernel
theorem dX0_handOn_110 : decode cX0_handOn 110 = .ok (.iload 4, 2) := by decide +kernel
theorem dX0_handOn_112 : decode cX0_handOn 112 = .ok (.iaload, 1) := by decide +kernel
theorem dX0_handOn_113 : decode cX0_handOn 113 = .ok (.if_icmp .ne 11, 3) := by decide +kernel
theorem dX0_handOn_116 : decode cX0_handOn 116 = .ok (.aload_n 0, 1) := by decide +kernel
theorem dX0_handOn_117 : decode cX0_handOn 117 = .ok (.getfield 31, 3) := by decide +kernel
theorem dX0_handOn_120 : decode cX0_handOn 120 = .ok (.iload_n 2, 1) := by decide +kernel
theorem dX0_handOn_121 : decode cX0_handOn 121 = .ok (.iload 4, 2) := by decide +kernel
theorem dX0_handOn_123 : decode cX0_handOn 123 = .ok (.iastore, 1) := by decide +kernel
theorem dX0_handOn_124 : decode cX0_handOn 124 = .ok (.iinc 1 1, 3) := by decide +kernel
theorem dX0_handOn_127 : decode cX0_handOn 127 = .ok (.goto (-125), 3) := by decide +kernel
theorem dX0_handOn_130 : decode cX0_handOn 130 = .ok (.return_, 1) := by decide +kernel
theorem dX0_tour_0 : decode cX0_tour 0 = .ok (.aload_n 0, 1) := by decide +kernel
theorem dX0_tour_1 : decode cX0_tour 1 = .ok (.iconst 0, 1) := by decide +kernel
theorem dX0_tour_2 : decode cX0_tour 2 = .ok (.putfield 134, 3) := by decide +kernel
theorem dX0_tour_5 : decode cX0_tour 5 = .ok (.aload_n 0, 1) := by decide +kernel
theorem dX0_tour_6 : decode cX0_tour 6 = .ok (.iconst 0, 1) := by decide +kernel
theorem dX0_tour_7 : decode cX0_tour 7 = .ok (.putfield 137, 3) := by decide +kernel
theorem dX0_tour_10 : decode cX0_tour 10 = .ok (.iconst 0, 1) := by decide +kernel
theorem dX0_tour_11 : decode cX0_tour 11 = .ok (.istore_n 2, 1) := by decide +kernel
theorem dX0_tour_12 : decode cX0_tour 12 = .ok (.iload_n 2, 1) := by decide +kernel
theorem dX0_tour_13 : decode cX0_tour 13 = .ok (.aload_n 0, 1) := by decide +kernel
theorem dX0_tour_14 : decode cX0_tour 14 = .ok (.getfield 55, 3) := by decide +kernel
theorem dX0_tour_17 : decode cX0_tour 17 = .ok (.getfield 140, 3) := by decide +kernel
theorem dX0_tour_20 : decode cX0_tour 20 = .ok (.if_icmp .ge 106, 3) := by decide +kernel
theorem dX0_tour_23 : decode cX0_tour 23 = .ok (.aload_n 0, 1) := by decide +kernel
theorem dX0_tour_24 : decode cX0_tour 24 = .ok (.getfield 55, 3) := by decide +kernel
theorem dX0_tour_27 : decode cX0_tour 27 = .ok (.getfield 143, 3) := by decide +kernel
theorem dX0_tour_30 : decode cX0_tour 30 = .ok (.iload_n 2, 1) := by decide +kernel
theorem dX0_tour_31 : decode cX0_tour 31 = .ok (.iaload, 1) := by decide +kernel
theorem dX0_tour_32 : decode cX0_tour 32 = .ok (.aload_n 0, 1) := by decide +kernel
theorem dX0_tour_33 : decode cX0_tour 33 = .ok (.getfield 69, 3) := by decide +kernel
theorem dX0_tour_36 : decode cX0_tour 36 = .ok (.if_icmp .ne 84, 3) := by decide +kernel
theorem dX0_tour_39 : decode cX0_tour 39 = .ok (.aload_n 0, 1) := by decide +kernel
theorem dX0_tour_40 : decode cX0_tour 40 = .ok (.getfield 55, 3) := by decide +kernel
theorem dX0_tour_43 : decode cX0_tour 43 = .ok (.getfield 146, 3) := by decide +kernel
theorem dX0_tour_46 : decode cX0_tour 46 = .ok (.iload_n 2, 1) := by decide +kernel
theorem dX0_tour_47 : decode cX0_tour 47 = .ok (.iaload, 1) := by decide +kernel
theorem dX0_tour_48 : decode cX0_tour 48 = .ok (.iload_n 1, 1) := by decide +kernel
theorem dX0_tour_49 : decode cX0_tour 49 = .ok (.if_icmp .ne 71, 3) := by decide +kernel
theorem dX0_tour_52 : decode cX0_tour 52 = .ok (.aload_n 0, 1) := by decide +kernel
theorem dX0_tour_53 : decode cX0_tour 53 = .ok (.getfield 55, 3) := by decide +kernel
theorem dX0_tour_56 : decode cX0_tour 56 = .ok (.getfield 149, 3) := by decide +kernel
theorem dX0_tour_59 : decode cX0_tour 59 = .ok (.iload_n 2, 1) := by decide +kernel
theorem dX0_tour_60 : decode cX0_tour 60 = .ok (.iaload, 1) := by decide +kernel
theorem dX0_tour_61 : decode cX0_tour 61 = .ok (.istore_n 3, 1) := by decide +kernel
theorem dX0_tour_62 : decode cX0_tour 62 = .ok (.aload_n 0, 1) := by decide +kernel
theorem dX0_tour_63 : decode cX0_tour 63 = .ok (.getfield 55, 3) := by decide +kernel
theorem dX0_tour_66 : decode cX0_tour 66 = .ok (.getfield 152, 3) := by decide +kernel
theorem dX0_tour_69 : decode cX0_tour 69 = .ok (.iload_n 2, 1) := by decide +kernel
theorem dX0_tour_70 : decode cX0_tour 70 = .ok (.iaload, 1) := by decide +kernel
theorem dX0_tour_71 : decode cX0_tour 71 = .ok (.istore 4, 2) := by decide +kernel
theorem dX0_tour_73 : decode cX0_tour 73 = .ok (.aload_n 0, 1) := by decide +kernel
theorem dX0_tour_74 : decode cX0_tour 74 = .ok (.iload_n 2, 1) := by decide +kernel
theorem dX0_tour_75 : decode cX0_tour 75 = .ok (.invokevirtual 155, 3) := by decide +kernel
theorem dX0_tour_78 : decode cX0_tour 78 = .ok (.aload_n 0, 1) := by decide +kernel
theorem dX0_tour_79 : decode cX0_tour 79 = .ok (.getfield 13, 3) := by decide +kernel
theorem dX0_tour_82 : decode cX0_tour 82 = .ok (.iconst 0, 1) := by decide +kernel
theorem dX0_tour_83 : decode cX0_tour 83 = .ok (.aaload, 1) := by decide +kernel
theorem dX0_tour_84 : decode cX0_tour 84 = .ok (.iload_n 2, 1) := by decide +kernel
theorem dX0_tour_85 : decode cX0_tour 85 = .ok (.aload_n 0, 1) := by decide +kernel
theorem dX0_tour_86 : decode cX0_tour 86 = .ok (.iload_n 1, 1) := by decide +kernel
theorem dX0_tour_87 : decode cX0_tour 87 = .ok (.iload_n 3, 1) := by decide +kernel
theorem dX0_tour_88 : decode cX0_tour 88 = .ok (.iload 4, 2) := by decide +kernel
theorem dX0_tour_90 : decode cX0_tour 90 = .ok (.invokevirtual 158, 3) := by decide +kernel
theorem dX0_tour_93 : decode cX0_tour 93 = .ok (.iastore, 1) := by decide +kernel
theorem dX0_tour_94 : decode cX0_tour 94 = .ok (.aload_n 0, 1) := by decide +kernel
theorem dX0_tour_95 : decode cX0_tour 95 = .ok (.getfield 13, 3) := by decide +kernel
theorem dX0_tour_98 : decode cX0_tour 98 = .ok (.iconst 0, 1) := by decide +kernel
theorem dX0_tour_99 : decode cX0_tour 99 = .ok (.aaload, 1) := by decide +kernel
theorem dX0_tour_100 : decode cX0_tour 100 = .ok (.iload_n 2, 1) := by decide +kernel
theorem dX0_tour_101 : decode cX0_tour 101 = .ok (.iaload, 1) := by decide +kernel
theorem dX0_tour_102 : decode cX0_tour 102 = .ok (.ifCond .ne 18, 3) := by decide +kernel
theorem dX0_tour_105 : decode cX0_tour 105 = .ok (.aload_n 0, 1) := by decide +kernel
theorem dX0_tour_106 : decode cX0_tour 106 = .ok (.iload_n 2, 1) := by decide +kernel
theorem dX0_tour_107 : decode cX0_tour 107 = .ok (.iload_n 1, 1) := by decide +kernel
theorem dX0_tour_108 : decode cX0_tour 108 = .ok (.iload_n 3, 1) := by decide +kernel
theorem dX0_tour_109 : decode cX0_tour 109 = .ok (.invokevirtual 162, 3) := by decide +kernel
theorem dX0_tour_112 : decode cX0_tour 112 = .ok (.aload_n 0, 1) := by decide +kernel
theorem dX0_tour_113 : decode cX0_tour 113 = .ok (.iload_n 2, 1) := by decide +kernel
theorem dX0_tour_114 : decode cX0_tour 114 = .ok (.iload_n 3, 1) := by decide +kernel
theorem dX0_tour_115 : decode cX0_tour 115 = .ok (.iload 4, 2) := by decide +kernel
theorem dX0_tour_117 : decode cX0_tour 117 = .ok (.invokevirtual 166, 3) := by decide +kernel
theorem dX0_tour_120 : decode cX0_tour 120 = .ok (.iinc 2 1, 3) := by decide +kernel
theorem dX0_tour_123 : decode cX0_tour 123 = .ok (.goto (-111), 3) := by decide +kernel
theorem dX0_tour_126 : decode cX0_tour 126 = .ok (.return_, 1) := by decide +kernel
theorem dX0_forget_0 : decode cX0_forget 0 = .ok (.iconst 0, 1) := by decide +kernel
theorem dX0_forget_1 : decode cX0_forget 1 = .ok (.istore_n 2, 1) := by decide +kernel
theorem dX0_forget_2 : decode cX0_forget 2 = .ok (.iload_n 2, 1) := by decide +kernel
theorem dX0_forget_3 : decode cX0_forget 3 = .ok (.bipush 7, 2) := by decide +kernel
theorem dX0_forget_5 : decode cX0_forget 5 = .ok (.if_icmp .ge 18, 3) := by decide +kernel
theorem dX0_forget_8 : decode cX0_forget 8 = .ok (.aload_n 0, 1) := by decide +kernel
theorem dX0_forget_9 : decode cX0_forget 9 = .ok (.getfield 13, 3) := by decide +kernel
theorem dX0_forget_12 : decode cX0_forget 12 = .ok (.iload_n 2, 1) := by decide +kernel
theorem dX0_forget_13 : decode cX0_forget 13 = .ok (.aaload, 1) := by decide +kernel
theorem dX0_forget_14 : decode cX0_forget 14 = .ok (.iload_n 1, 1) := by decide +kernel
theorem dX0_forget_15 : decode cX0_forget 15 = .ok (.iconst 0, 1) := by decide +kernel
theorem dX0_forget_16 : decode cX0_forget 16 = .ok (.iastore, 1) := by decide +kernel
theorem dX0_forget_17 : decode cX0_forget 17 = .ok (.iinc 2 1, 3) := by decide +kernel
theorem dX0_forget_20 : decode cX0_forget 20 = .ok (.goto (-18), 3) := by decide +kernel
theorem dX0_forget_23 : decode cX0_forget 23 = .ok (.return_, 1) := by decide +kernel
theorem dX0_causeAgainst_0 : decode cX0_causeAgainst 0 = .ok (.aload_n 0, 1) := by decide +kernel
theorem dX0_causeAgainst_1 : decode cX0_causeAgainst 1 = .ok (.getfield 51, 3) := by decide +kernel
theorem dX0_causeAgainst_4 : decode cX0_causeAgainst 4 = .ok (.iload_n 1, 1) := by decide +kernel
theorem dX0_causeAgainst_5 : decode cX0_causeAgainst 5 = .ok (.aload_n 0, 1) := by decide +kernel
theorem dX0_causeAgainst_6 : decode cX0_causeAgainst 6 = .ok (.getfield 69, 3) := by decide +kernel
theorem dX0_causeAgainst_9 : decode cX0_causeAgainst 9 = .ok (.invokevirtual 131, 3) := by decide +kernel
theorem dX0_causeAgainst_12 : decode cX0_causeAgainst 12 = .ok (.ifCond .eq 5, 3) := by decide +kernel
theorem dX0_causeAgainst_15 : decode cX0_causeAgainst 15 = .ok (.iconst 1, 1) := by decide +kernel
theorem dX0_causeAgainst_16 : decode cX0_causeAgainst 16 = .ok (.ireturn, 1) := by decide +kernel
theorem dX0_causeAgainst_17 : decode cX0_causeAgainst 17 = .ok (.aload_n 0, 1) := by decide +kernel
theorem dX0_causeAgainst_18 : decode cX0_causeAgainst 18 = .ok (.getfield 137, 3) := by decide +kernel
theorem dX0_causeAgainst_21 : decode cX0_causeAgainst 21 = .ok (.iconst 2, 1) := by decide +kernel
theorem dX0_causeAgainst_22 : decode cX0_causeAgainst 22 = .ok (.if_icmp .lt 5, 3) := by decide +kernel
theorem dX0_causeAgainst_25 : decode cX0_causeAgainst 25 = .ok (.iconst 2, 1) := by decide +kernel
theorem dX0_causeAgainst_26 : decode cX0_causeAgainst 26 = .ok (.ireturn, 1) := by decide +kernel
theorem dX0_causeAgainst_27 : decode cX0_causeAgainst 27 = .ok (.aload_n 0, 1) := by decide +kernel
theorem dX0_causeAgainst_28 : decode cX0_causeAgainst 28 = .ok (.getfield 31, 3) := by decide +kernel
theorem dX0_causeAgainst_31 : decode cX0_causeAgainst 31 = .ok (.iload_n 3, 1) := by decide +kernel
theorem dX0_causeAgainst_32 : decode cX0_causeAgainst 32 = .ok (.iaload, 1) := by decide +kernel
theorem dX0_causeAgainst_33 : decode cX0_causeAgainst 33 = .ok (.iload_n 1, 1) := by decide +kernel
theorem dX0_causeAgainst_34 : decode cX0_causeAgainst 34 = .ok (.if_icmp .eq 5, 3) := by decide +kernel
theorem dX0_causeAgainst_37 : decode cX0_causeAgainst 37 = .ok (.iconst 3, 1) := by decide +kernel
theorem dX0_causeAgainst_38 : decode cX0_causeAgainst 38 = .ok (.ireturn, 1) := by decide +kernel
theorem dX0_causeAgainst_39 : decode cX0_causeAgainst 39 = .ok (.aload_n 0, 1) := by decide +kernel
theorem dX0_causeAgainst_40 : decode cX0_causeAgainst 40 = .ok (.getfield 47, 3) := by decide +kernel
theorem dX0_causeAgainst_43 : decode cX0_causeAgainst 43 = .ok (.aload_n 0, 1) := by decide +kernel
theorem dX0_causeAgainst_44 : decode cX0_causeAgainst 44 = .ok (.getfield 22, 3) := by decide +kernel
theorem dX0_causeAgainst_47 : decode cX0_causeAgainst 47 = .ok (.iload_n 1, 1) := by decide +kernel
theorem dX0_causeAgainst_48 : decode cX0_causeAgainst 48 = .ok (.iaload, 1) := by decide +kernel
theorem dX0_causeAgainst_49 : decode cX0_causeAgainst 49 = .ok (.iload_n 2, 1) := by decide +kernel
theorem dX0_causeAgainst_50 : decode cX0_causeAgainst 50 = .ok (.aload_n 0, 1) := by decide +kernel
theorem dX0_causeAgainst_51 : decode cX0_causeAgainst 51 = .ok (.getfield 73, 3) := by decide +kernel
theorem dX0_causeAgainst_54 : decode cX0_causeAgainst 54 = .ok (.invokevirtual 169, 3) := by decide +kernel
theorem dX0_causeAgainst_57 : decode cX0_causeAgainst 57 = .ok (.istore 4, 2) := by decide +kernel
theorem dX0_causeAgainst_59 : decode cX0_causeAgainst 59 = .ok (.iload 4, 2) := by decide +kernel
theorem dX0_causeAgainst_61 : decode cX0_causeAgainst 61 = .ok (.iconst (-1), 1) := by decide +kernel
theorem dX0_causeAgainst_62 : decode cX0_causeAgainst 62 = .ok (.if_icmp .ne 5, 3) := by decide +kernel
theorem dX0_causeAgainst_65 : decode cX0_causeAgainst 65 = .ok (.iconst 4, 1) := by decide +kernel
theorem dX0_causeAgainst_66 : decode cX0_causeAgainst 66 = .ok (.ireturn, 1) := by decide +kernel
theorem dX0_causeAgainst_67 : decode cX0_causeAgainst 67 = .ok (.aload_n 0, 1) := by decide +kernel
theorem dX0_causeAgainst_68 : decode cX0_causeAgainst 68 = .ok (.getfield 134, 3) := by decide +kernel
theorem dX0_causeAgainst_71 : decode cX0_causeAgainst 71 = .ok (.iload 4, 2) := by decide +kernel
theorem dX0_causeAgainst_73 : decode cX0_causeAgainst 73 = .ok (.iadd, 1) := by decide +kernel
theorem dX0_causeAgainst_74 : decode cX0_causeAgainst 74 = .ok (.aload_n 0, 1) := by decide +kernel
theorem dX0_causeAgainst_75 : decode cX0_causeAgainst 75 = .ok (.getfield 51, 3) := by decide +kernel
theorem dX0_causeAgainst_78 : decode cX0_causeAgainst 78 = .ok (.getfield 116, 3) := by decide +kernel
theorem dX0_causeAgainst_81 : decode cX0_causeAgainst 81 = .ok (.iload_n 3, 1) := by decide +kernel
theorem dX0_causeAgainst_82 : decode cX0_causeAgainst 82 = .ok (.aaload, 1) := by decide +kernel
theorem dX0_causeAgainst_83 : decode cX0_causeAgainst 83 = .ok (.iconst 2, 1) := by decide +kernel
theorem dX0_causeAgainst_84 : decode cX0_causeAgainst 84 = .ok (.iaload, 1) := by decide +kernel
theorem dX0_causeAgainst_85 : decode cX0_causeAgainst 85 = .ok (.iadd, 1) := by decide +kernel
theorem dX0_causeAgainst_86 : decode cX0_causeAgainst 86 = .ok (.aload_n 0, 1) := by decide +kernel
theorem dX0_causeAgainst_87 : decode cX0_causeAgainst 87 = .ok (.getfield 59, 3) := by decide +kernel
theorem dX0_causeAgainst_90 : decode cX0_causeAgainst 90 = .ok (.getfield 174, 3) := by decide +kernel
theorem dX0_causeAgainst_93 : decode cX0_causeAgainst 93 = .ok (.if_icmp .le 5, 3) := by decide +kernel
theorem dX0_causeAgainst_96 : decode cX0_causeAgainst 96 = .ok (.iconst 5, 1) := by decide +kernel
theorem dX0_causeAgainst_97 : decode cX0_causeAgainst 97 = .ok (.ireturn, 1) := by decide +kernel
theorem dX0_causeAgainst_98 : decode cX0_causeAgainst 98 = .ok (.aload_n 0, 1) := by decide +kernel
theorem dX0_causeAgainst_99 : decode cX0_causeAgainst 99 = .ok (.getfield 76, 3) := by decide +kernel
theorem dX0_causeAgainst_102 : decode cX0_causeAgainst 102 = .ok (.iload_n 2, 1) := by decide +kernel
theorem dX0_causeAgainst_103 : decode cX0_causeAgainst 103 = .ok (.ishr, 1) := by decide +kernel
theorem dX0_causeAgainst_104 : decode cX0_causeAgainst 104 = .ok (.iconst 1, 1) := by decide +kernel
theorem dX0_causeAgainst_105 : decode cX0_causeAgainst 105 = .ok (.iand, 1) := by decide +kernel
theorem dX0_causeAgainst_106 : decode cX0_causeAgainst 106 = .ok (.iconst 1, 1) := by decide +kernel
theorem dX0_causeAgainst_107 : decode cX0_causeAgainst 107 = .ok (.if_icmp .ne 6, 3) := by decide +kernel
theorem dX0_causeAgainst_110 : decode cX0_causeAgainst 110 = .ok (.bipush 6, 2) := by decide +kernel
theorem dX0_causeAgainst_112 : decode cX0_causeAgainst 112 = .ok (.ireturn, 1) := by decide +kernel
theorem dX0_causeAgainst_113 : decode cX0_causeAgainst 113 = .ok (.aload_n 0, 1) := by decide +kernel
theorem dX0_causeAgainst_114 : decode cX0_causeAgainst 114 = .ok (.iload_n 2, 1) := by decide +kernel
theorem dX0_causeAgainst_115 : decode cX0_causeAgainst 115 = .ok (.iload_n 3, 1) := by decide +kernel
theorem dX0_causeAgainst_116 : decode cX0_causeAgainst 116 = .ok (.invokevirtual 179, 3) := by decide +kernel
theorem dX0_causeAgainst_119 : decode cX0_causeAgainst 119 = .ok (.aload_n 0, 1) := by decide +kernel
theorem dX0_causeAgainst_120 : decode cX0_causeAgainst 120 = .ok (.getfield 59, 3) := by decide +kernel
theorem dX0_causeAgainst_123 : decode cX0_causeAgainst 123 = .ok (.iconst 0, 1) := by decide +kernel
theorem dX0_causeAgainst_124 : decode cX0_causeAgainst 124 = .ok (.aload_n 0, 1) := by decide +kernel
theorem dX0_causeAgainst_125 : decode cX0_causeAgainst 125 = .ok (.getfield 43, 3) := by decide +kernel
theorem dX0_causeAgainst_128 : decode cX0_causeAgainst 128 = .ok (.invokevirtual 183, 3) := by decide +kernel
theorem dX0_causeAgainst_131 : decode cX0_causeAgainst 131 = .ok (.lstore 5, 2) := by decide +kernel
theorem dX0_causeAgainst_133 : decode cX0_causeAgainst 133 = .ok (.lload 5, 2) := by decide +kernel
theorem dX0_causeAgainst_135 : decode cX0_causeAgainst 135 = .ok (.lconst 0, 1) := by decide +kernel
theorem dX0_causeAgainst_136 : decode cX0_causeAgainst 136 = .ok (.lcmp, 1) := by decide +kernel
theorem dX0_causeAgainst_137 : decode cX0_causeAgainst 137 = .ok (.ifCond .eq 12, 3) := by decide +kernel
theorem dX0_causeAgainst_140 : decode cX0_causeAgainst 140 = .ok (.lload 5, 2) := by decide +kernel
theorem dX0_causeAgainst_142 : decode cX0_causeAgainst 142 = .ok (.ldc2_w 187, 3) := by decide +kernel
theorem dX0_causeAgainst_145 : decode cX0_causeAgainst 145 = .ok (.lcmp, 1) := by decide +kernel
theorem dX0_causeAgainst_146 : decode cX0_causeAgainst 146 = .ok (.ifCond .ne 8, 3) := by decide +kernel
theorem dX0_causeAgainst_149 : decode cX0_causeAgainst 149 = .ok (.bipush 7, 2) := by decide +kernel
theorem dX0_causeAgainst_151 : decode cX0_causeAgainst 151 = .ok (.goto 4, 3) := by decide +kernel
theorem dX0_causeAgainst_154 : decode cX0_causeAgainst 154 = .ok (.iconst 0, 1) := by decide +kernel
theorem dX0_causeAgainst_155 : decode cX0_causeAgainst 155 = .ok (.ireturn, 1) := by decide +kernel
theorem dX0_gatherFacts_0 : decode cX0_gatherFacts 0 = .ok (.aload_n 0, 1) := by decide +kernel
theorem dX0_gatherFacts_1 : decode cX0_gatherFacts 1 = .ok (.getfield 47, 3) := by decide +kernel
theorem dX0_gatherFacts_4 : decode cX0_gatherFacts 4 = .ok (.getfield 189, 3) := by decide +kernel
theorem dX0_gatherFacts_7 : decode cX0_gatherFacts 7 = .ok (.iload_n 1, 1) := by decide +kernel
theorem dX0_gatherFacts_8 : decode cX0_gatherFacts 8 = .ok (.aaload, 1) := by decide +kernel
theorem dX0_gatherFacts_9 : decode cX0_gatherFacts 9 = .ok (.astore_n 3, 1) := by decide +kernel
theorem dX0_gatherFacts_10 : decode cX0_gatherFacts 10 = .ok (.aload_n 0, 1) := by decide +kernel
theorem dX0_gatherFacts_11 : decode cX0_gatherFacts 11 = .ok (.getfield 51, 3) := by decide +kernel
theorem dX0_gatherFacts_14 : decode cX0_gatherFacts 14 = .ok (.getfield 116, 3) := by decide +kernel
theorem dX0_gatherFacts_17 : decode cX0_gatherFacts 17 = .ok (.iload_n 2, 1) := by decide +kernel
theorem dX0_gatherFacts_18 : decode cX0_gatherFacts 18 = .ok (.aaload, 1) := by decide +kernel
theorem dX0_gatherFacts_19 : decode cX0_gatherFacts 19 = .ok (.astore 4, 2) := by decide +kernel
theorem dX0_gatherFacts_21 : decode cX0_gatherFacts 21 = .ok (.aload 4, 2) := by decide +kernel
theorem dX0_gatherFacts_23 : decode cX0_gatherFacts 23 = .ok (.iconst 0, 1) := by decide +kernel
theorem dX0_gatherFacts_24 : decode cX0_gatherFacts 24 = .ok (.iaload, 1) := by decide +kernel
theorem dX0_gatherFacts_25 : decode cX0_gatherFacts 25 = .ok (.istore 5, 2) := by decide +kernel
theorem dX0_gatherFacts_27 : decode cX0_gatherFacts 27 = .ok (.aload_n 0, 1) := by decide +kernel
theorem dX0_gatherFacts_28 : decode cX0_gatherFacts 28 = .ok (.getfield 43, 3) := by decide +kernel
theorem dX0_gatherFacts_31 : decode cX0_gatherFacts 31 = .ok (.iconst 0, 1) := by decide +kernel
theorem dX0_gatherFacts_32 : decode cX0_gatherFacts 32 = .ok (.aload_n 3, 1) := by decide +kernel
theorem dX0_gatherFacts_33 : decode cX0_gatherFacts 33 = .ok (.iconst 0, 1) := by decide +kernel
theorem dX0_gatherFacts_34 : decode cX0_gatherFacts 34 = .ok (.iaload, 1) := by decide +kernel
theorem dX0_gatherFacts_35 : decode cX0_gatherFacts 35 = .ok (.i2l, 1) := by decide +kernel
theorem dX0_gatherFacts_36 : decode cX0_gatherFacts 36 = .ok (.lastore, 1) := by decide +kernel
theorem dX0_gatherFacts_37 : decode cX0_gatherFacts 37 = .ok (.aload_n 0, 1) := by decide +kernel
theorem dX0_gatherFacts_38 : decode cX0_gatherFacts 38 = .ok (.getfield 43, 3) := by decide +kernel
theorem dX0_gatherFacts_41 : decode cX0_gatherFacts 41 = .ok (.iconst 1, 1) := by decide +kernel
theorem dX0_gatherFacts_42 : decode cX0_gatherFacts 42 = .ok (.aload_n 3, 1) := by decide +kernel
theorem dX0_gatherFacts_43 : decode cX0_gatherFacts 43 = .ok (.iconst 1, 1) := by decide +kernel
theorem dX0_gatherFacts_44 : decode cX0_gatherFacts 44 = .ok (.iaload, 1) := by decide +kernel
theorem dX0_gatherFacts_45 : decode cX0_gatherFacts 45 = .ok (.i2l, 1) := by decide +kernel
theorem dX0_gatherFacts_46 : decode cX0_gatherFacts 46 = .ok (.lastore, 1) := by decide +kernel
theorem dX0_gatherFacts_47 : decode cX0_gatherFacts 47 = .ok (.aload_n 0, 1) := by decide +kernel
theorem dX0_gatherFacts_48 : decode cX0_gatherFacts 48 = .ok (.getfield 43, 3) := by decide +kernel
theorem dX0_gatherFacts_51 : decode cX0_gatherFacts 51 = .ok (.iconst 2, 1) := by decide +kernel
theorem dX0_gatherFacts_52 : decode cX0_gatherFacts 52 = .ok (.aload_n 3, 1) := by decide +kernel
theorem dX0_gatherFacts_53 : decode cX0_gatherFacts 53 = .ok (.iconst 2, 1) := by decide +kernel
theorem dX0_gatherFacts_54 : decode cX0_gatherFacts 54 = .ok (.iaload, 1) := by decide +kernel
theorem dX0_gatherFacts_55 : decode cX0_gatherFacts 55 = .ok (.i2l, 1) := by decide +kernel
theorem dX0_gatherFacts_56 : decode cX0_gatherFacts 56 = .ok (.lastore, 1) := by decide +kernel
theorem dX0_gatherFacts_57 : decode cX0_gatherFacts 57 = .ok (.aload_n 0, 1) := by decide +kernel
theorem dX0_gatherFacts_58 : decode cX0_gatherFacts 58 = .ok (.getfield 43, 3) := by decide +kernel
theorem dX0_gatherFacts_61 : decode cX0_gatherFacts 61 = .ok (.iconst 3, 1) := by decide +kernel
theorem dX0_gatherFacts_62 : decode cX0_gatherFacts 62 = .ok (.aload_n 3, 1) := by decide +kernel
theorem dX0_gatherFacts_63 : decode cX0_gatherFacts 63 = .ok (.iconst 3, 1) := by decide +kernel
theorem dX0_gatherFacts_64 : decode cX0_gatherFacts 64 = .ok (.iaload, 1) := by decide +kernel
theorem dX0_gatherFacts_65 : decode cX0_gatherFacts 65 = .ok (.i2l, 1) := by decide +kernel
theorem dX0_gatherFacts_66 : decode cX0_gatherFacts 66 = .ok (.lastore, 1) := by decide +kernel
theorem dX0_gatherFacts_67 : decode cX0_gatherFacts 67 = .ok (.aload_n 0, 1) := by decide +kernel
theorem dX0_gatherFacts_68 : decode cX0_gatherFacts 68 = .ok (.getfield 43, 3) := by decide +kernel
theorem dX0_gatherFacts_71 : decode cX0_gatherFacts 71 = .ok (.iconst 4, 1) := by decide +kernel
theorem dX0_gatherFacts_72 : decode cX0_gatherFacts 72 = .ok (.aload_n 3, 1) := by decide +kernel
theorem dX0_gatherFacts_73 : decode cX0_gatherFacts 73 = .ok (.iconst 4, 1) := by decide +kernel
theorem dX0_gatherFacts_74 : decode cX0_gatherFacts 74 = .ok (.iload 5, 2) := by decide +kernel
theorem dX0_gatherFacts_76 : decode cX0_gatherFacts 76 = .ok (.iadd, 1) := by decide +kernel
theorem dX0_gatherFacts_77 : decode cX0_gatherFacts 77 = .ok (.iaload, 1) := by decide +kernel
theorem dX0_gatherFacts_78 : decode cX0_gatherFacts 78 = .ok (.i2l, 1) := by decide +kernel
theorem dX0_gatherFacts_79 : decode cX0_gatherFacts 79 = .ok (.lastore, 1) := by decide +kernel
theorem dX0_gatherFacts_80 : decode cX0_gatherFacts 80 = .ok (.aload_n 0, 1) := by decide +kernel
theorem dX0_gatherFacts_81 : decode cX0_gatherFacts 81 = .ok (.getfield 43, 3) := by decide +kernel
theorem dX0_gatherFacts_84 : decode cX0_gatherFacts 84 = .ok (.iconst 5, 1) := by decide +kernel
theorem dX0_gatherFacts_85 : decode cX0_gatherFacts 85 = .ok (.iload 5, 2) := by decide +kernel
theorem dX0_gatherFacts_87 : decode cX0_gatherFacts 87 = .ok (.i2l, 1) := by decide +kernel
theorem dX0_gatherFacts_88 : decode cX0_gatherFacts 88 = .ok (.lastore, 1) := by decide +kernel
theorem dX0_gatherFacts_89 : decode cX0_gatherFacts 89 = .ok (.aload_n 0, 1) := by decide +kernel
theorem dX0_gatherFacts_90 : decode cX0_gatherFacts 90 = .ok (.getfield 43, 3) := by decide +kernel
theorem dX0_gatherFacts_93 : decode cX0_gatherFacts 93 = .ok (.bipush 6, 2) := by decide +kernel
theorem dX0_gatherFacts_95 : decode cX0_gatherFacts 95 = .ok (.aload 4, 2) := by decide +kernel
theorem dX0_gatherFacts_97 : decode cX0_gatherFacts 97 = .ok (.iconst 1, 1) := by decide +kernel
theorem dX0_gatherFacts_98 : decode cX0_gatherFacts 98 = .ok (.iaload, 1) := by decide +kernel
theorem dX0_gatherFacts_99 : decode cX0_gatherFacts 99 = .ok (.i2l, 1) := by decide +kernel
theorem dX0_gatherFacts_100 : decode cX0_gatherFacts 100 = .ok (.lastore, 1) := by decide +kernel
theorem dX0_gatherFacts_101 : decode cX0_gatherFacts 101 = .ok (.aload_n 0, 1) := by decide +kernel
theorem dX0_gatherFacts_102 : decode cX0_gatherFacts 102 = .ok (.getfield 43, 3) := by decide +kernel
theorem dX0_gatherFacts_105 : decode cX0_gatherFacts 105 = .ok (.bipush 7, 2) := by decide +kernel
theorem dX0_gatherFacts_107 : decode cX0_gatherFacts 107 = .ok (.aload 4, 2) := by decide +kernel
theorem dX0_gatherFacts_109 : decode cX0_gatherFacts 109 = .ok (.iconst 2, 1) := by decide +kernel
theorem dX0_gatherFacts_110 : decode cX0_gatherFacts 110 = .ok (.iaload, 1) := by decide +kernel
theorem dX0_gatherFacts_111 : decode cX0_gatherFacts 111 = .ok (.i2l, 1) := by decide +kernel
theorem dX0_gatherFacts_112 : decode cX0_gatherFacts 112 = .ok (.lastore, 1) := by decide +kernel
theorem dX0_gatherFacts_113 : decode cX0_gatherFacts 113 = .ok (.aload_n 0, 1) := by decide +kernel
theorem dX0_gatherFacts_114 : decode cX0_gatherFacts 114 = .ok (.getfield 43, 3) := by decide +kernel
theorem dX0_gatherFacts_117 : decode cX0_gatherFacts 117 = .ok (.bipush 8, 2) := by decide +kernel
theorem dX0_gatherFacts_119 : decode cX0_gatherFacts 119 = .ok (.aload_n 0, 1) := by decide +kernel
theorem dX0_gatherFacts_120 : decode cX0_gatherFacts 120 = .ok (.getfield 69, 3) := by decide +kernel
theorem dX0_gatherFacts_123 : decode cX0_gatherFacts 123 = .ok (.i2l, 1) := by decide +kernel
theorem dX0_gatherFacts_124 : decode cX0_gatherFacts 124 = .ok (.lastore, 1) := by decide +kernel
theorem dX0_gatherFacts_125 : decode cX0_gatherFacts 125 = .ok (.aload_n 0, 1) := by decide +kernel
theorem dX0_gatherFacts_126 : decode cX0_gatherFacts 126 = .ok (.getfield 43, 3) := by decide +kernel
theorem dX0_gatherFacts_129 : decode cX0_gatherFacts 129 = .ok (.bipush 9, 2) := by decide +kernel
theorem dX0_gatherFacts_131 : decode cX0_gatherFacts 131 = .ok (.aload_n 0, 1) := by decide +kernel
theorem dX0_gatherFacts_132 : decode cX0_gatherFacts 132 = .ok (.getfield 37, 3) := by decide +kernel
theorem dX0_gatherFacts_135 : decode cX0_gatherFacts 135 = .ok (.iload_n 2, 1) := by decide +kernel
theorem dX0_gatherFacts_136 : decode cX0_gatherFacts 136 = .ok (.iaload, 1) := by decide +kernel
theorem dX0_gatherFacts_137 : decode cX0_gatherFacts 137 = .ok (.i2l, 1) := by decide +kernel
theorem dX0_gatherFacts_138 : decode cX0_gatherFacts 138 = .ok (.lastore, 1) := by decide +kernel
theorem dX0_gatherFacts_139 : decode cX0_gatherFacts 139 = .ok (.aload_n 0, 1) := by decide +kernel
theorem dX0_gatherFacts_140 : decode cX0_gatherFacts 140 = .ok (.getfield 43, 3) := by decide +kernel
theorem dX0_gatherFacts_143 : decode cX0_gatherFacts 143 = .ok (.bipush 10, 2) := by decide +kernel
theorem dX0_gatherFacts_145 : decode cX0_gatherFacts 145 = .ok (.aload_n 0, 1) := by decide +kernel
theorem dX0_gatherFacts_146 : decode cX0_gatherFacts 146 = .ok (.iload_n 1, 1) := by decide +kernel
theorem dX0_gatherFacts_147 : decode cX0_gatherFacts 147 = .ok (.iload_n 2, 1) := by decide +kernel
theorem dX0_gatherFacts_148 : decode cX0_gatherFacts 148 = .ok (.invokevirtual 191, 3) := by decide +kernel
theorem dX0_gatherFacts_151 : decode cX0_gatherFacts 151 = .ok (.i2l, 1) := by decide +kernel
theorem dX0_gatherFacts_152 : decode cX0_gatherFacts 152 = .ok (.lastore, 1) := by decide +kernel
theorem dX0_gatherFacts_153 : decode cX0_gatherFacts 153 = .ok (.return_, 1) := by decide +kernel
theorem dX0_headsAt_0 : decode cX0_headsAt 0 = .ok (.aload_n 0, 1) := by decide +kernel
theorem dX0_headsAt_1 : decode cX0_headsAt 1 = .ok (.getfield 47, 3) := by decide +kernel
theorem dX0_headsAt_4 : decode cX0_headsAt 4 = .ok (.getfield 189, 3) := by decide +kernel
theorem dX0_headsAt_7 : decode cX0_headsAt 7 = .ok (.iload_n 1, 1) := by decide +kernel
theorem dX0_headsAt_8 : decode cX0_headsAt 8 = .ok (.aaload, 1) := by decide +kernel
theorem dX0_headsAt_9 : decode cX0_headsAt 9 = .ok (.astore_n 3, 1) := by decide +kernel
theorem dX0_headsAt_10 : decode cX0_headsAt 10 = .ok (.aload_n 3, 1) := by decide +kernel
theorem dX0_headsAt_11 : decode cX0_headsAt 11 = .ok (.iconst 4, 1) := by decide +kernel
theorem dX0_headsAt_12 : decode cX0_headsAt 12 = .ok (.aload_n 0, 1) := by decide +kernel
theorem dX0_headsAt_13 : decode cX0_headsAt 13 = .ok (.getfield 51, 3) := by decide +kernel
theorem dX0_headsAt_16 : decode cX0_headsAt 16 = .ok (.getfield 116, 3) := by decide +kernel
theorem dX0_headsAt_19 : decode cX0_headsAt 19 = .ok (.iload_n 2, 1) := by decide +kernel
theorem dX0_headsAt_20 : decode cX0_headsAt 20 = .ok (.aaload, 1) := by decide +kernel
theorem dX0_headsAt_21 : decode cX0_headsAt 21 = .ok (.iconst 0, 1) := by decide +kernel
theorem dX0_headsAt_22 : decode cX0_headsAt 22 = .ok (.iaload, 1) := by decide +kernel
theorem dX0_headsAt_23 : decode cX0_headsAt 23 = .ok (.iadd, 1) := by decide +kernel
theorem dX0_headsAt_24 : decode cX0_headsAt 24 = .ok (.iaload, 1) := by decide +kernel
theorem dX0_headsAt_25 : decode cX0_headsAt 25 = .ok (.istore 4, 2) := by decide +kernel
theorem dX0_headsAt_27 : decode cX0_headsAt 27 = .ok (.aload_n 3, 1) := by decide +kernel
theorem dX0_headsAt_28 : decode cX0_headsAt 28 = .ok (.iconst 0, 1) := by decide +kernel
theorem dX0_headsAt_29 : decode cX0_headsAt 29 = .ok (.iaload, 1) := by decide +kernel
theorem dX0_headsAt_30 : decode cX0_headsAt 30 = .ok (.iload 4, 2) := by decide +kernel
theorem dX0_headsAt_32 : decode cX0_headsAt 32 = .ok (.imul, 1) := by decide +kernel
theorem dX0_headsAt_33 : decode cX0_headsAt 33 = .ok (.bipush 100, 2) := by decide +kernel
theorem dX0_headsAt_35 : decode cX0_headsAt 35 = .ok (.idiv, 1) := by decide +kernel
theorem dX0_headsAt_36 : decode cX0_headsAt 36 = .ok (.aload_n 0, 1) := by decide +kernel
theorem dX0_headsAt_37 : decode cX0_headsAt 37 = .ok (.getfield 40, 3) := by decide +kernel
theorem dX0_headsAt_40 : decode cX0_headsAt 40 = .ok (.iload_n 2, 1) := by decide +kernel
theorem dX0_headsAt_41 : decode cX0_headsAt 41 = .ok (.bipush 8, 2) := by decide +kernel
theorem dX0_headsAt_43 : decode cX0_headsAt 43 = .ok (.imul, 1) := by decide +kernel
theorem dX0_headsAt_44 : decode cX0_headsAt 44 = .ok (.iload_n 1, 1) := by decide +kernel
theorem dX0_headsAt_45 : decode cX0_headsAt 45 = .ok (.iadd, 1) := by decide +kernel
theorem dX0_headsAt_46 : decode cX0_headsAt 46 = .ok (.iaload, 1) := by decide +kernel
theorem dX0_headsAt_47 : decode cX0_headsAt 47 = .ok (.isub, 1) := by decide +kernel
theorem dX0_headsAt_48 : decode cX0_headsAt 48 = .ok (.istore 5, 2) := by decide +kernel
theorem dX0_headsAt_50 : decode cX0_headsAt 50 = .ok (.iload 5, 2) := by decide +kernel
theorem dX0_headsAt_52 : decode cX0_headsAt 52 = .ok (.iconst 0, 1) := by decide +kernel
theorem dX0_headsAt_53 : decode cX0_headsAt 53 = .ok (.invokestatic 195, 3) := by decide +kernel
theorem dX0_headsAt_56 : decode cX0_headsAt 56 = .ok (.aload_n 3, 1) := by decide +kernel
theorem dX0_headsAt_57 : decode cX0_headsAt 57 = .ok (.iconst 1, 1) := by decide +kernel
theorem dX0_headsAt_58 : decode cX0_headsAt 58 = .ok (.iaload, 1) := by decide +kernel
theorem dX0_headsAt_59 : decode cX0_headsAt 59 = .ok (.invokestatic 200, 3) := by decide +kernel
theorem dX0_headsAt_62 : decode cX0_headsAt 62 = .ok (.ireturn, 1) := by decide +kernel
theorem dX0_drive_0 : decode cX0_drive 0 = .ok (.aload_n 0, 1) := by decide +kernel
theorem dX0_drive_1 : decode cX0_drive 1 = .ok (.getfield 47, 3) := by decide +kernel
theorem dX0_drive_4 : decode cX0_drive 4 = .ok (.aload_n 0, 1) := by decide +kernel
theorem dX0_drive_5 : decode cX0_drive 5 = .ok (.getfield 22, 3) := by decide +kernel
theorem dX0_drive_8 : decode cX0_drive 8 = .ok (.iload_n 2, 1) := by decide +kernel
theorem dX0_drive_9 : decode cX0_drive 9 = .ok (.iaload, 1) := by decide +kernel
theorem dX0_drive_10 : decode cX0_drive 10 = .ok (.iload_n 3, 1) := by decide +kernel
theorem dX0_drive_11 : decode cX0_drive 11 = .ok (.aload_n 0, 1) := by decide +kernel
theorem dX0_drive_12 : decode cX0_drive 12 = .ok (.getfield 73, 3) := by decide +kernel
theorem dX0_drive_15 : decode cX0_drive 15 = .ok (.invokevirtual 169, 3) := by decide +kernel
theorem dX0_drive_18 : decode cX0_drive 18 = .ok (.istore 4, 2) := by decide +kernel
theorem dX0_drive_20 : decode cX0_drive 20 = .ok (.aload_n 0, 1) := by decide +kernel
theorem dX0_drive_21 : decode cX0_drive 21 = .ok (.getfield 13, 3) := by decide +kernel
theorem dX0_drive_24 : decode cX0_drive 24 = .ok (.bipush 6, 2) := by decide +kernel
theorem dX0_drive_26 : decode cX0_drive 26 = .ok (.aaload, 1) := by decide +kernel
theorem dX0_drive_27 : decode cX0_drive 27 = .ok (.iload_n 1, 1) := by decide +kernel
theorem dX0_drive_28 : decode cX0_drive 28 = .ok (.iload 4, 2) := by decide +kernel
theorem dX0_drive_30 : decode cX0_drive 30 = .ok (.iastore, 1) := by decide +kernel
theorem dX0_drive_31 : decode cX0_drive 31 = .ok (.aload_n 0, 1) := by decide +kernel
theorem dX0_drive_32 : decode cX0_drive 32 = .ok (.getfield 28, 3) := by decide +kernel
theorem dX0_drive_35 : decode cX0_drive 35 = .ok (.iload_n 2, 1) := by decide +kernel
theorem dX0_drive_36 : decode cX0_drive 36 = .ok (.dup2, 1) := by decide +kernel
theorem dX0_drive_37 : decode cX0_drive 37 = .ok (.iaload, 1) := by decide +kernel
theorem dX0_drive_38 : decode cX0_drive 38 = .ok (.iload 4, 2) := by decide +kernel
theorem dX0_drive_40 : decode cX0_drive 40 = .ok (.iadd, 1) := by decide +kernel
theorem dX0_drive_41 : decode cX0_drive 41 = .ok (.iastore, 1) := by decide +kernel
theorem dX0_drive_42 : decode cX0_drive 42 = .ok (.aload_n 0, 1) := by decide +kernel
theorem dX0_drive_43 : decode cX0_drive 43 = .ok (.dup, 1) := by decide +kernel
theorem dX0_drive_44 : decode cX0_drive 44 = .ok (.getfield 134, 3) := by decide +kernel
theorem dX0_drive_47 : decode cX0_drive 47 = .ok (.iload 4, 2) := by decide +kernel
theorem dX0_drive_49 : decode cX0_drive 49 = .ok (.iadd, 1) := by decide +kernel
theorem dX0_drive_50 : decode cX0_drive 50 = .ok (.putfield 134, 3) := by decide +kernel
theorem dX0_drive_53 : decode cX0_drive 53 = .ok (.aload_n 0, 1) := by decide +kernel
theorem dX0_drive_54 : decode cX0_drive 54 = .ok (.getfield 22, 3) := by decide +kernel
theorem dX0_drive_57 : decode cX0_drive 57 = .ok (.iload_n 2, 1) := by decide +kernel
theorem dX0_drive_58 : decode cX0_drive 58 = .ok (.iload_n 3, 1) := by decide +kernel
theorem dX0_drive_59 : decode cX0_drive 59 = .ok (.iastore, 1) := by decide +kernel
theorem dX0_drive_60 : decode cX0_drive 60 = .ok (.return_, 1) := by decide +kernel
theorem dX0_show_0 : decode cX0_show 0 = .ok (.aload_n 0, 1) := by decide +kernel
theorem dX0_show_1 : decode cX0_show 1 = .ok (.getfield 43, 3) := by decide +kernel
theorem dX0_show_4 : decode cX0_show 4 = .ok (.bipush 10, 2) := by decide +kernel
theorem dX0_show_6 : decode cX0_show 6 = .ok (.laload, 1) := by decide +kernel
theorem dX0_show_7 : decode cX0_show 7 = .ok (.l2i, 1) := by decide +kernel
theorem dX0_show_8 : decode cX0_show 8 = .ok (.istore 4, 2) := by decide +kernel
theorem dX0_show_10 : decode cX0_show 10 = .ok (.aload_n 0, 1) := by decide +kernel
theorem dX0_show_11 : decode cX0_show 11 = .ok (.getfield 59, 3) := by decide +kernel
theorem dX0_show_14 : decode cX0_show 14 = .ok (.iconst 1, 1) := by decide +kernel
theorem dX0_show_15 : decode cX0_show 15 = .ok (.aload_n 0, 1) := by decide +kernel
theorem dX0_show_16 : decode cX0_show 16 = .ok (.getfield 43, 3) := by decide +kernel
theorem dX0_show_19 : decode cX0_show 19 = .ok (.invokevirtual 183, 3) := by decide +kernel
theorem dX0_show_22 : decode cX0_show 22 = .ok (.sipush 999, 3) := by decide +kernel
theorem dX0_show_25 : decode cX0_show 25 = .ok (.invokestatic 203, 3) := by decide +kernel
theorem dX0_show_28 : decode cX0_show 28 = .ok (.istore 5, 2) := by decide +kernel
theorem dX0_show_30 : decode cX0_show 30 = .ok (.iload 4, 2) := by decide +kernel
theorem dX0_show_32 : decode cX0_show 32 = .ok (.iload 5, 2) := by decide +kernel
theorem dX0_show_34 : decode cX0_show 34 = .ok (.imul, 1) := by decide +kernel
theorem dX0_show_35 : decode cX0_show 35 = .ok (.istore 6, 2) := by decide +kernel
theorem dX0_show_37 : decode cX0_show 37 = .ok (.iload 6, 2) := by decide +kernel
theorem dX0_show_39 : decode cX0_show 39 = .ok (.aload_n 0, 1) := by decide +kernel
theorem dX0_show_40 : decode cX0_show 40 = .ok (.getfield 59, 3) := by decide +kernel
theorem dX0_show_43 : decode cX0_show 43 = .ok (.iconst 2, 1) := by decide +kernel
theorem dX0_show_44 : decode cX0_show 44 = .ok (.aload_n 0, 1) := by decide +kernel
theorem dX0_show_45 : decode cX0_show 45 = .ok (.getfield 43, 3) := by decide +kernel
theorem dX0_show_48 : decode cX0_show 48 = .ok (.invokevirtual 183, 3) := by decide +kernel
theorem dX0_show_51 : decode cX0_show 51 = .ok (.bipush 100, 2) := by decide +kernel
theorem dX0_show_53 : decode cX0_show 53 = .ok (.invokestatic 203, 3) := by decide +kernel
theorem dX0_show_56 : decode cX0_show 56 = .ok (.imul, 1) := by decide +kernel
theorem dX0_show_57 : decode cX0_show 57 = .ok (.bipush 100, 2) := by decide +kernel
theorem dX0_show_59 : decode cX0_show 59 = .ok (.idiv, 1) := by decide +kernel
theorem dX0_show_60 : decode cX0_show 60 = .ok (.istore 7, 2) := by decide +kernel
theorem dX0_show_62 : decode cX0_show 62 = .ok (.iload 6, 2) := by decide +kernel
theorem dX0_show_64 : decode cX0_show 64 = .ok (.iload 7, 2) := by decide +kernel
theorem dX0_show_66 : decode cX0_show 66 = .ok (.isub, 1) := by decide +kernel
theorem dX0_show_67 : decode cX0_show 67 = .ok (.aload_n 0, 1) := by decide +kernel
theorem dX0_show_68 : decode cX0_show 68 = .ok (.getfield 59, 3) := by decide +kernel
theorem dX0_show_71 : decode cX0_show 71 = .ok (.iconst 3, 1) := by decide +kernel
theorem dX0_show_72 : decode cX0_show 72 = .ok (.aload_n 0, 1) := by decide +kernel
theorem dX0_show_73 : decode cX0_show 73 = .ok (.getfield 43, 3) := by decide +kernel
theorem dX0_show_76 : decode cX0_show 76 = .ok (.invokevirtual 183, 3) := by decide +kernel
theorem dX0_show_79 : decode cX0_show 79 = .ok (.bipush 100, 2) := by decide +kernel
theorem dX0_show_81 : decode cX0_show 81 = .ok (.invokestatic 203, 3) := by decide +kernel
theorem dX0_show_84 : decode cX0_show 84 = .ok (.imul, 1) := by decide +kernel
theorem dX0_show_85 : decode cX0_show 85 = .ok (.bipush 100, 2) := by decide +kernel
theorem dX0_show_87 : decode cX0_show 87 = .ok (.idiv, 1) := by decide +kernel
theorem dX0_show_88 : decode cX0_show 88 = .ok (.istore 8, 2) := by decide +kernel
theorem dX0_show_90 : decode cX0_show 90 = .ok (.iload 4, 2) := by decide +kernel
theorem dX0_show_92 : decode cX0_show 92 = .ok (.aload_n 0, 1) := by decide +kernel
theorem dX0_show_93 : decode cX0_show 93 = .ok (.getfield 59, 3) := by decide +kernel
theorem dX0_show_96 : decode cX0_show 96 = .ok (.iconst 4, 1) := by decide +kernel
theorem dX0_show_97 : decode cX0_show 97 = .ok (.aload_n 0, 1) := by decide +kernel
theorem dX0_show_98 : decode cX0_show 98 = .ok (.getfield 43, 3) := by decide +kernel
theorem dX0_show_101 : decode cX0_show 101 = .ok (.invokevirtual 183, 3) := by decide +kernel
theorem dX0_show_104 : decode cX0_show 104 = .ok (.bipush 100, 2) := by decide +kernel
theorem dX0_show_106 : decode cX0_show 106 = .ok (.invokestatic 203, 3) := by decide +kernel
theorem dX0_show_109 : decode cX0_show 109 = .ok (.imul, 1) := by decide +kernel
theorem dX0_show_110 : decode cX0_show 110 = .ok (.bipush 100, 2) := by decide +kernel
theorem dX0_show_112 : decode cX0_show 112 = .ok (.idiv, 1) := by decide +kernel
theorem dX0_show_113 : decode cX0_show 113 = .ok (.aload_n 0, 1) := by decide +kernel
theorem dX0_show_114 : decode cX0_show 114 = .ok (.iload 5, 2) := by decide +kernel
theorem dX0_show_116 : decode cX0_show 116 = .ok (.invokevirtual 207, 3) := by decide +kernel
theorem dX0_show_119 : decode cX0_show 119 = .ok (.imul, 1) := by decide +kernel
theorem dX0_show_120 : decode cX0_show 120 = .ok (.istore 9, 2) := by decide +kernel
theorem dX0_show_122 : decode cX0_show 122 = .ok (.aload_n 0, 1) := by decide +kernel
theorem dX0_show_123 : decode cX0_show 123 = .ok (.getfield 13, 3) := by decide +kernel
theorem dX0_show_126 : decode cX0_show 126 = .ok (.iconst 1, 1) := by decide +kernel
theorem dX0_show_127 : decode cX0_show 127 = .ok (.aaload, 1) := by decide +kernel
theorem dX0_show_128 : decode cX0_show 128 = .ok (.iload_n 1, 1) := by decide +kernel
theorem dX0_show_129 : decode cX0_show 129 = .ok (.iload 4, 2) := by decide +kernel
theorem dX0_show_131 : decode cX0_show 131 = .ok (.iastore, 1) := by decide +kernel
theorem dX0_show_132 : decode cX0_show 132 = .ok (.aload_n 0, 1) := by decide +kernel
theorem dX0_show_133 : decode cX0_show 133 = .ok (.getfield 13, 3) := by decide +kernel
theorem dX0_show_136 : decode cX0_show 136 = .ok (.iconst 2, 1) := by decide +kernel
theorem dX0_show_137 : decode cX0_show 137 = .ok (.aaload, 1) := by decide +kernel
theorem dX0_show_138 : decode cX0_show 138 = .ok (.iload_n 1, 1) := by decide +kernel
theorem dX0_show_139 : decode cX0_show 139 = .ok (.iload 6, 2) := by decide +kernel
theorem dX0_show_141 : decode cX0_show 141 = .ok (.iastore, 1) := by decide +kernel
theorem dX0_show_142 : decode cX0_show 142 = .ok (.aload_n 0, 1) := by decide +kernel
theorem dX0_show_143 : decode cX0_show 143 = .ok (.getfield 13, 3) := by decide +kernel
theorem dX0_show_146 : decode cX0_show 146 = .ok (.iconst 3, 1) := by decide +kernel
theorem dX0_show_147 : decode cX0_show 147 = .ok (.aaload, 1) := by decide +kernel
theorem dX0_show_148 : decode cX0_show 148 = .ok (.iload_n 1, 1) := by decide +kernel
theorem dX0_show_149 : decode cX0_show 149 = .ok (.iload 7, 2) := by decide +kernel
theorem dX0_show_151 : decode cX0_show 151 = .ok (.iastore, 1) := by decide +kernel
theorem dX0_show_152 : decode cX0_show 152 = .ok (.aload_n 0, 1) := by decide +kernel
theorem dX0_show_153 : decode cX0_show 153 = .ok (.getfield 13, 3) := by decide +kernel
theorem dX0_show_156 : decode cX0_show 156 = .ok (.iconst 4, 1) := by decide +kernel
theorem dX0_show_157 : decode cX0_show 157 = .ok (.aaload, 1) := by decide +kernel
theorem dX0_show_158 : decode cX0_show 158 = .ok (.iload_n 1, 1) := by decide +kernel
theorem dX0_show_159 : decode cX0_show 159 = .ok (.iload 8, 2) := by decide +kernel
theorem dX0_show_161 : decode cX0_show 161 = .ok (.iastore, 1) := by decide +kernel
theorem dX0_show_162 : decode cX0_show 162 = .ok (.aload_n 0, 1) := by decide +kernel
theorem dX0_show_163 : decode cX0_show 163 = .ok (.getfield 13, 3) := by decide +kernel
theorem dX0_show_166 : decode cX0_show 166 = .ok (.iconst 5, 1) := by decide +kernel
theorem dX0_show_167 : decode cX0_show 167 = .ok (.aaload, 1) := by decide +kernel
theorem dX0_show_168 : decode cX0_show 168 = .ok (.iload_n 1, 1) := by decide +kernel
theorem dX0_show_169 : decode cX0_show 169 = .ok (.iload 9, 2) := by decide +kernel
theorem dX0_show_171 : decode cX0_show 171 = .ok (.iastore, 1) := by decide +kernel
theorem dX0_show_172 : decode cX0_show 172 = .ok (.aload_n 0, 1) := by decide +kernel
theorem dX0_show_173 : decode cX0_show 173 = .ok (.getfield 18, 3) := by decide +kernel
theorem dX0_show_176 : decode cX0_show 176 = .ok (.iconst 0, 1) := by decide +kernel
theorem dX0_show_177 : decode cX0_show 177 = .ok (.dup2, 1) := by decide +kernel
theorem dX0_show_178 : decode cX0_show 178 = .ok (.iaload, 1) := by decide +kernel
theorem dX0_show_179 : decode cX0_show 179 = .ok (.iload 4, 2) := by decide +kernel
theorem dX0_show_181 : decode cX0_show 181 = .ok (.iadd, 1) := by decide +kernel
theorem dX0_show_182 : decode cX0_show 182 = .ok (.iastore, 1) := by decide +kernel
theorem dX0_show_183 : decode cX0_show 183 = .ok (.aload_n 0, 1) := by decide +kernel
theorem dX0_show_184 : decode cX0_show 184 = .ok (.getfield 18, 3) := by decide +kernel
theorem dX0_show_187 : decode cX0_show 187 = .ok (.iconst 1, 1) := by decide +kernel
theorem dX0_show_188 : decode cX0_show 188 = .ok (.dup2, 1) := by decide +kernel
theorem dX0_show_189 : decode cX0_show 189 = .ok (.iaload, 1) := by decide +kernel
theorem dX0_show_190 : decode cX0_show 190 = .ok (.iload 6, 2) := by decide +kernel
theorem dX0_show_192 : decode cX0_show 192 = .ok (.iload 7, 2) := by decide +kernel
theorem dX0_show_194 : decode cX0_show 194 = .ok (.isub, 1) := by decide +kernel
theorem dX0_show_195 : decode cX0_show 195 = .ok (.iload 8, 2) := by decide +kernel
theorem dX0_show_197 : decode cX0_show 197 = .ok (.isub, 1) := by decide +kernel
theorem dX0_show_198 : decode cX0_show 198 = .ok (.iadd, 1) := by decide +kernel
theorem dX0_show_199 : decode cX0_show 199 = .ok (.iastore, 1) := by decide +kernel
theorem dX0_show_200 : decode cX0_show 200 = .ok (.aload_n 0, 1) := by decide +kernel
theorem dX0_show_201 : decode cX0_show 201 = .ok (.getfield 18, 3) := by decide +kernel
theorem dX0_show_204 : decode cX0_show 204 = .ok (.iconst 2, 1) := by decide +kernel
theorem dX0_show_205 : decode cX0_show 205 = .ok (.dup2, 1) := by decide +kernel
theorem dX0_show_206 : decode cX0_show 206 = .ok (.iaload, 1) := by decide +kernel
theorem dX0_show_207 : decode cX0_show 207 = .ok (.iconst 1, 1) := by decide +kernel
theorem dX0_show_208 : decode cX0_show 208 = .ok (.iadd, 1) := by decide +kernel
theorem dX0_show_209 : decode cX0_show 209 = .ok (.iastore, 1) := by decide +kernel
theorem dX0_show_210 : decode cX0_show 210 = .ok (.aload_n 0, 1) := by decide +kernel
theorem dX0_show_211 : decode cX0_show 211 = .ok (.getfield 18, 3) := by decide +kernel
theorem dX0_show_214 : decode cX0_show 214 = .ok (.iconst 4, 1) := by decide +kernel
theorem dX0_show_215 : decode cX0_show 215 = .ok (.dup2, 1) := by decide +kernel
theorem dX0_show_216 : decode cX0_show 216 = .ok (.iaload, 1) := by decide +kernel
theorem dX0_show_217 : decode cX0_show 217 = .ok (.iload 9, 2) := by decide +kernel
theorem dX0_show_219 : decode cX0_show 219 = .ok (.iadd, 1) := by decide +kernel
theorem dX0_show_220 : decode cX0_show 220 = .ok (.iastore, 1) := by decide +kernel
theorem dX0_show_221 : decode cX0_show 221 = .ok (.aload_n 0, 1) := by decide +kernel
theorem dX0_show_222 : decode cX0_show 222 = .ok (.dup, 1) := by decide +kernel
theorem dX0_show_223 : decode cX0_show 223 = .ok (.getfield 134, 3) := by decide +kernel
theorem dX0_show_226 : decode cX0_show 226 = .ok (.aload_n 0, 1) := by decide +kernel
theorem dX0_show_227 : decode cX0_show 227 = .ok (.getfield 51, 3) := by decide +kernel
theorem dX0_show_230 : decode cX0_show 230 = .ok (.getfield 116, 3) := by decide +kernel
theorem dX0_show_233 : decode cX0_show 233 = .ok (.iload_n 3, 1) := by decide +kernel
theorem dX0_show_234 : decode cX0_show 234 = .ok (.aaload, 1) := by decide +kernel
theorem dX0_show_235 : decode cX0_show 235 = .ok (.iconst 2, 1) := by decide +kernel
theorem dX0_show_236 : decode cX0_show 236 = .ok (.iaload, 1) := by decide +kernel
theorem dX0_show_237 : decode cX0_show 237 = .ok (.iadd, 1) := by decide +kernel
theorem dX0_show_238 : decode cX0_show 238 = .ok (.putfield 134, 3) := by decide +kernel
theorem dX0_show_241 : decode cX0_show 241 = .ok (.aload_n 0, 1) := by decide +kernel
theorem dX0_show_242 : decode cX0_show 242 = .ok (.dup, 1) := by decide +kernel
theorem dX0_show_243 : decode cX0_show 243 = .ok (.getfield 137, 3) := by decide +kernel
theorem dX0_show_246 : decode cX0_show 246 = .ok (.iconst 1, 1) := by decide +kernel
theorem dX0_show_247 : decode cX0_show 247 = .ok (.iadd, 1) := by decide +kernel
theorem dX0_show_248 : decode cX0_show 248 = .ok (.putfield 137, 3) := by decide +kernel
theorem dX0_show_251 : decode cX0_show 251 = .ok (.aload_n 0, 1) := by decide +kernel
theorem dX0_show_252 : decode cX0_show 252 = .ok (.dup, 1) := by decide +kernel
theorem dX0_show_253 : decode cX0_show 253 = .ok (.getfield 76, 3) := by decide +kernel
theorem dX0_show_256 : decode cX0_show 256 = .ok (.iconst 1, 1) := by decide +kernel
theorem dX0_show_257 : decode cX0_show 257 = .ok (.iload_n 2, 1) := by decide +kernel
theorem dX0_show_258 : decode cX0_show 258 = .ok (.ishl, 1) := by decide +kernel
theorem dX0_show_259 : decode cX0_show 259 = .ok (.ior, 1) := by decide +kernel
theorem dX0_show_260 : decode cX0_show 260 = .ok (.putfield 76, 3) := by decide +kernel
theorem dX0_show_263 : decode cX0_show 263 = .ok (.aload_n 0, 1) := by decide +kernel
theorem dX0_show_264 : decode cX0_show 264 = .ok (.getfield 37, 3) := by decide +kernel
theorem dX0_show_267 : decode cX0_show 267 = .ok (.iload_n 3, 1) := by decide +kernel
theorem dX0_show_268 : decode cX0_show 268 = .ok (.dup2, 1) := by decide +kernel
theorem dX0_show_269 : decode cX0_show 269 = .ok (.iaload, 1) := by decide +kernel
theorem dX0_show_270 : decode cX0_show 270 = .ok (.iconst 1, 1) := by decide +kernel
theorem dX0_show_271 : decode cX0_show 271 = .ok (.iadd, 1) := by decide +kernel
theorem dX0_show_272 : decode cX0_show 272 = .ok (.iastore, 1) := by decide +kernel
theorem dX0_show_273 : decode cX0_show 273 = .ok (.aload_n 0, 1) := by decide +kernel
theorem dX0_show_274 : decode cX0_show 274 = .ok (.getfield 40, 3) := by decide +kernel
theorem dX0_show_277 : decode cX0_show 277 = .ok (.iload_n 3, 1) := by decide +kernel
theorem dX0_show_278 : decode cX0_show 278 = .ok (.bipush 8, 2) := by decide +kernel
theorem dX0_show_280 : decode cX0_show 280 = .ok (.imul, 1) := by decide +kernel
theorem dX0_show_281 : decode cX0_show 281 = .ok (.iload_n 2, 1) := by decide +kernel
theorem dX0_show_282 : decode cX0_show 282 = .ok (.iadd, 1) := by decide +kernel
theorem dX0_show_283 : decode cX0_show 283 = .ok (.dup2, 1) := by decide +kernel
theorem dX0_show_284 : decode cX0_show 284 = .ok (.iaload, 1) := by decide +kernel
theorem dX0_show_285 : decode cX0_show 285 = .ok (.iload 4, 2) := by decide +kernel
theorem dX0_show_287 : decode cX0_show 287 = .ok (.iadd, 1) := by decide +kernel
theorem dX0_show_288 : decode cX0_show 288 = .ok (.iastore, 1) := by decide +kernel
theorem dX0_show_289 : decode cX0_show 289 = .ok (.return_, 1) := by decide +kernel
theorem dX0_cut_0 : decode cX0_cut 0 = .ok (.lconst 0, 1) := by decide +kernel
theorem dX0_cut_1 : decode cX0_cut 1 = .ok (.lload_n 0, 1) := by decide +kernel
theorem dX0_cut_2 : decode cX0_cut 2 = .ok (.iload_n 2, 1) := by decide +kernel
theorem dX0_cut_3 : decode cX0_cut 3 = .ok (.i2l, 1) := by decide +kernel
theorem dX0_cut_4 : decode cX0_cut 4 = .ok (.invokestatic 211, 3) := by decide +kernel
theorem dX0_cut_7 : decode cX0_cut 7 = .ok (.invokestatic 214, 3) := by decide +kernel
theorem dX0_cut_10 : decode cX0_cut 10 = .ok (.l2i, 1) := by decide +kernel
theorem dX0_cut_11 : decode cX0_cut 11 = .ok (.ireturn, 1) := by decide +kernel
theorem dX0_eggsEach_0 : decode cX0_eggsEach 0 = .ok (.aload_n 0, 1) := by decide +kernel
theorem dX0_eggsEach_1 : decode cX0_eggsEach 1 = .ok (.getfield 63, 3) := by decide +kernel
theorem dX0_eggsEach_4 : decode cX0_eggsEach 4 = .ok (.aload_n 0, 1) := by decide +kernel
theorem dX0_eggsEach_5 : decode cX0_eggsEach 5 = .ok (.getfield 69, 3) := by decide +kernel
theorem dX0_eggsEach_8 : decode cX0_eggsEach 8 = .ok (.iaload, 1) := by decide +kernel
theorem dX0_eggsEach_9 : decode cX0_eggsEach 9 = .ok (.iconst 1, 1) := by decide +kernel
theorem dX0_eggsEach_10 : decode cX0_eggsEach 10 = .ok (.invokestatic 195, 3) := by decide +kernel
theorem dX0_eggsEach_13 : decode cX0_eggsEach 13 = .ok (.istore_n 2, 1) := by decide +kernel
theorem dX0_eggsEach_14 : decode cX0_eggsEach 14 = .ok (.iload_n 1, 1) := by decide +kernel
theorem dX0_eggsEach_15 : decode cX0_eggsEach 15 = .ok (.iload_n 2, 1) := by decide +kernel
theorem dX0_eggsEach_16 : decode cX0_eggsEach 16 = .ok (.iadd, 1) := by decide +kernel
theorem dX0_eggsEach_17 : decode cX0_eggsEach 17 = .ok (.iconst 1, 1) := by decide +kernel
theorem dX0_eggsEach_18 : decode cX0_eggsEach 18 = .ok (.isub, 1) := by decide +kernel
theorem dX0_eggsEach_19 : decode cX0_eggsEach 19 = .ok (.iload_n 2, 1) := by decide +kernel
theorem dX0_eggsEach_20 : decode cX0_eggsEach 20 = .ok (.idiv, 1) := by decide +kernel
theorem dX0_eggsEach_21 : decode cX0_eggsEach 21 = .ok (.ireturn, 1) := by decide +kernel
theorem dX0_endNight_0 : decode cX0_endNight 0 = .ok (.iconst 0, 1) := by decide +kernel
theorem dX0_endNight_1 : decode cX0_endNight 1 = .ok (.istore_n 1, 1) := by decide +kernel
theorem dX0_endNight_2 : decode cX0_endNight 2 = .ok (.iload_n 1, 1) := by decide +kernel
theorem dX0_endNight_3 : decode cX0_endNight 3 = .ok (.aload_n 0, 1) := by decide +kernel
theorem dX0_endNight_4 : decode cX0_endNight 4 = .ok (.getfield 51, 3) := by decide +kernel
theorem dX0_endNight_7 : decode cX0_endNight 7 = .ok (.getfield 82, 3) := by decide +kernel
theorem dX0_endNight_10 : decode cX0_endNight 10 = .ok (.if_icmp .ge 28, 3) := by decide +kernel
theorem dX0_endNight_13 : decode cX0_endNight 13 = .ok (.aload_n 0, 1) := by decide +kernel
theorem dX0_endNight_14 : decode cX0_endNight 14 = .ok (.getfield 25, 3) := by decide +kernel
theorem dX0_endNight_17 : decode cX0_endNight 17 = .ok (.iload_n 1, 1) := by decide +kernel
theorem dX0_endNight_18 : decode cX0_endNight 18 = .ok (.iconst 4, 1) := by decide +kernel
theorem dX0_endNight_19 : decode cX0_endNight 19 = .ok (.imul, 1) := by decide +kernel
theorem dX0_endNight_20 : decode cX0_endNight 20 = .ok (.aload_n 0, 1) := by decide +kernel
theorem dX0_endNight_21 : decode cX0_endNight 21 = .ok (.getfield 69, 3) := by decide +kernel
theorem dX0_endNight_24 : decode cX0_endNight 24 = .ok (.iadd, 1) := by decide +kernel
theorem dX0_endNight_25 : decode cX0_endNight 25 = .ok (.aload_n 0, 1) := by decide +kernel
theorem dX0_endNight_26 : decode cX0_endNight 26 = .ok (.getfield 22, 3) := by decide +kernel
theorem dX0_endNight_29 : decode cX0_endNight 29 = .ok (.iload_n 1, 1) := by decide +kernel
theorem dX0_endNight_30 : decode cX0_endNight 30 = .ok (.iaload, 1) := by decide +kernel
theorem dX0_endNight_31 : decode cX0_endNight 31 = .ok (.iastore, 1) := by decide +kernel
theorem dX0_endNight_32 : decode cX0_endNight 32 = .ok (.iinc 1 1, 3) := by decide +kernel
theorem dX0_endNight_35 : decode cX0_endNight 35 = .ok (.goto (-33), 3) := by decide +kernel
theorem dX0_endNight_38 : decode cX0_endNight 38 = .ok (.iconst 0, 1) := by decide +kernel
theorem dX0_endNight_39 : decode cX0_endNight 39 = .ok (.istore_n 1, 1) := by decide +kernel
theorem dX0_endNight_40 : decode cX0_endNight 40 = .ok (.iload_n 1, 1) := by decide +kernel
theorem dX0_endNight_41 : decode cX0_endNight 41 = .ok (.aload_n 0, 1) := by decide +kernel
theorem dX0_endNight_42 : decode cX0_endNight 42 = .ok (.getfield 51, 3) := by decide +kernel
theorem dX0_endNight_45 : decode cX0_endNight 45 = .ok (.getfield 113, 3) := by decide +kernel
theorem dX0_endNight_48 : decode cX0_endNight 48 = .ok (.if_icmp .ge 54, 3) := by decide +kernel
theorem dX0_endNight_51 : decode cX0_endNight 51 = .ok (.aload_n 0, 1) := by decide +kernel
theorem dX0_endNight_52 : decode cX0_endNight 52 = .ok (.getfield 34, 3) := by decide +kernel
theorem dX0_endNight_55 : decode cX0_endNight 55 = .ok (.iload_n 1, 1) := by decide +kernel
theorem dX0_endNight_56 : decode cX0_endNight 56 = .ok (.iaload, 1) := by decide +kernel
theorem dX0_endNight_57 : decode cX0_endNight 57 = .ok (.iconst (-1), 1) := by decide +kernel
theorem dX0_endNight_58 : decode cX0_endNight 58 = .ok (.if_icmp .ne 38, 3) := by decide +kernel
theorem dX0_endNight_61 : decode cX0_endNight 61 = .ok (.aload_n 0, 1) := by decide +kernel
theorem dX0_endNight_62 : decode cX0_endNight 62 = .ok (.getfield 22, 3) := by decide +kernel
theorem dX0_endNight_65 : decode cX0_endNight 65 = .ok (.aload_n 0, 1) := by decide +kernel
theorem dX0_endNight_66 : decode cX0_endNight 66 = .ok (.getfield 31, 3) := by decide +kernel
theorem dX0_endNight_69 : decode cX0_endNight 69 = .ok (.iload_n 1, 1) := by decide +kernel
theorem dX0_endNight_70 : decode cX0_endNight 70 = .ok (.iaload, 1) := by decide +kernel
theorem dX0_endNight_71 : decode cX0_endNight 71 = .ok (.iaload, 1) := by decide +kernel
theorem dX0_endNight_72 : decode cX0_endNight 72 = .ok (.aload_n 0, 1) := by decide +kernel
theorem dX0_endNight_73 : decode cX0_endNight 73 = .ok (.getfield 51, 3) := by decide +kernel
theorem dX0_endNight_76 : decode cX0_endNight 76 = .ok (.getfield 116, 3) := by decide +kernel
theorem dX0_endNight_79 : decode cX0_endNight 79 = .ok (.iload_n 1, 1) := by decide +kernel
theorem dX0_endNight_80 : decode cX0_endNight 80 = .ok (.aaload, 1) := by decide +kernel
theorem dX0_endNight_81 : decode cX0_endNight 81 = .ok (.iconst 4, 1) := by decide +kernel
theorem dX0_endNight_82 : decode cX0_endNight 82 = .ok (.iaload, 1) := by decide +kernel
theorem dX0_endNight_83 : decode cX0_endNight 83 = .ok (.if_icmp .ne 13, 3) := by decide +kernel
theorem dX0_endNight_86 : decode cX0_endNight 86 = .ok (.aload_n 0, 1) := by decide +kernel
theorem dX0_endNight_87 : decode cX0_endNight 87 = .ok (.getfield 34, 3) := by decide +kernel
theorem dX0_endNight_90 : decode cX0_endNight 90 = .ok (.iload_n 1, 1) := by decide +kernel
theorem dX0_endNight_91 : decode cX0_endNight 91 = .ok (.aload_n 0, 1) := by decide +kernel
theorem dX0_endNight_92 : decode cX0_endNight 92 = .ok (.getfield 69, 3) := by decide +kernel
theorem dX0_endNight_95 : decode cX0_endNight 95 = .ok (.iastore, 1) := by decide +kernel
theorem dX0_endNight_96 : decode cX0_endNight 96 = .ok (.iinc 1 1, 3) := by decide +kernel
theorem dX0_endNight_99 : decode cX0_endNight 99 = .ok (.goto (-59), 3) := by decide +kernel
theorem dX0_endNight_102 : decode cX0_endNight 102 = .ok (.return_, 1) := by decide +kernel
theorem dX0_payFuel_0 : decode cX0_payFuel 0 = .ok (.iconst 0, 1) := by decide +kernel
theorem dX0_payFuel_1 : decode cX0_payFuel 1 = .ok (.istore_n 1, 1) := by decide +kernel
theorem dX0_payFuel_2 : decode cX0_payFuel 2 = .ok (.iload_n 1, 1) := by decide +kernel
theorem dX0_payFuel_3 : decode cX0_payFuel 3 = .ok (.aload_n 0, 1) := by decide +kernel
theorem dX0_payFuel_4 : decode cX0_payFuel 4 = .ok (.getfield 51, 3) := by decide +kernel
theorem dX0_payFuel_7 : decode cX0_payFuel 7 = .ok (.getfield 82, 3) := by decide +kernel
theorem dX0_payFuel_10 : decode cX0_payFuel 10 = .ok (.if_icmp .ge 47, 3) := by decide +kernel
theorem dX0_payFuel_13 : decode cX0_payFuel 13 = .ok (.aload_n 0, 1) := by decide +kernel
theorem dX0_payFuel_14 : decode cX0_payFuel 14 = .ok (.getfield 28, 3) := by decide +kernel
theorem dX0_payFuel_17 : decode cX0_payFuel 17 = .ok (.iload_n 1, 1) := by decide +kernel
theorem dX0_payFuel_18 : decode cX0_payFuel 18 = .ok (.iaload, 1) := by decide +kernel
theorem dX0_payFuel_19 : decode cX0_payFuel 19 = .ok (.aload_n 0, 1) := by decide +kernel
theorem dX0_payFuel_20 : decode cX0_payFuel 20 = .ok (.getfield 59, 3) := by decide +kernel
theorem dX0_payFuel_23 : decode cX0_payFuel 23 = .ok (.getfield 216, 3) := by decide +kernel
theorem dX0_payFuel_26 : decode cX0_payFuel 26 = .ok (.imul, 1) := by decide +kernel
theorem dX0_payFuel_27 : decode cX0_payFuel 27 = .ok (.bipush 10, 2) := by decide +kernel
theorem dX0_payFuel_29 : decode cX0_payFuel 29 = .ok (.idiv, 1) := by decide +kernel
theorem dX0_payFuel_30 : decode cX0_payFuel 30 = .ok (.istore_n 2, 1) := by decide +kernel
theorem dX0_payFuel_31 : decode cX0_payFuel 31 = .ok (.aload_n 0, 1) := by decide +kernel
theorem dX0_payFuel_32 : decode cX0_payFuel 32 = .ok (.getfield 18, 3) := by decide +kernel
theorem dX0_payFuel_35 : decode cX0_payFuel 35 = .ok (.iconst 3, 1) := by decide +kernel
theorem dX0_payFuel_36 : decode cX0_payFuel 36 = .ok (.dup2, 1) := by decide +kernel
theorem dX0_payFuel_37 : decode cX0_payFuel 37 = .ok (.iaload, 1) := by decide +kernel
theorem dX0_payFuel_38 : decode cX0_payFuel 38 = .ok (.iload_n 2, 1) := by decide +kernel
theorem dX0_payFuel_39 : decode cX0_payFuel 39 = .ok (.iadd, 1) := by decide +kernel
theorem dX0_payFuel_40 : decode cX0_payFuel 40 = .ok (.iastore, 1) := by decide +kernel
theorem dX0_payFuel_41 : decode cX0_payFuel 41 = .ok (.aload_n 0, 1) := by decide +kernel
theorem dX0_payFuel_42 : decode cX0_payFuel 42 = .ok (.getfield 18, 3) := by decide +kernel
theorem dX0_payFuel_45 : decode cX0_payFuel 45 = .ok (.iconst 1, 1) := by decide +kernel
theorem dX0_payFuel_46 : decode cX0_payFuel 46 = .ok (.dup2, 1) := by decide +kernel
theorem dX0_payFuel_47 : decode cX0_payFuel 47 = .ok (.iaload, 1) := by decide +kernel
theorem dX0_payFuel_48 : decode cX0_payFuel 48 = .ok (.iload_n 2, 1) := by decide +kernel
theorem dX0_payFuel_49 : decode cX0_payFuel 49 = .ok (.isub, 1) := by decide +kernel
theorem dX0_payFuel_50 : decode cX0_payFuel 50 = .ok (.iastore, 1) := by decide +kernel
theorem dX0_payFuel_51 : decode cX0_payFuel 51 = .ok (.iinc 1 1, 3) := by decide +kernel
theorem dX0_payFuel_54 : decode cX0_payFuel 54 = .ok (.goto (-52), 3) := by decide +kernel
theorem dX0_payFuel_57 : decode cX0_payFuel 57 = .ok (.return_, 1) := by decide +kernel
theorem dX0_payFines_0 : decode cX0_payFines 0 = .ok (.iconst 0, 1) := by decide +kernel
theorem dX0_payFines_1 : decode cX0_payFines 1 = .ok (.istore_n 1, 1) := by decide +kernel
theorem dX0_payFines_2 : decode cX0_payFines 2 = .ok (.iload_n 1, 1) := by decide +kernel
theorem dX0_payFines_3 : decode cX0_payFines 3 = .ok (.aload_n 0, 1) := by decide +kernel
theorem dX0_payFines_4 : decode cX0_payFines 4 = .ok (.getfield 51, 3) := by decide +kernel
theorem dX0_payFines_7 : decode cX0_payFines 7 = .ok (.getfield 113, 3) := by decide +kernel
theorem dX0_payFines_10 : decode cX0_payFines 10 = .ok (.if_icmp .ge 36, 3) := by decide +kernel
theorem dX0_payFines_13 : decode cX0_payFines 13 = .ok (.aload_n 0, 1) := by decide +kernel
theorem dX0_payFines_14 : decode cX0_payFines 14 = .ok (.getfield 18, 3) := by decide +kernel
theorem dX0_payFines_17 : decode cX0_payFines 17 = .ok (.iconst 1, 1) := by decide +kernel
theorem dX0_payFines_18 : decode cX0_payFines 18 = .ok (.dup2, 1) := by decide +kernel
theorem dX0_payFines_19 : decode cX0_payFines 19 = .ok (.iaload, 1) := by decide +kernel
theorem dX0_payFines_20 : decode cX0_payFines 20 = .ok (.aload_n 0, 1) := by decide +kernel
theorem dX0_payFines_21 : decode cX0_payFines 21 = .ok (.iload_n 1, 1) := by decide +kernel
theorem dX0_payFines_22 : decode cX0_payFines 22 = .ok (.invokevirtual 219, 3) := by decide +kernel
theorem dX0_payFines_25 : decode cX0_payFines 25 = .ok (.aload_n 0, 1) := by decide +kernel
theorem dX0_payFines_26 : decode cX0_payFines 26 = .ok (.getfield 51, 3) := by decide +kernel
theorem dX0_payFines_29 : decode cX0_payFines 29 = .ok (.getfield 116, 3) := by decide +kernel
theorem dX0_payFines_32 : decode cX0_payFines 32 = .ok (.iload_n 1, 1) := by decide +kernel
theorem dX0_payFines_33 : decode cX0_payFines 33 = .ok (.aaload, 1) := by decide +kernel
theorem dX0_payFines_34 : decode cX0_payFines 34 = .ok (.bipush 6, 2) := by decide +kernel
theorem dX0_payFines_36 : decode cX0_payFines 36 = .ok (.iaload, 1) := by decide +kernel
theorem dX0_payFines_37 : decode cX0_payFines 37 = .ok (.imul, 1) := by decide +kernel
theorem dX0_payFines_38 : decode cX0_payFines 38 = .ok (.isub, 1) := by decide +kernel
theorem dX0_payFines_39 : decode cX0_payFines 39 = .ok (.iastore, 1) := by decide +kernel
theorem dX0_payFines_40 : decode cX0_payFines 40 = .ok (.iinc 1 1, 3) := by decide +kernel
theorem dX0_payFines_43 : decode cX0_payFines 43 = .ok (.goto (-41), 3) := by decide +kernel
theorem dX0_payFines_46 : decode cX0_payFines 46 = .ok (.return_, 1) := by decide +kernel
theorem dX0_nightsLate_0 : decode cX0_nightsLate 0 = .ok (.aload_n 0, 1) := by decide +kernel
theorem dX0_nightsLate_1 : decode cX0_nightsLate 1 = .ok (.getfield 34, 3) := by decide +kernel
theorem dX0_nightsLate_4 : decode cX0_nightsLate 4 = .ok (.iload_n 1, 1) := by decide +kernel
theorem dX0_nightsLate_5 : decode cX0_nightsLate 5 = .ok (.iaload, 1) := by decide +kernel
theorem dX0_nightsLate_6 : decode cX0_nightsLate 6 = .ok (.iconst (-1), 1) := by decide +kernel
theorem dX0_nightsLate_7 : decode cX0_nightsLate 7 = .ok (.if_icmp .ne 7, 3) := by decide +kernel
theorem dX0_nightsLate_10 : decode cX0_nightsLate 10 = .ok (.iconst 4, 1) := by decide +kernel
theorem dX0_nightsLate_11 : decode cX0_nightsLate 11 = .ok (.goto 9, 3) := by decide +kernel
theorem dX0_nightsLate_14 : decode cX0_nightsLate 14 = .ok (.aload_n 0, 1) := by decide +kernel
theorem dX0_nightsLate_15 : decode cX0_nightsLate 15 = .ok (.getfield 34, 3) := by decide +kernel
theorem dX0_nightsLate_18 : decode cX0_nightsLate 18 = .ok (.iload_n 1, 1) := by decide +kernel
theorem dX0_nightsLate_19 : decode cX0_nightsLate 19 = .ok (.iaload, 1) := by decide +kernel
theorem dX0_nightsLate_20 : decode cX0_nightsLate 20 = .ok (.istore_n 2, 1) := by decide +kernel
theorem dX0_nightsLate_21 : decode cX0_nightsLate 21 = .ok (.iload_n 2, 1) := by decide +kernel
theorem dX0_nightsLate_22 : decode cX0_nightsLate 22 = .ok (.aload_n 0, 1) := by decide +kernel
theorem dX0_nightsLate_23 : decode cX0_nightsLate 23 = .ok (.getfield 51, 3) := by decide +kernel
theorem dX0_nightsLate_26 : decode cX0_nightsLate 26 = .ok (.getfield 116, 3) := by decide +kernel
theorem dX0_nightsLate_29 : decode cX0_nightsLate 29 = .ok (.iload_n 1, 1) := by decide +kernel
theorem dX0_nightsLate_30 : decode cX0_nightsLate 30 = .ok (.aaload, 1) := by decide +kernel
theorem dX0_nightsLate_31 : decode cX0_nightsLate 31 = .ok (.iconst 5, 1) := by decide +kernel
theorem dX0_nightsLate_32 : decode cX0_nightsLate 32 = .ok (.iaload, 1) := by decide +kernel
theorem dX0_nightsLate_33 : decode cX0_nightsLate 33 = .ok (.isub, 1) := by decide +kernel
theorem dX0_nightsLate_34 : decode cX0_nightsLate 34 = .ok (.iconst 0, 1) := by decide +kernel
theorem dX0_nightsLate_35 : decode cX0_nightsLate 35 = .ok (.invokestatic 195, 3) := by decide +kernel
theorem dX0_nightsLate_38 : decode cX0_nightsLate 38 = .ok (.ireturn, 1) := by decide +kernel
theorem dX6_init_0 : decode cX6_init 0 = .ok (.aload_n 0, 1) := by decide +kernel
theorem dX6_init_1 : decode cX6_init 1 = .ok (.invokespecial 3, 3) := by decide +kernel
theorem dX6_init_4 : decode cX6_init 4 = .ok (.aload_n 0, 1) := by decide +kernel
theorem dX6_init_5 : decode cX6_init 5 = .ok (.new 9, 3) := by decide +kernel
theorem dX6_init_8 : decode cX6_init 8 = .ok (.dup, 1) := by decide +kernel
theorem dX6_init_9 : decode cX6_init 9 = .ok (.invokespecial 11, 3) := by decide +kernel
theorem dX6_init_12 : decode cX6_init 12 = .ok (.putfield 12, 3) := by decide +kernel
theorem dX6_init_15 : decode cX6_init 15 = .ok (.aload_n 0, 1) := by decide +kernel
theorem dX6_init_16 : decode cX6_init 16 = .ok (.bipush 72, 2) := by decide +kernel
theorem dX6_init_18 : decode cX6_init 18 = .ok (.newarray .int, 2) := by decide +kernel
theorem dX6_init_20 : decode cX6_init 20 = .ok (.putfield 18, 3) := by decide +kernel
theorem dX6_init_23 : decode cX6_init 23 = .ok (.aload_n 0, 1) := by decide +kernel
theorem dX6_init_24 : decode cX6_init 24 = .ok (.iconst (-1), 1) := by decide +kernel
theorem dX6_init_25 : decode cX6_init 25 = .ok (.putfield 22, 3) := by decide +kernel
theorem dX6_init_28 : decode cX6_init 28 = .ok (.aload_n 0, 1) := by decide +kernel
theorem dX6_init_29 : decode cX6_init 29 = .ok (.new 26, 3) := by decide +kernel
theorem dX6_init_32 : decode cX6_init 32 = .ok (.dup, 1) := by decide +kernel
theorem dX6_init_33 : decode cX6_init 33 = .ok (.aload_n 1, 1) := by decide +kernel
theorem dX6_init_34 : decode cX6_init 34 = .ok (.invokespecial 28, 3) := by decide +kernel
theorem dX6_init_37 : decode cX6_init 37 = .ok (.putfield 31, 3) := by decide +kernel
theorem dX6_init_40 : decode cX6_init 40 = .ok (.return_, 1) := by decide +kernel
theorem dX6_readText_0 : decode cX6_readText 0 = .ok (.aload_n 0, 1) := by decide +kernel
theorem dX6_readText_1 : decode cX6_readText 1 = .ok (.getfield 31, 3) := by decide +kernel
theorem dX6_readText_4 : decode cX6_readText 4 = .ok (.iload_n 1, 1) := by decide +kernel
theorem dX6_readText_5 : decode cX6_readText 5 = .ok (.invokevirtual 35, 3) := by decide +kernel
theorem dX6_readText_8 : decode cX6_readText 8 = .ok (.aload_n 0, 1) := by decide +kernel
theorem dX6_readText_9 : decode cX6_readText 9 = .ok (.getfield 12, 3) := by decide +kernel
theorem dX6_readText_12 : decode cX6_readText 12 = .ok (.invokevirtual 39, 3) := by decide +kernel
theorem dX6_readText_15 : decode cX6_readText 15 = .ok (.aload_n 0, 1) := by decide +kernel
theorem dX6_readText_16 : decode cX6_readText 16 = .ok (.iconst 0, 1) := by decide +kernel
theorem dX6_readText_17 : decode cX6_readText 17 = .ok (.putfield 42, 3) := by decide +kernel
theorem dX6_readText_20 : decode cX6_readText 20 = .ok (.aload_n 0, 1) := by decide +kernel
theorem dX6_readText_21 : decode cX6_readText 21 = .ok (.iconst 0, 1) := by decide +kernel
theorem dX6_readText_22 : decode cX6_readText 22 = .ok (.putfield 45, 3) := by decide +kernel
theorem dX6_readText_25 : decode cX6_readText 25 = .ok (.aload_n 0, 1) := by decide +kernel
theorem dX6_readText_26 : decode cX6_readText 26 = .ok (.iconst 0, 1) := by decide +kernel
theorem dX6_readText_27 : decode cX6_readText 27 = .ok (.putfield 48, 3) := by decide +kernel
theorem dX6_readText_30 : decode cX6_readText 30 = .ok (.aload_n 0, 1) := by decide +kernel
theorem dX6_readText_31 : decode cX6_readText 31 = .ok (.iconst (-1), 1) := by decide +kernel
theorem dX6_readText_32 : decode cX6_readText 32 = .ok (.putfield 22, 3) := by decide +kernel
theorem dX6_readText_35 : decode cX6_readText 35 = .ok (.iconst 0, 1) := by decide +kernel
theorem dX6_readText_36 : decode cX6_readText 36 = .ok (.istore_n 2, 1) := by decide +kernel
theorem dX6_readText_37 : decode cX6_readText 37 = .ok (.iload_n 2, 1) := by decide +kernel
theorem dX6_readText_38 : decode cX6_readText 38 = .ok (.sipush 500, 3) := by decide +kernel
theorem dX6_readText_41 : decode cX6_readText 41 = .ok (.if_icmp .gt 37, 3) := by decide +kernel
theorem dX6_readText_44 : decode cX6_readText 44 = .ok (.aload_n 0, 1) := by decide +kernel
theorem dX6_readText_45 : decode cX6_readText 45 = .ok (.getfield 31, 3) := by decide +kernel
theorem dX6_readText_48 : decode cX6_readText 48 = .ok (.invokevirtual 51, 3) := by decide +kernel
theorem dX6_readText_51 : decode cX6_readText 51 = .ok (.aload_n 0, 1) := by decide +kernel
theorem dX6_readText_52 : decode cX6_readText 52 = .ok (.getfield 31, 3) := by decide +kernel
theorem dX6_readText_55 : decode cX6_readText 55 = .ok (.getfield 54, 3) := by decide +kernel
theorem dX6_readText_58 : decode cX6_readText 58 = .ok (.ifCond .ne 5, 3) := by decide +kernel
theorem dX6_readText_61 : decode cX6_readText 61 = .ok (.iconst 1, 1) := by decide +kernel
theorem dX6_readText_62 : decode cX6_readText 62 = .ok (.ireturn, 1) := by decide +kernel
theorem dX6_readText_63 : decode cX6_readText 63 = .ok (.aload_n 0, 1) := by decide +kernel
theorem dX6_readText_64 : decode cX6_readText 64 = .ok (.invokevirtual 57, 3) := by decide +kernel
theorem dX6_readText_67 : decode cX6_readText 67 = .ok (.ifCond .ne 5, 3) := by decide +kernel
theorem dX6_readText_70 : decode cX6_readText 70 = .ok (.iconst 0, 1) := by decide +kernel
theorem dX6_readText_71 : decode cX6_readText 71 = .ok (.ireturn, 1) := by decide +kernel
theorem dX6_readText_72 : decode cX6_readText 72 = .ok (.iinc 2 1, 3) := by decide +kernel
theorem dX6_readText_75 : decode cX6_readText 75 = .ok (.goto (-38), 3) := by decide +kernel
theorem dX6_readText_78 : decode cX6_readText 78 = .ok (.aload_n 0, 1) := by decide +kernel
theorem dX6_readText_79 : decode cX6_readText 79 = .ok (.iconst 1, 1) := by decide +kernel
theorem dX6_readText_80 : decode cX6_readText 80 = .ok (.invokevirtual 61, 3) := by decide +kernel
theorem dX6_readText_83 : decode cX6_readText 83 = .ok (.ireturn, 1) := by decide +kernel
theorem dX6_failed_0 : decode cX6_failed 0 = .ok (.aload_n 0, 1) := by decide +kernel
theorem dX6_failed_1 : decode cX6_failed 1 = .ok (.iload_n 1, 1) := by decide +kernel
theorem dX6_failed_2 : decode cX6_failed 2 = .ok (.putfield 48, 3) := by decide +kernel
theorem dX6_failed_5 : decode cX6_failed 5 = .ok (.aload_n 0, 1) := by decide +kernel
theorem dX6_failed_6 : decode cX6_failed 6 = .ok (.aload_n 0, 1) := by decide +kernel
theorem dX6_failed_7 : decode cX6_failed 7 = .ok (.getfield 31, 3) := by decide +kernel
theorem dX6_failed_10 : decode cX6_failed 10 = .ok (.getfield 65, 3) := by decide +kernel
theorem dX6_failed_13 : decode cX6_failed 13 = .ok (.putfield 22, 3) := by decide +kernel
theorem dX6_failed_16 : decode cX6_failed 16 = .ok (.iconst 0, 1) := by decide +kernel
theorem dX6_failed_17 : decode cX6_failed 17 = .ok (.ireturn, 1) := by decide +kernel
theorem dX6_readLine_0 : decode cX6_readLine 0 = .ok (.aload_n 0, 1) := by decide +kernel
theorem dX6_readLine_1 : decode cX6_readLine 1 = .ok (.getfield 31, 3) := by decide +kernel
theorem dX6_readLine_4 : decode cX6_readLine 4 = .ok (.invokevirtual 68, 3) := by decide +kernel
theorem dX6_readLine_7 : decode cX6_readLine 7 = .ok (.istore_n 1, 1) := by decide +kernel
theorem dX6_readLine_8 : decode cX6_readLine 8 = .ok (.iload_n 1, 1) := by decide +kernel
theorem dX6_readLine_9 : decode cX6_readLine 9 = .ok (.iconst (-1), 1) := by decide +kernel
theorem dX6_readLine_10 : decode cX6_readLine 10 = .ok (.if_icmp .ne 9, 3) := by decide +kernel
theorem dX6_readLine_13 : decode cX6_readLine 13 = .ok (.aload_n 0, 1) := by decide +kernel
theorem dX6_readLine_14 : decode cX6_readLine 14 = .ok (.iconst 1, 1) := by decide +kernel
theorem dX6_readLine_15 : decode cX6_readLine 15 = .ok (.invokevirtual 61, 3) := by decide +kernel
theorem dX6_readLine_18 : decode cX6_readLine 18 = .ok (.ireturn, 1) := by decide +kernel
theorem dX6_readLine_19 : decode cX6_readLine 19 = .ok (.aload_n 0, 1) := by decide +kernel
theorem dX6_readLine_20 : decode cX6_readLine 20 = .ok (.getfield 45, 3) := by decide +kernel
theorem dX6_readLine_23 : decode cX6_readLine 23 = .ok (.iload_n 1, 1) := by decide +kernel
theorem dX6_readLine_24 : decode cX6_readLine 24 = .ok (.ishr, 1) := by decide +kernel
theorem dX6_readLine_25 : decode cX6_readLine 25 = .ok (.iconst 1, 1) := by decide +kernel
theorem dX6_readLine_26 : decode cX6_readLine 26 = .ok (.iand, 1) := by decide +kernel
theorem dX6_readLine_27 : decode cX6_readLine 27 = .ok (.iconst 1, 1) := by decide +kernel
theorem dX6_readLine_28 : decode cX6_readLine 28 = .ok (.if_icmp .ne 9, 3) := by decide +kernel
theorem dX6_readLine_31 : decode cX6_readLine 31 = .ok (.aload_n 0, 1) := by decide +kernel
theorem dX6_readLine_32 : decode cX6_readLine 32 = .ok (.iconst 3, 1) := by decide +kernel
theorem dX6_readLine_33 : decode cX6_readLine 33 = .ok (.invokevirtual 61, 3) := by decide +kernel
theorem dX6_readLine_36 : decode cX6_readLine 36 = .ok (.ireturn, 1) := by decide +kernel
theorem dX6_readLine_37 : decode cX6_readLine 37 = .ok (.aload_n 0, 1) := by decide +kernel
theorem dX6_readLine_38 : decode cX6_readLine 38 = .ok (.dup, 1) := by decide +kernel
theorem dX6_readLine_39 : decode cX6_readLine 39 = .ok (.getfield 45, 3) := by decide +kernel
theorem dX6_readLine_42 : decode cX6_readLine 42 = .ok (.iconst 1, 1) := by decide +kernel
theorem dX6_readLine_43 : decode cX6_readLine 43 = .ok (.iload_n 1, 1) := by decide +kernel
theorem dX6_readLine_44 : decode cX6_readLine 44 = .ok (.ishl, 1) := by decide +kernel
theorem dX6_readLine_45 : decode cX6_readLine 45 = .ok (.ior, 1) := by decide +kernel
theorem dX6_readLine_46 : decode cX6_readLine 46 = .ok (.putfield 45, 3) := by decide +kernel
theorem dX6_readLine_49 : decode cX6_readLine 49 = .ok (.aload_n 0, 1) := by decide +kernel
theorem dX6_readLine_50 : decode cX6_readLine 50 = .ok (.getfield 12, 3) := by decide +kernel
theorem dX6_readLine_53 : decode cX6_readLine 53 = .ok (.dup, 1) := by decide +kernel
theorem dX6_readLine_54 : decode cX6_readLine 54 = .ok (.getfield 72, 3) := by decide +kernel
theorem dX6_readLine_57 : decode cX6_readLine 57 = .ok (.iconst 1, 1) := by decide +kernel
theorem dX6_readLine_58 : decode cX6_readLine 58 = .ok (.iadd, 1) := by decide +kernel
theorem dX6_readLine_59 : decode cX6_readLine 59 = .ok (.putfield 72, 3) := by decide +kernel
theorem dX6_readLine_62 : decode cX6_readLine 62 = .ok (.iload_n 1, 1) := by decide +kernel
theorem dX6_readLine_63 : decode cX6_readLine 63 = .ok (.iconst 2, 1) := by decide +kernel
theorem dX6_readLine_64 : decode cX6_readLine 64 = .ok (.if_icmp .ge 11, 3) := by decide +kernel
theorem dX6_readLine_67 : decode cX6_readLine 67 = .ok (.aload_n 0, 1) := by decide +kernel
theorem dX6_readLine_68 : decode cX6_readLine 68 = .ok (.iload_n 1, 1) := by decide +kernel
theorem dX6_readLine_69 : decode cX6_readLine 69 = .ok (.invokevirtual 75, 3) := by decide +kernel
theorem dX6_readLine_72 : decode cX6_readLine 72 = .ok (.goto 10, 3) := by decide +kernel
theorem dX6_readLine_75 : decode cX6_readLine 75 = .ok (.aload_n 0, 1) := by decide +kernel
theorem dX6_readLine_76 : decode cX6_readLine 76 = .ok (.iload_n 1, 1) := by decide +kernel
theorem dX6_readLine_77 : decode cX6_readLine 77 = .ok (.iconst 2, 1) := by decide +kernel
theorem dX6_readLine_78 : decode cX6_readLine 78 = .ok (.isub, 1) := by decide +kernel
theorem dX6_readLine_79 : decode cX6_readLine 79 = .ok (.invokevirtual 78, 3) := by decide +kernel
theorem dX6_readLine_82 : decode cX6_readLine 82 = .ok (.ireturn, 1) := by decide +kernel
theorem dX6_readSetting_0 : decode cX6_readSetting 0 = .ok (.aload_n 0, 1) := by decide +kernel
theorem dX6_readSetting_1 : decode cX6_readSetting 1 = .ok (.getfield 31, 3) := by decide +kernel
theorem dX6_readSetting_4 : decode cX6_readSetting 4 = .ok (.invokevirtual 51, 3) := by decide +kernel
theorem dX6_readSetting_7 : decode cX6_readSetting 7 = .ok (.aload_n 0, 1) := by decide +kernel
theorem dX6_readSetting_8 : decode cX6_readSetting 8 = .ok (.getfield 31, 3) := by decide +kernel
theorem dX6_readSetting_11 : decode cX6_readSetting 11 = .ok (.getfield 54, 3) := by decide +kernel
theorem dX6_readSetting_14 : decode cX6_readSetting 14 = .ok (.iconst 3, 1) := by decide +kernel
theorem dX6_readSetting_15 : decode cX6_readSetting 15 = .ok (.if_icmp .eq 9, 3) := by decide +kernel
theorem dX6_readSetting_18 : decode cX6_readSetting 18 = .ok (.aload_n 0, 1) := by decide +kernel
theorem dX6_readSetting_19 : decode cX6_readSetting 19 = .ok (.iconst 1, 1) := by decide +kernel
theorem dX6_readSetting_20 : decode cX6_readSetting 20 = .ok (.invokevirtual 61, 3) := by decide +kernel
theorem dX6_readSetting_23 : decode cX6_readSetting 23 = .ok (.ireturn, 1) := by decide +kernel
theorem dX6_readSetting_24 : decode cX6_readSetting 24 = .ok (.iload_n 1, 1) := by decide +kernel
theorem dX6_readSetting_25 : decode cX6_readSetting 25 = .ok (.ifCond .ne 21, 3) := by decide +kernel
theorem dX6_readSetting_28 : decode cX6_readSetting 28 = .ok (.aload_n 0, 1) := by decide +kernel
theorem dX6_readSetting_29 : decode cX6_readSetting 29 = .ok (.getfield 31, 3) := by decide +kernel
theorem dX6_readSetting_32 : decode cX6_readSetting 32 = .ok (.getfield 83, 3) := by decide +kernel
theorem dX6_readSetting_35 : decode cX6_readSetting 35 = .ok (.bipush 60, 2) := by decide +kernel
theorem dX6_readSetting_37 : decode cX6_readSetting 37 = .ok (.sipush 900, 3) := by decide +kernel
theorem dX6_readSetting_40 : decode cX6_readSetting 40 = .ok (.invokestatic 86, 3) := by decide +kernel
theorem dX6_readSetting_43 : decode cX6_readSetting 43 = .ok (.goto 16, 3) := by decide +kernel
theorem dX6_readSetting_46 : decode cX6_readSetting 46 = .ok (.aload_n 0, 1) := by decide +kernel
theorem dX6_readSetting_47 : decode cX6_readSetting 47 = .ok (.getfield 31, 3) := by decide +kernel
theorem dX6_readSetting_50 : decode cX6_readSetting 50 = .ok (.getfield 83, 3) := by decide +kernel
theorem dX6_readSetting_53 : decode cX6_readSetting 53 = .ok (.iconst 0, 1) := by decide +kernel
theorem dX6_readSetting_54 : decode cX6_readSetting 54 = .ok (.bipush 99, 2) := by decide +kernel
theorem dX6_readSetting_56 : decode cX6_readSetting 56 = .ok (.invokestatic 86, 3) := by decide +kernel
theorem dX6_readSetting_59 : decode cX6_readSetting 59 = .ok (.istore_n 2, 1) := by decide +kernel
theorem dX6_readSetting_60 : decode cX6_readSetting 60 = .ok (.iload_n 2, 1) := by decide +kernel
theorem dX6_readSetting_61 : decode cX6_readSetting 61 = .ok (.ifCond .ne 9, 3) := by decide +kernel
theorem dX6_readSetting_64 : decode cX6_readSetting 64 = .ok (.aload_n 0, 1) := by decide +kernel
theorem dX6_readSetting_65 : decode cX6_readSetting 65 = .ok (.iconst 2, 1) := by decide +kernel
theorem dX6_readSetting_66 : decode cX6_readSetting 66 = .ok (.invokevirtual 61, 3) := by decide +kernel
theorem dX6_readSetting_69 : decode cX6_readSetting 69 = .ok (.ireturn, 1) := by decide +kernel
theorem dX6_readSetting_70 : decode cX6_readSetting 70 = .ok (.iload_n 1, 1) := by decide +kernel
theorem dX6_readSetting_71 : decode cX6_readSetting 71 = .ok (.ifCond .ne 20, 3) := by decide +kernel
theorem dX6_readSetting_74 : decode cX6_readSetting 74 = .ok (.aload_n 0, 1) := by decide +kernel
theorem dX6_readSetting_75 : decode cX6_readSetting 75 = .ok (.getfield 12, 3) := by decide +kernel
theorem dX6_readSetting_78 : decode cX6_readSetting 78 = .ok (.aload_n 0, 1) := by decide +kernel
theorem dX6_readSetting_79 : decode cX6_readSetting 79 = .ok (.getfield 31, 3) := by decide +kernel
theorem dX6_readSetting_82 : decode cX6_readSetting 82 = .ok (.getfield 83, 3) := by decide +kernel
theorem dX6_readSetting_85 : decode cX6_readSetting 85 = .ok (.putfield 90, 3) := by decide +kernel
theorem dX6_readSetting_88 : decode cX6_readSetting 88 = .ok (.goto 17, 3) := by decide +kernel
theorem dX6_readSetting_91 : decode cX6_readSetting 91 = .ok (.aload_n 0, 1) := by decide +kernel
theorem dX6_readSetting_92 : decode cX6_readSetting 92 = .ok (.getfield 12, 3) := by decide +kernel
theorem dX6_readSetting_95 : decode cX6_readSetting 95 = .ok (.aload_n 0, 1) := by decide +kernel
theorem dX6_readSetting_96 : decode cX6_readSetting 96 = .ok (.getfield 31, 3) := by decide +kernel
theorem dX6_readSetting_99 : decode cX6_readSetting 99 = .ok (.getfield 83, 3) := by decide +kernel
theorem dX6_readSetting_102 : decode cX6_readSetting 102 = .ok (.putfield 93, 3) := by decide +kernel
theorem dX6_readSetting_105 : decode cX6_readSetting 105 = .ok (.aload_n 0, 1) := by decide +kernel
theorem dX6_readSetting_106 : decode cX6_readSetting 106 = .ok (.getfield 31, 3) := by decide +kernel
theorem dX6_readSetting_109 : decode cX6_readSetting 109 = .ok (.invokevirtual 51, 3) := by decide +kernel
theorem dX6_readSetting_112 : decode cX6_readSetting 112 = .ok (.aload_n 0, 1) := by decide +kernel
theorem dX6_readSetting_113 : decode cX6_readSetting 113 = .ok (.getfield 31, 3) := by decide +kernel
theorem dX6_readSetting_116 : decode cX6_readSetting 116 = .ok (.getfield 54, 3) := by decide +kernel
theorem dX6_readSetting_119 : decode cX6_readSetting 119 = .ok (.iconst 5, 1) := by decide +kernel
theorem dX6_readSetting_120 : decode cX6_readSetting 120 = .ok (.if_icmp .eq 11, 3) := by decide +kernel
theorem dX6_readSetting_123 : decode cX6_readSetting 123 = .ok (.aload_n 0, 1) := by decide +kernel
theorem dX6_readSetting_124 : decode cX6_readSetting 124 = .ok (.iconst 1, 1) := by decide +kernel
theorem dX6_readSetting_125 : decode cX6_readSetting 125 = .ok (.invokevirtual 61, 3) := by decide +kernel
theorem dX6_readSetting_128 : decode cX6_readSetting 128 = .ok (.ifCond .eq 7, 3) := by decide +kernel
theorem dX6_readSetting_131 : decode cX6_readSetting 131 = .ok (.iconst 1, 1) := by decide +kernel
theorem dX6_readSetting_132 : decode cX6_readSetting 132 = .ok (.goto 4, 3) := by decide +kernel
theorem dX6_readSetting_135 : decode cX6_readSetting 135 = .ok (.iconst 0, 1) := by decide +kernel
theorem dX6_readSetting_136 : decode cX6_readSetting 136 = .ok (.ireturn, 1) := by decide +kernel
theorem dX6_readExpression_0 : decode cX6_readExpression 0 = .ok (.aload_n 0, 1) := by decide +kernel
theorem dX6_readExpression_1 : decode cX6_readExpression 1 = .ok (.iconst 0, 1) := by decide +kernel
theorem dX6_readExpression_2 : decode cX6_readExpression 2 = .ok (.putfield 96, 3) := by decide +kernel
theorem dX6_readExpression_5 : decode cX6_readExpression 5 = .ok (.aload_n 0, 1) := by decide +kernel
theorem dX6_readExpression_6 : decode cX6_readExpression 6 = .ok (.iconst 0, 1) := by decide +kernel
theorem dX6_readExpression_7 : decode cX6_readExpression 7 = .ok (.putfield 99, 3) := by decide +kernel
theorem dX6_readExpression_10 : decode cX6_readExpression 10 = .ok (.aload_n 0, 1) := by decide +kernel
theorem dX6_readExpression_11 : decode cX6_readExpression 11 = .ok (.getfield 12, 3) := by decide +kernel
theorem dX6_readExpression_14 : decode cX6_readExpression 14 = .ok (.getfield 102, 3) := by decide +kernel
theorem dX6_readExpression_17 : decode cX6_readExpression 17 = .ok (.iload_n 1, 1) := by decide +kernel
theorem dX6_readExpression_18 : decode cX6_readExpression 18 = .ok (.aload_n 0, 1) := by decide +kernel
theorem dX6_readExpression_19 : decode cX6_readExpression 19 = .ok (.getfield 42, 3) := by decide +kernel
theorem dX6_readExpression_22 : decode cX6_readExpression 22 = .ok (.iastore, 1) := by decide +kernel
theorem dX6_readExpression_23 : decode cX6_readExpression 23 = .ok (.iconst 1, 1) := by decide +kernel
theorem dX6_readExpression_24 : decode cX6_readExpression 24 = .ok (.istore_n 2, 1) := by decide +kernel
theorem dX6_readExpression_25 : decode cX6_readExpression 25 = .ok (.iconst 0, 1) := by decide +kernel
theorem dX6_readExpression_26 : decode cX6_readExpression 26 = .ok (.istore_n 3, 1) := by decide +kernel
theorem dX6_readExpression_27 : decode cX6_readExpression 27 = .ok (.iload_n 3, 1) := by decide +kernel
theorem dX6_readExpression_28 : decode cX6_readExpression 28 = .ok (.sipush 500, 3) := by decide +kernel
theorem dX6_readExpression_31 : decode cX6_readExpression 31 = .ok (.if_icmp .gt 136, 3) := by decide +kernel
theorem dX6_readExpression_34 : decode cX6_readExpression 34 = .ok (.aload_n 0, 1) := by decide +kernel
theorem dX6_readExpression_35 : decode cX6_readExpression 35 = .ok (.getfield 31, 3) := by decide +kernel
theorem dX6_readExpression_38 : decode cX6_readExpression 38 = .ok (.invokevirtual 51, 3) := by decide +kernel
theorem dX6_readExpression_41 : decode cX6_readExpression 41 = .ok (.aload_n 0, 1) := by decide +kernel
theorem dX6_readExpression_42 : decode cX6_readExpression 42 = .ok (.getfield 31, 3) := by decide +kernel
theorem dX6_readExpression_45 : decode cX6_readExpression 45 = .ok (.invokevirtual 105, 3) := by decide +kernel
theorem dX6_readExpression_48 : decode cX6_readExpression 48 = .ok (.aload_n 0, 1) := by decide +kernel
theorem dX6_readExpression_49 : decode cX6_readExpression 49 = .ok (.getfield 31, 3) := by decide +kernel
theorem dX6_readExpression_52 : decode cX6_readExpression 52 = .ok (.getfield 54, 3) := by decide +kernel
theorem dX6_readExpression_55 : decode cX6_readExpression 55 = .ok (.istore 4, 2) := by decide +kernel
theorem dX6_readExpression_57 : decode cX6_readExpression 57 = .ok (.iload_n 2, 1) := by decide +kernel
theorem dX6_readExpression_58 : decode cX6_readExpression 58 = .ok (.ifCond .eq 36, 3) := by decide +kernel
theorem dX6_readExpression_61 : decode cX6_readExpression 61 = .ok (.aload_n 0, 1) := by decide +kernel
theorem dX6_readExpression_62 : decode cX6_readExpression 62 = .ok (.iload 4, 2) := by decide +kernel
theorem dX6_readExpression_64 : decode cX6_readExpression 64 = .ok (.iload_n 1, 1) := by decide +kernel
theorem dX6_readExpression_65 : decode cX6_readExpression 65 = .ok (.invokevirtual 108, 3) := by decide +kernel
theorem dX6_readExpression_68 : decode cX6_readExpression 68 = .ok (.ifCond .ne 5, 3) := by decide +kernel
theorem dX6_readExpression_71 : decode cX6_readExpression 71 = .ok (.iconst 0, 1) := by decide +kernel
theorem dX6_readExpression_72 : decode cX6_readExpression 72 = .ok (.ireturn, 1) := by decide +kernel
theorem dX6_readExpression_73 : decode cX6_readExpression 73 = .ok (.iload 4, 2) := by decide +kernel
theorem dX6_readExpression_75 : decode cX6_readExpression 75 = .ok (.iconst 3, 1) := by decide +kernel
theorem dX6_readExpression_76 : decode cX6_readExpression 76 = .ok (.if_icmp .eq 13, 3) := by decide +kernel
theorem dX6_readExpression_79 : decode cX6_readExpression 79 = .ok (.iload 4, 2) := by decide +kernel
theorem dX6_readExpression_81 : decode cX6_readExpression 81 = .ok (.iconst 4, 1) := by decide +kernel
theorem dX6_readExpression_82 : decode cX6_readExpression 82 = .ok (.if_icmp .eq 7, 3) := by decide +kernel
theorem dX6_readExpression_85 : decode cX6_readExpression 85 = .ok (.iconst 1, 1) := by decide +kernel
theorem dX6_readExpression_86 : decode cX6_readExpression 86 = .ok (.goto 4, 3) := by decide +kernel
theorem dX6_readExpression_89 : decode cX6_readExpression 89 = .ok (.iconst 0, 1) := by decide +kernel
theorem dX6_readExpression_90 : decode cX6_readExpression 90 = .ok (.istore_n 2, 1) := by decide +kernel
theorem dX6_readExpression_91 : decode cX6_readExpression 91 = .ok (.goto 70, 3) := by decide +kernel
theorem dX6_readExpression_94 : decode cX6_readExpression 94 = .ok (.iload 4, 2) := by decide +kernel
theorem dX6_readExpression_96 : decode cX6_readExpression 96 = .ok (.iconst 5, 1) := by decide +kernel
theorem dX6_readExpression_97 : decode cX6_readExpression 97 = .ok (.if_icmp .ne 30, 3) := by decide +kernel
theorem dX6_readExpression_100 : decode cX6_readExpression 100 = .ok (.aload_n 0, 1) := by decide +kernel
theorem dX6_readExpression_101 : decode cX6_readExpression 101 = .ok (.getfield 99, 3) := by decide +kernel
theorem dX6_readExpression_104 : decode cX6_readExpression 104 = .ok (.ifCond .ne 23, 3) := by decide +kernel
theorem dX6_readExpression_107 : decode cX6_readExpression 107 = .ok (.aload_n 0, 1) := by decide +kernel
theorem dX6_readExpression_108 : decode cX6_readExpression 108 = .ok (.iconst 0, 1) := by decide +kernel
theorem dX6_readExpression_109 : decode cX6_readExpression 109 = .ok (.invokevirtual 112, 3) := by decide +kernel
theorem dX6_readExpression_112 : decode cX6_readExpression 112 = .ok (.aload_n 0, 1) := by decide +kernel
theorem dX6_readExpression_113 : decode cX6_readExpression 113 = .ok (.getfield 12, 3) := by decide +kernel
theorem dX6_readExpression_116 : decode cX6_readExpression 116 = .ok (.getfield 115, 3) := by decide +kernel
theorem dX6_readExpression_119 : decode cX6_readExpression 119 = .ok (.iload_n 1, 1) := by decide +kernel
theorem dX6_readExpression_120 : decode cX6_readExpression 120 = .ok (.aload_n 0, 1) := by decide +kernel
theorem dX6_readExpression_121 : decode cX6_readExpression 121 = .ok (.getfield 42, 3) := by decide +kernel
theorem dX6_readExpression_124 : decode cX6_readExpression 124 = .ok (.iastore, 1) := by decide +kernel
theorem dX6_readExpression_125 : decode cX6_readExpression 125 = .ok (.iconst 1, 1) := by decide +kernel
theorem dX6_readExpression_126 : decode cX6_readExpression 126 = .ok (.ireturn, 1) := by decide +kernel
theorem dX6_readExpression_127 : decode cX6_readExpression 127 = .ok (.iload 4, 2) := by decide +kernel
theorem dX6_readExpression_129 : decode cX6_readExpression 129 = .ok (.bipush 6, 2) := by decide +kernel
theorem dX6_readExpression_131 : decode cX6_readExpression 131 = .ok (.if_icmp .ne 17, 3) := by decide +kernel
theorem dX6_readExpression_134 : decode cX6_readExpression 134 = .ok (.aload_n 0, 1) := by decide +kernel
theorem dX6_readExpression_135 : decode cX6_readExpression 135 = .ok (.getfield 99, 3) := by decide +kernel
theorem dX6_readExpression_138 : decode cX6_readExpression 138 = .ok (.ifCond .le 10, 3) := by decide +kernel
theorem dX6_readExpression_141 : decode cX6_readExpression 141 = .ok (.aload_n 0, 1) := by decide +kernel
theorem dX6_readExpression_142 : decode cX6_readExpression 142 = .ok (.invokevirtual 118, 3) := by decide +kernel
theorem dX6_readExpression_145 : decode cX6_readExpression 145 = .ok (.goto 16, 3) := by decide +kernel
theorem dX6_readExpression_148 : decode cX6_readExpression 148 = .ok (.aload_n 0, 1) := by decide +kernel
theorem dX6_readExpression_149 : decode cX6_readExpression 149 = .ok (.iload 4, 2) := by decide +kernel
theorem dX6_readExpression_151 : decode cX6_readExpression 151 = .ok (.invokevirtual 121, 3) := by decide +kernel
theorem dX6_readExpression_154 : decode cX6_readExpression 154 = .ok (.ifCond .ne 5, 3) := by decide +kernel
theorem dX6_readExpression_157 : decode cX6_readExpression 157 = .ok (.iconst 0, 1) := by decide +kernel
theorem dX6_readExpression_158 : decode cX6_readExpression 158 = .ok (.ireturn, 1) := by decide +kernel
theorem dX6_readExpression_159 : decode cX6_readExpression 159 = .ok (.iconst 1, 1) := by decide +kernel
theorem dX6_readExpression_160 : decode cX6_readExpression 160 = .ok (.istore_n 2, 1) := by decide +kernel
theorem dX6_readExpression_161 : decode cX6_readExpression 161 = .ok (.iinc 3 1, 3) := by decide +kernel
theorem dX6_readExpression_164 : decode cX6_readExpression 164 = .ok (.goto (-137), 3) := by decide +kernel
theorem dX6_readExpression_167 : decode cX6_readExpression 167 = .ok (.aload_n 0, 1) := by decide +kernel
theorem dX6_readExpression_168 : decode cX6_readExpression 168 = .ok (.iconst 1, 1) := by decide +kernel
theorem dX6_readExpression_169 : decode cX6_readExpression 169 = .ok (.invokevirtual 61, 3) := by decide +kernel
theorem dX6_readExpression_172 : decode cX6_readExpression 172 = .ok (.ireturn, 1) := by decide +kernel
theorem dX6_readPart_0 : decode cX6_readPart 0 = .ok (.iload_n 1, 1) := by decide +kernel
theorem dX6_readPart_1 : decode cX6_readPart 1 = .ok (.lookupswitch 168 #[(3, 51), (4, 99), (7, 105), (10, 132), (18, 110)], 51) := by decide +kernel
theorem dX6_readPart_52 : decode cX6_readPart 52 = .ok (.aload_n 0, 1) := by decide +kernel
theorem dX6_readPart_53 : decode cX6_readPart 53 = .ok (.getfield 31, 3) := by decide +kernel
theorem dX6_readPart_56 : decode cX6_readPart 56 = .ok (.getfield 83, 3) := by decide +kernel
theorem dX6_readPart_59 : decode cX6_readPart 59 = .ok (.ldc 124, 2) := by decide +kernel
theorem dX6_readPart_61 : decode cX6_readPart 61 = .ok (.if_icmp .le 11, 3) := by decide +kernel
theorem dX6_readPart_64 : decode cX6_readPart 64 = .ok (.aload_n 0, 1) := by decide +kernel
theorem dX6_readPart_65 : decode cX6_readPart 65 = .ok (.iconst 2, 1) := by decide +kernel
theorem dX6_readPart_66 : decode cX6_readPart 66 = .ok (.invokevirtual 61, 3) := by decide +kernel
theorem dX6_readPart_69 : decode cX6_readPart 69 = .ok (.goto 30, 3) := by decide +kernel
theorem dX6_readPart_72 : decode cX6_readPart 72 = .ok (.aload_n 0, 1) := by decide +kernel
theorem dX6_readPart_73 : decode cX6_readPart 73 = .ok (.invokevirtual 125, 3) := by decide +kernel
theorem dX6_readPart_76 : decode cX6_readPart 76 = .ok (.ifCond .eq 22, 3) := by decide +kernel
theorem dX6_readPart_79 : decode cX6_readPart 79 = .ok (.aload_n 0, 1) := by decide +kernel
theorem dX6_readPart_80 : decode cX6_readPart 80 = .ok (.iload_n 1, 1) := by decide +kernel
theorem dX6_readPart_81 : decode cX6_readPart 81 = .ok (.aload_n 0, 1) := by decide +kernel
theorem dX6_readPart_82 : decode cX6_readPart 82 = .ok (.getfield 31, 3) := by decide +kernel
theorem dX6_readPart_85 : decode cX6_readPart 85 = .ok (.getfield 83, 3) := by decide +kernel
theorem dX6_readPart_88 : decode cX6_readPart 88 = .ok (.invokevirtual 128, 3) := by decide +kernel
theorem dX6_readPart_91 : decode cX6_readPart 91 = .ok (.ifCond .eq 7, 3) := by decide +kernel
theorem dX6_readPart_94 : decode cX6_readPart 94 = .ok (.iconst 1, 1) := by decide +kernel
theorem dX6_readPart_95 : decode cX6_readPart 95 = .ok (.goto 4, 3) := by decide +kernel
theorem dX6_readPart_98 : decode cX6_readPart 98 = .ok (.iconst 0, 1) := by decide +kernel
theorem dX6_readPart_99 : decode cX6_readPart 99 = .ok (.ireturn, 1) := by decide +kernel
theorem dX6_readPart_100 : decode cX6_readPart 100 = .ok (.aload_n 0, 1) := by decide +kernel
theorem dX6_readPart_101 : decode cX6_readPart 101 = .ok (.iload_n 2, 1) := by decide +kernel
theorem dX6_readPart_102 : decode cX6_readPart 102 = .ok (.invokevirtual 131, 3) := by decide +kernel
theorem dX6_readPart_105 : decode cX6_readPart 105 = .ok (.ireturn, 1) := by decide +kernel
theorem dX6_readPart_106 : decode cX6_readPart 106 = .ok (.aload_n 0, 1) := by decide +kernel
theorem dX6_readPart_107 : decode cX6_readPart 107 = .ok (.invokevirtual 134, 3) := by decide +kernel
theorem dX6_readPart_110 : decode cX6_readPart 110 = .ok (.ireturn, 1) := by decide +kernel
theorem dX6_readPart_111 : decode cX6_readPart 111 = .ok (.aload_n 0, 1) := by decide +kernel
theorem dX6_readPart_112 : decode cX6_readPart 112 = .ok (.invokevirtual 125, 3) := by decide +kernel
theorem dX6_readPart_115 : decode cX6_readPart 115 = .ok (.ifCond .eq 16, 3) := by decide +kernel
theorem dX6_readPart_118 : decode cX6_readPart 118 = .ok (.aload_n 0, 1) := by decide +kernel
theorem dX6_readPart_119 : decode cX6_readPart 119 = .ok (.bipush 22, 2) := by decide +kernel
theorem dX6_readPart_121 : decode cX6_readPart 121 = .ok (.invokevirtual 137, 3) := by decide +kernel
theorem dX6_readPart_124 : decode cX6_readPart 124 = .ok (.ifCond .eq 7, 3) := by decide +kernel
theorem dX6_readPart_127 : decode cX6_readPart 127 = .ok (.iconst 1, 1) := by decide +kernel
theorem dX6_readPart_128 : decode cX6_readPart 128 = .ok (.goto 4, 3) := by decide +kernel
theorem dX6_readPart_131 : decode cX6_readPart 131 = .ok (.iconst 0, 1) := by decide +kernel
theorem dX6_readPart_132 : decode cX6_readPart 132 = .ok (.ireturn, 1) := by decide +kernel
theorem dX6_readPart_133 : decode cX6_readPart 133 = .ok (.aload_n 0, 1) := by decide +kernel
theorem dX6_readPart_134 : decode cX6_readPart 134 = .ok (.invokevirtual 140, 3) := by decide +kernel
theorem dX6_readPart_137 : decode cX6_readPart 137 = .ok (.ifCond .eq 26, 3) := by decide +kernel
theorem dX6_readPart_140 : decode cX6_readPart 140 = .ok (.aload_n 0, 1) := by decide +kernel
theorem dX6_readPart_141 : decode cX6_readPart 141 = .ok (.invokevirtual 125, 3) := by decide +kernel
theorem dX6_readPart_144 : decode cX6_readPart 144 = .ok (.ifCond .eq 15, 3) := by decide +kernel
theorem dX6_readPart_147 : decode cX6_readPart 147 = .ok (.aload_n 0, 1) := by decide +kernel
theorem dX6_readPart_148 : decode cX6_readPart 148 = .ok (.iload_n 1, 1) := by decide +kernel
theorem dX6_readPart_149 : decode cX6_readPart 149 = .ok (.invokevirtual 137, 3) := by decide +kernel
theorem dX6_readPart_152 : decode cX6_readPart 152 = .ok (.ifCond .eq 7, 3) := by decide +kernel
theorem dX6_readPart_155 : decode cX6_readPart 155 = .ok (.iconst 1, 1) := by decide +kernel
theorem dX6_readPart_156 : decode cX6_readPart 156 = .ok (.goto 12, 3) := by decide +kernel
theorem dX6_readPart_159 : decode cX6_readPart 159 = .ok (.iconst 0, 1) := by decide +kernel
theorem dX6_readPart_160 : decode cX6_readPart 160 = .ok (.goto 8, 3) := by decide +kernel
theorem dX6_readPart_163 : decode cX6_readPart 163 = .ok (.aload_n 0, 1) := by decide +kernel
theorem dX6_readPart_164 : decode cX6_readPart 164 = .ok (.iconst 1, 1) := by decide +kernel
theorem dX6_readPart_165 : decode cX6_readPart 165 = .ok (.invokevirtual 61, 3) := by decide +kernel
theorem dX6_readPart_168 : decode cX6_readPart 168 = .ok (.ireturn, 1) := by decide +kernel
theorem dX6_readPart_169 : decode cX6_readPart 169 = .ok (.aload_n 0, 1) := by decide +kernel
theorem dX6_readPart_170 : decode cX6_readPart 170 = .ok (.iconst 1, 1) := by decide +kernel
theorem dX6_readPart_171 : decode cX6_readPart 171 = .ok (.invokevirtual 61, 3) := by decide +kernel
theorem dX6_readPart_174 : decode cX6_readPart 174 = .ok (.ireturn, 1) := by decide +kernel
theorem dX6_readName_0 : decode cX6_readName 0 = .ok (.aload_n 0, 1) := by decide +kernel
theorem dX6_readName_1 : decode cX6_readName 1 = .ok (.invokevirtual 125, 3) := by decide +kernel
theorem dX6_readName_4 : decode cX6_readName 4 = .ok (.ifCond .ne 5, 3) := by decide +kernel
theorem dX6_readName_7 : decode cX6_readName 7 = .ok (.iconst 0, 1) := by decide +kernel
theorem dX6_readName_8 : decode cX6_readName 8 = .ok (.ireturn, 1) := by decide +kernel
theorem dX6_readName_9 : decode cX6_readName 9 = .ok (.aload_n 0, 1) := by decide +kernel
theorem dX6_readName_10 : decode cX6_readName 10 = .ok (.getfield 31, 3) := by decide +kernel
theorem dX6_readName_13 : decode cX6_readName 13 = .ok (.getfield 83, 3) := by decide +kernel
theorem dX6_readName_16 : decode cX6_readName 16 = .ok (.bipush 10, 2) := by decide +kernel
theorem dX6_readName_18 : decode cX6_readName 18 = .ok (.if_icmp .ne 18, 3) := by decide +kernel
theorem dX6_readName_21 : decode cX6_readName 21 = .ok (.iload_n 1, 1) := by decide +kernel
theorem dX6_readName_22 : decode cX6_readName 22 = .ok (.ifCond .eq 8, 3) := by decide +kernel
theorem dX6_readName_25 : decode cX6_readName 25 = .ok (.iload_n 1, 1) := by decide +kernel
theorem dX6_readName_26 : decode cX6_readName 26 = .ok (.iconst 1, 1) := by decide +kernel
theorem dX6_readName_27 : decode cX6_readName 27 = .ok (.if_icmp .ne 9, 3) := by decide +kernel
theorem dX6_readName_30 : decode cX6_readName 30 = .ok (.aload_n 0, 1) := by decide +kernel
theorem dX6_readName_31 : decode cX6_readName 31 = .ok (.iconst 4, 1) := by decide +kernel
theorem dX6_readName_32 : decode cX6_readName 32 = .ok (.invokevirtual 61, 3) := by decide +kernel
theorem dX6_readName_35 : decode cX6_readName 35 = .ok (.ireturn, 1) := by decide +kernel
theorem dX6_readName_36 : decode cX6_readName 36 = .ok (.aload_n 0, 1) := by decide +kernel
theorem dX6_readName_37 : decode cX6_readName 37 = .ok (.iconst 4, 1) := by decide +kernel
theorem dX6_readName_38 : decode cX6_readName 38 = .ok (.aload_n 0, 1) := by decide +kernel
theorem dX6_readName_39 : decode cX6_readName 39 = .ok (.getfield 31, 3) := by decide +kernel
theorem dX6_readName_42 : decode cX6_readName 42 = .ok (.getfield 83, 3) := by decide +kernel
theorem dX6_readName_45 : decode cX6_readName 45 = .ok (.invokevirtual 128, 3) := by decide +kernel
theorem dX6_readName_48 : decode cX6_readName 48 = .ok (.ireturn, 1) := by decide +kernel
theorem dX6_openBracket_0 : decode cX6_openBracket 0 = .ok (.aload_n 0, 1) := by decide +kernel
theorem dX6_openBracket_1 : decode cX6_openBracket 1 = .ok (.getfield 99, 3) := by decide +kernel
theorem dX6_openBracket_4 : decode cX6_openBracket 4 = .ok (.bipush 8, 2) := by decide +kernel
theorem dX6_openBracket_6 : decode cX6_openBracket 6 = .ok (.if_icmp .lt 9, 3) := by decide +kernel
theorem dX6_openBracket_9 : decode cX6_openBracket 9 = .ok (.aload_n 0, 1) := by decide +kernel
theorem dX6_openBracket_10 : decode cX6_openBracket 10 = .ok (.iconst 2, 1) := by decide +kernel
theorem dX6_openBracket_11 : decode cX6_openBracket 11 = .ok (.invokevirtual 61, 3) := by decide +kernel
theorem dX6_openBracket_14 : decode cX6_openBracket 14 = .ok (.ireturn, 1) := by decide +kernel
theorem dX6_openBracket_15 : decode cX6_openBracket 15 = .ok (.aload_n 0, 1) := by decide +kernel
theorem dX6_openBracket_16 : decode cX6_openBracket 16 = .ok (.dup, 1) := by decide +kernel
theorem dX6_openBracket_17 : decode cX6_openBracket 17 = .ok (.getfield 99, 3) := by decide +kernel
theorem dX6_openBracket_20 : decode cX6_openBracket 20 = .ok (.iconst 1, 1) := by decide +kernel
theorem dX6_openBracket_21 : decode cX6_openBracket 21 = .ok (.iadd, 1) := by decide +kernel
theorem dX6_openBracket_22 : decode cX6_openBracket 22 = .ok (.putfield 99, 3) := by decide +kernel
theorem dX6_openBracket_25 : decode cX6_openBracket 25 = .ok (.aload_n 0, 1) := by decide +kernel
theorem dX6_openBracket_26 : decode cX6_openBracket 26 = .ok (.bipush 7, 2) := by decide +kernel
theorem dX6_openBracket_28 : decode cX6_openBracket 28 = .ok (.invokevirtual 137, 3) := by decide +kernel
theorem dX6_openBracket_31 : decode cX6_openBracket 31 = .ok (.ireturn, 1) := by decide +kernel
theorem dX6_closeBracket_0 : decode cX6_closeBracket 0 = .ok (.aload_n 0, 1) := by decide +kernel
theorem dX6_closeBracket_1 : decode cX6_closeBracket 1 = .ok (.iconst 0, 1) := by decide +kernel
theorem dX6_closeBracket_2 : decode cX6_closeBracket 2 = .ok (.invokevirtual 112, 3) := by decide +kernel
theorem dX6_closeBracket_5 : decode cX6_closeBracket 5 = .ok (.aload_n 0, 1) := by decide +kernel
theorem dX6_closeBracket_6 : decode cX6_closeBracket 6 = .ok (.dup, 1) := by decide +kernel
theorem dX6_closeBracket_7 : decode cX6_closeBracket 7 = .ok (.getfield 99, 3) := by decide +kernel
theorem dX6_closeBracket_10 : decode cX6_closeBracket 10 = .ok (.iconst 1, 1) := by decide +kernel
theorem dX6_closeBracket_11 : decode cX6_closeBracket 11 = .ok (.isub, 1) := by decide +kernel
theorem dX6_closeBracket_12 : decode cX6_closeBracket 12 = .ok (.putfield 99, 3) := by decide +kernel
theorem dX6_closeBracket_15 : decode cX6_closeBracket 15 = .ok (.aload_n 0, 1) := by decide +kernel
theorem dX6_closeBracket_16 : decode cX6_closeBracket 16 = .ok (.getfield 96, 3) := by decide +kernel
theorem dX6_closeBracket_19 : decode cX6_closeBracket 19 = .ok (.ifCond .le 13, 3) := by decide +kernel
theorem dX6_closeBracket_22 : decode cX6_closeBracket 22 = .ok (.aload_n 0, 1) := by decide +kernel
theorem dX6_closeBracket_23 : decode cX6_closeBracket 23 = .ok (.dup, 1) := by decide +kernel
theorem dX6_closeBracket_24 : decode cX6_closeBracket 24 = .ok (.getfield 96, 3) := by decide +kernel
theorem dX6_closeBracket_27 : decode cX6_closeBracket 27 = .ok (.iconst 1, 1) := by decide +kernel
theorem dX6_closeBracket_28 : decode cX6_closeBracket 28 = .ok (.isub, 1) := by decide +kernel
theorem dX6_closeBracket_29 : decode cX6_closeBracket 29 = .ok (.putfield 96, 3) := by decide +kernel
theorem dX6_closeBracket_32 : decode cX6_closeBracket 32 = .ok (.return_, 1) := by decide +kernel
theorem dX6_notMayStand_0 : decode cX6_notMayStand 0 = .ok (.aload_n 0, 1) := by decide +kernel
theorem dX6_notMayStand_1 : decode cX6_notMayStand 1 = .ok (.getfield 96, 3) := by decide +kernel
theorem dX6_notMayStand_4 : decode cX6_notMayStand 4 = .ok (.ifCond .eq 25, 3) := by decide +kernel
theorem dX6_notMayStand_7 : decode cX6_notMayStand 7 = .ok (.aload_n 0, 1) := by decide +kernel
theorem dX6_notMayStand_8 : decode cX6_notMayStand 8 = .ok (.getfield 18, 3) := by decide +kernel
theorem dX6_notMayStand_11 : decode cX6_notMayStand 11 = .ok (.aload_n 0, 1) := by decide +kernel
theorem dX6_notMayStand_12 : decode cX6_notMayStand 12 = .ok (.getfield 96, 3) := by decide +kernel
theorem dX6_notMayStand_15 : decode cX6_notMayStand 15 = .ok (.iconst 1, 1) := by decide +kernel
theorem dX6_notMayStand_16 : decode cX6_notMayStand 16 = .ok (.isub, 1) := by decide +kernel
theorem dX6_notMayStand_17 : decode cX6_notMayStand 17 = .ok (.iaload, 1) := by decide +kernel
theorem dX6_notMayStand_18 : decode cX6_notMayStand 18 = .ok (.invokestatic 143, 3) := by decide +kernel
theorem dX6_notMayStand_21 : decode cX6_notMayStand 21 = .ok (.bipush 10, 2) := by decide +kernel
theorem dX6_notMayStand_23 : decode cX6_notMayStand 23 = .ok (.invokestatic 143, 3) := by decide +kernel
theorem dX6_notMayStand_26 : decode cX6_notMayStand 26 = .ok (.if_icmp .gt 7, 3) := by decide +kernel
theorem dX6_notMayStand_29 : decode cX6_notMayStand 29 = .ok (.iconst 1, 1) := by decide +kernel
theorem dX6_notMayStand_30 : decode cX6_notMayStand 30 = .ok (.goto 4, 3) := by decide +kernel
theorem dX6_notMayStand_33 : decode cX6_notMayStand 33 = .ok (.iconst 0, 1) := by decide +kernel
theorem dX6_notMayStand_34 : decode cX6_notMayStand 34 = .ok (.ireturn, 1) := by decide +kernel
theorem dX6_readJoin_0 : decode cX6_readJoin 0 = .ok (.iload_n 1, 1) := by decide +kernel
theorem dX6_readJoin_1 : decode cX6_readJoin 1 = .ok (.invokestatic 147, 3) := by decide +kernel
theorem dX6_readJoin_4 : decode cX6_readJoin 4 = .ok (.ifCond .ne 9, 3) := by decide +kernel
theorem dX6_readJoin_7 : decode cX6_readJoin 7 = .ok (.aload_n 0, 1) := by decide +kernel
theorem dX6_readJoin_8 : decode cX6_readJoin 8 = .ok (.iconst 1, 1) := by decide +kernel
theorem dX6_readJoin_9 : decode cX6_readJoin 9 = .ok (.invokevirtual 61, 3) := by decide +kernel
theorem dX6_readJoin_12 : decode cX6_readJoin 12 = .ok (.ireturn, 1) := by decide +kernel
theorem dX6_readJoin_13 : decode cX6_readJoin 13 = .ok (.iload_n 1, 1) := by decide +kernel
theorem dX6_readJoin_14 : decode cX6_readJoin 14 = .ok (.invokestatic 143, 3) := by decide +kernel
theorem dX6_readJoin_17 : decode cX6_readJoin 17 = .ok (.istore_n 2, 1) := by decide +kernel
theorem dX6_readJoin_18 : decode cX6_readJoin 18 = .ok (.aload_n 0, 1) := by decide +kernel
theorem dX6_readJoin_19 : decode cX6_readJoin 19 = .ok (.iload_n 2, 1) := by decide +kernel
theorem dX6_readJoin_20 : decode cX6_readJoin 20 = .ok (.invokevirtual 112, 3) := by decide +kernel
theorem dX6_readJoin_23 : decode cX6_readJoin 23 = .ok (.aload_n 0, 1) := by decide +kernel
theorem dX6_readJoin_24 : decode cX6_readJoin 24 = .ok (.getfield 96, 3) := by decide +kernel
theorem dX6_readJoin_27 : decode cX6_readJoin 27 = .ok (.ifCond .le 27, 3) := by decide +kernel
theorem dX6_readJoin_30 : decode cX6_readJoin 30 = .ok (.aload_n 0, 1) := by decide +kernel
theorem dX6_readJoin_31 : decode cX6_readJoin 31 = .ok (.getfield 18, 3) := by decide +kernel
theorem dX6_readJoin_34 : decode cX6_readJoin 34 = .ok (.aload_n 0, 1) := by decide +kernel
theorem dX6_readJoin_35 : decode cX6_readJoin 35 = .ok (.getfield 96, 3) := by decide +kernel
theorem dX6_readJoin_38 : decode cX6_readJoin 38 = .ok (.iconst 1, 1) := by decide +kernel
theorem dX6_readJoin_39 : decode cX6_readJoin 39 = .ok (.isub, 1) := by decide +kernel
theorem dX6_readJoin_40 : decode cX6_readJoin 40 = .ok (.iaload, 1) := by decide +kernel
theorem dX6_readJoin_41 : decode cX6_readJoin 41 = .ok (.invokestatic 143, 3) := by decide +kernel
theorem dX6_readJoin_44 : decode cX6_readJoin 44 = .ok (.iload_n 2, 1) := by decide +kernel
theorem dX6_readJoin_45 : decode cX6_readJoin 45 = .ok (.if_icmp .ne 9, 3) := by decide +kernel
theorem dX6_readJoin_48 : decode cX6_readJoin 48 = .ok (.aload_n 0, 1) := by decide +kernel
theorem dX6_readJoin_49 : decode cX6_readJoin 49 = .ok (.iconst 1, 1) := by decide +kernel
theorem dX6_readJoin_50 : decode cX6_readJoin 50 = .ok (.invokevirtual 61, 3) := by decide +kernel
theorem dX6_readJoin_53 : decode cX6_readJoin 53 = .ok (.ireturn, 1) := by decide +kernel
theorem dX6_readJoin_54 : decode cX6_readJoin 54 = .ok (.aload_n 0, 1) := by decide +kernel
theorem dX6_readJoin_55 : decode cX6_readJoin 55 = .ok (.invokevirtual 125, 3) := by decide +kernel
theorem dX6_readJoin_58 : decode cX6_readJoin 58 = .ok (.ifCond .eq 15, 3) := by decide +kernel
theorem dX6_readJoin_61 : decode cX6_readJoin 61 = .ok (.aload_n 0, 1) := by decide +kernel
theorem dX6_readJoin_62 : decode cX6_readJoin 62 = .ok (.iload_n 1, 1) := by decide +kernel
theorem dX6_readJoin_63 : decode cX6_readJoin 63 = .ok (.invokevirtual 137, 3) := by decide +kernel
theorem dX6_readJoin_66 : decode cX6_readJoin 66 = .ok (.ifCond .eq 7, 3) := by decide +kernel
theorem dX6_readJoin_69 : decode cX6_readJoin 69 = .ok (.iconst 1, 1) := by decide +kernel
theorem dX6_readJoin_70 : decode cX6_readJoin 70 = .ok (.goto 4, 3) := by decide +kernel
theorem dX6_readJoin_73 : decode cX6_readJoin 73 = .ok (.iconst 0, 1) := by decide +kernel
theorem dX6_readJoin_74 : decode cX6_readJoin 74 = .ok (.ireturn, 1) := by decide +kernel
theorem dX6_countKnot_0 : decode cX6_countKnot 0 = .ok (.aload_n 0, 1) := by decide +kernel
theorem dX6_countKnot_1 : decode cX6_countKnot 1 = .ok (.getfield 12, 3) := by decide +kernel
theorem dX6_countKnot_4 : decode cX6_countKnot 4 = .ok (.getfield 150, 3) := by decide +kernel
theorem dX6_countKnot_7 : decode cX6_countKnot 7 = .ok (.bipush 64, 2) := by decide +kernel
theorem dX6_countKnot_9 : decode cX6_countKnot 9 = .ok (.if_icmp .lt 9, 3) := by decide +kernel
theorem dX6_countKnot_12 : decode cX6_countKnot 12 = .ok (.aload_n 0, 1) := by decide +kernel
theorem dX6_countKnot_13 : decode cX6_countKnot 13 = .ok (.iconst 2, 1) := by decide +kernel
theorem dX6_countKnot_14 : decode cX6_countKnot 14 = .ok (.invokevirtual 61, 3) := by decide +kernel
theorem dX6_countKnot_17 : decode cX6_countKnot 17 = .ok (.ireturn, 1) := by decide +kernel
theorem dX6_countKnot_18 : decode cX6_countKnot 18 = .ok (.aload_n 0, 1) := by decide +kernel
theorem dX6_countKnot_19 : decode cX6_countKnot 19 = .ok (.getfield 12, 3) := by decide +kernel
theorem dX6_countKnot_22 : decode cX6_countKnot 22 = .ok (.dup, 1) := by decide +kernel
theorem dX6_countKnot_23 : decode cX6_countKnot 23 = .ok (.getfield 150, 3) := by decide +kernel
theorem dX6_countKnot_26 : decode cX6_countKnot 26 = .ok (.iconst 1, 1) := by decide +kernel
theorem dX6_countKnot_27 : decode cX6_countKnot 27 = .ok (.iadd, 1) := by decide +kernel
theorem dX6_countKnot_28 : decode cX6_countKnot 28 = .ok (.putfield 150, 3) := by decide +kernel
theorem dX6_countKnot_31 : decode cX6_countKnot 31 = .ok (.iconst 1, 1) := by decide +kernel
theorem dX6_countKnot_32 : decode cX6_countKnot 32 = .ok (.ireturn, 1) := by decide +kernel
theorem dX6_putWaiting_0 : decode cX6_putWaiting 0 = .ok (.aload_n 0, 1) := by decide +kernel
theorem dX6_putWaiting_1 : decode cX6_putWaiting 1 = .ok (.getfield 96, 3) := by decide +kernel
theorem dX6_putWaiting_4 : decode cX6_putWaiting 4 = .ok (.aload_n 0, 1) := by decide +kernel
theorem dX6_putWaiting_5 : decode cX6_putWaiting 5 = .ok (.getfield 18, 3) := by decide +kernel
theorem dX6_putWaiting_8 : decode cX6_putWaiting 8 = .ok (.arraylength, 1) := by decide +kernel
theorem dX6_putWaiting_9 : decode cX6_putWaiting 9 = .ok (.if_icmp .lt 9, 3) := by decide +kernel
theorem dX6_putWaiting_12 : decode cX6_putWaiting 12 = .ok (.aload_n 0, 1) := by decide +kernel
theorem dX6_putWaiting_13 : decode cX6_putWaiting 13 = .ok (.iconst 2, 1) := by decide +kernel
theorem dX6_putWaiting_14 : decode cX6_putWaiting 14 = .ok (.invokevirtual 61, 3) := by decide +kernel
theorem dX6_putWaiting_17 : decode cX6_putWaiting 17 = .ok (.ireturn, 1) := by decide +kernel
theorem dX6_putWaiting_18 : decode cX6_putWaiting 18 = .ok (.aload_n 0, 1) := by decide +kernel
theorem dX6_putWaiting_19 : decode cX6_putWaiting 19 = .ok (.getfield 18, 3) := by decide +kernel
theorem dX6_putWaiting_22 : decode cX6_putWaiting 22 = .ok (.aload_n 0, 1) := by decide +kernel
theorem dX6_putWaiting_23 : decode cX6_putWaiting 23 = .ok (.getfield 96, 3) := by decide +kernel
theorem dX6_putWaiting_26 : decode cX6_putWaiting 26 = .ok (.iload_n 1, 1) := by decide +kernel
theorem dX6_putWaiting_27 : decode cX6_putWaiting 27 = .ok (.iastore, 1) := by decide +kernel
theorem dX6_putWaiting_28 : decode cX6_putWaiting 28 = .ok (.aload_n 0, 1) := by decide +kernel
theorem dX6_putWaiting_29 : decode cX6_putWaiting 29 = .ok (.dup, 1) := by decide +kernel
theorem dX6_putWaiting_30 : decode cX6_putWaiting 30 = .ok (.getfield 96, 3) := by decide +kernel
theorem dX6_putWaiting_33 : decode cX6_putWaiting 33 = .ok (.iconst 1, 1) := by decide +kernel
theorem dX6_putWaiting_34 : decode cX6_putWaiting 34 = .ok (.iadd, 1) := by decide +kernel
theorem dX6_putWaiting_35 : decode cX6_putWaiting 35 = .ok (.putfield 96, 3) := by decide +kernel
theorem dX6_putWaiting_38 : decode cX6_putWaiting 38 = .ok (.iconst 1, 1) := by decide +kernel
theorem dX6_putWaiting_39 : decode cX6_putWaiting 39 = .ok (.ireturn, 1) := by decide +kernel
theorem dX6_write_0 : decode cX6_write 0 = .ok (.aload_n 0, 1) := by decide +kernel
theorem dX6_write_1 : decode cX6_write 1 = .ok (.getfield 42, 3) := by decide +kernel
theorem dX6_write_4 : decode cX6_write 4 = .ok (.bipush 64, 2) := by decide +kernel
theorem dX6_write_6 : decode cX6_write 6 = .ok (.if_icmp .lt 9, 3) := by decide +kernel
theorem dX6_write_9 : decode cX6_write 9 = .ok (.aload_n 0, 1) := by decide +kernel
theorem dX6_write_10 : decode cX6_write 10 = .ok (.iconst 2, 1) := by decide +kernel
theorem dX6_write_11 : decode cX6_write 11 = .ok (.invokevirtual 61, 3) := by decide +kernel
theorem dX6_write_14 : decode cX6_write 14 = .ok (.ireturn, 1) := by decide +kernel
theorem dX6_write_15 : decode cX6_write 15 = .ok (.aload_n 0, 1) := by decide +kernel
theorem dX6_write_16 : decode cX6_write 16 = .ok (.getfield 12, 3) := by decide +kernel
theorem dX6_write_19 : decode cX6_write 19 = .ok (.getfield 153, 3) := by decide +kernel
theorem dX6_write_22 : decode cX6_write 22 = .ok (.aload_n 0, 1) := by decide +kernel
theorem dX6_write_23 : decode cX6_write 23 = .ok (.getfield 42, 3) := by decide +kernel
theorem dX6_write_26 : decode cX6_write 26 = .ok (.iload_n 1, 1) := by decide +kernel
theorem dX6_write_27 : decode cX6_write 27 = .ok (.iastore, 1) := by decide +kernel
theorem dX6_write_28 : decode cX6_write 28 = .ok (.aload_n 0, 1) := by decide +kernel
theorem dX6_write_29 : decode cX6_write 29 = .ok (.getfield 12, 3) := by decide +kernel
theorem dX6_write_32 : decode cX6_write 32 = .ok (.getfield 156, 3) := by decide +kernel
theorem dX6_write_35 : decode cX6_write 35 = .ok (.aload_n 0, 1) := by decide +kernel
theorem dX6_write_36 : decode cX6_write 36 = .ok (.getfield 42, 3) := by decide +kernel
theorem dX6_write_39 : decode cX6_write 39 = .ok (.iload_n 2, 1) := by decide +kernel
theorem dX6_write_40 : decode cX6_write 40 = .ok (.iastore, 1) := by decide +kernel
theorem dX6_write_41 : decode cX6_write 41 = .ok (.aload_n 0, 1) := by decide +kernel
theorem dX6_write_42 : decode cX6_write 42 = .ok (.dup, 1) := by decide +kernel
theorem dX6_write_43 : decode cX6_write 43 = .ok (.getfield 42, 3) := by decide +kernel
theorem dX6_write_46 : decode cX6_write 46 = .ok (.iconst 1, 1) := by decide +kernel
theorem dX6_write_47 : decode cX6_write 47 = .ok (.iadd, 1) := by decide +kernel
theorem dX6_write_48 : decode cX6_write 48 = .ok (.putfield 42, 3) := by decide +kernel
theorem dX6_write_51 : decode cX6_write 51 = .ok (.iconst 1, 1) := by decide +kernel
theorem dX6_write_52 : decode cX6_write 52 = .ok (.ireturn, 1) := by decide +kernel
theorem dX6_writeWaiting_0 : decode cX6_writeWaiting 0 = .ok (.aload_n 0, 1) := by decide +kernel
theorem dX6_writeWaiting_1 : decode cX6_writeWaiting 1 = .ok (.getfield 96, 3) := by decide +kernel
theorem dX6_writeWaiting_4 : decode cX6_writeWaiting 4 = .ok (.ifCond .le 73, 3) := by decide +kernel
theorem dX6_writeWaiting_7 : decode cX6_writeWaiting 7 = .ok (.aload_n 0, 1) := by decide +kernel
theorem dX6_writeWaiting_8 : decode cX6_writeWaiting 8 = .ok (.getfield 18, 3) := by decide +kernel
theorem dX6_writeWaiting_11 : decode cX6_writeWaiting 11 = .ok (.aload_n 0, 1) := by decide +kernel
theorem dX6_writeWaiting_12 : decode cX6_writeWaiting 12 = .ok (.getfield 96, 3) := by decide +kernel
theorem dX6_writeWaiting_15 : decode cX6_writeWaiting 15 = .ok (.iconst 1, 1) := by decide +kernel
theorem dX6_writeWaiting_16 : decode cX6_writeWaiting 16 = .ok (.isub, 1) := by decide +kernel
theorem dX6_writeWaiting_17 : decode cX6_writeWaiting 17 = .ok (.iaload, 1) := by decide +kernel
theorem dX6_writeWaiting_18 : decode cX6_writeWaiting 18 = .ok (.istore_n 2, 1) := by decide +kernel
theorem dX6_writeWaiting_19 : decode cX6_writeWaiting 19 = .ok (.iload_n 2, 1) := by decide +kernel
theorem dX6_writeWaiting_20 : decode cX6_writeWaiting 20 = .ok (.bipush 7, 2) := by decide +kernel
theorem dX6_writeWaiting_22 : decode cX6_writeWaiting 22 = .ok (.if_icmp .eq 24, 3) := by decide +kernel
theorem dX6_writeWaiting_25 : decode cX6_writeWaiting 25 = .ok (.iload_n 2, 1) := by decide +kernel
theorem dX6_writeWaiting_26 : decode cX6_writeWaiting 26 = .ok (.invokestatic 143, 3) := by decide +kernel
theorem dX6_writeWaiting_29 : decode cX6_writeWaiting 29 = .ok (.iload_n 1, 1) := by decide +kernel
theorem dX6_writeWaiting_30 : decode cX6_writeWaiting 30 = .ok (.if_icmp .lt 16, 3) := by decide +kernel
theorem dX6_writeWaiting_33 : decode cX6_writeWaiting 33 = .ok (.iload_n 1, 1) := by decide +kernel
theorem dX6_writeWaiting_34 : decode cX6_writeWaiting 34 = .ok (.iconst 4, 1) := by decide +kernel
theorem dX6_writeWaiting_35 : decode cX6_writeWaiting 35 = .ok (.if_icmp .ne 15, 3) := by decide +kernel
theorem dX6_writeWaiting_38 : decode cX6_writeWaiting 38 = .ok (.iload_n 2, 1) := by decide +kernel
theorem dX6_writeWaiting_39 : decode cX6_writeWaiting 39 = .ok (.invokestatic 143, 3) := by decide +kernel
theorem dX6_writeWaiting_42 : decode cX6_writeWaiting 42 = .ok (.iload_n 1, 1) := by decide +kernel
theorem dX6_writeWaiting_43 : decode cX6_writeWaiting 43 = .ok (.if_icmp .ne 7, 3) := by decide +kernel
theorem dX6_writeWaiting_46 : decode cX6_writeWaiting 46 = .ok (.iconst 1, 1) := by decide +kernel
theorem dX6_writeWaiting_47 : decode cX6_writeWaiting 47 = .ok (.goto 4, 3) := by decide +kernel
theorem dX6_writeWaiting_50 : decode cX6_writeWaiting 50 = .ok (.iconst 0, 1) := by decide +kernel
theorem dX6_writeWaiting_51 : decode cX6_writeWaiting 51 = .ok (.istore_n 3, 1) := by decide +kernel
theorem dX6_writeWaiting_52 : decode cX6_writeWaiting 52 = .ok (.iload_n 3, 1) := by decide +kernel
theorem dX6_writeWaiting_53 : decode cX6_writeWaiting 53 = .ok (.ifCond .eq 4, 3) := by decide +kernel
theorem dX6_writeWaiting_56 : decode cX6_writeWaiting 56 = .ok (.return_, 1) := by decide +kernel
theorem dX6_writeWaiting_57 : decode cX6_writeWaiting 57 = .ok (.aload_n 0, 1) := by decide +kernel
theorem dX6_writeWaiting_58 : decode cX6_writeWaiting 58 = .ok (.dup, 1) := by decide +kernel
theorem dX6_writeWaiting_59 : decode cX6_writeWaiting 59 = .ok (.getfield 96, 3) := by decide +kernel
theorem dX6_writeWaiting_62 : decode cX6_writeWaiting 62 = .ok (.iconst 1, 1) := by decide +kernel
theorem dX6_writeWaiting_63 : decode cX6_writeWaiting 63 = .ok (.isub, 1) := by decide +kernel
theorem dX6_writeWaiting_64 : decode cX6_writeWaiting 64 = .ok (.putfield 96, 3) := by decide +kernel
theorem dX6_writeWaiting_67 : decode cX6_writeWaiting 67 = .ok (.aload_n 0, 1) := by decide +kernel
theorem dX6_writeWaiting_68 : decode cX6_writeWaiting 68 = .ok (.iload_n 2, 1) := by decide +kernel
theorem dX6_writeWaiting_69 : decode cX6_writeWaiting 69 = .ok (.iconst 0, 1) := by decide +kernel
theorem dX6_writeWaiting_70 : decode cX6_writeWaiting 70 = .ok (.invokevirtual 128, 3) := by decide +kernel
theorem dX6_writeWaiting_73 : decode cX6_writeWaiting 73 = .ok (.pop, 1) := by decide +kernel
theorem dX6_writeWaiting_74 : decode cX6_writeWaiting 74 = .ok (.goto (-74), 3) := by decide +kernel
theorem dX6_writeWaiting_77 : decode cX6_writeWaiting 77 = .ok (.return_, 1) := by decide +kernel
theorem dX9_init_0 : decode cX9_init 0 = .ok (.aload_n 0, 1) := by decide +kernel
theorem dX9_init_1 : decode cX9_init 1 = .ok (.invokespecial 3, 3) := by decide +kernel
theorem dX9_init_4 : decode cX9_init 4 = .ok (.aload_n 0, 1) := by decide +kernel
theorem dX9_init_5 : decode cX9_init 5 = .ok (.aload_n 1, 1) := by decide +kernel
theorem dX9_init_6 : decode cX9_init 6 = .ok (.putfield 9, 3) := by decide +kernel
theorem dX9_init_9 : decode cX9_init 9 = .ok (.return_, 1) := by decide +kernel
theorem dX9_start_0 : decode cX9_start 0 = .ok (.aload_n 0, 1) := by decide +kernel
theorem dX9_start_1 : decode cX9_start 1 = .ok (.iload_n 1, 1) := by decide +kernel
theorem dX9_start_2 : decode cX9_start 2 = .ok (.aload_n 0, 1) := by decide +kernel
theorem dX9_start_3 : decode cX9_start 3 = .ok (.getfield 9, 3) := by decide +kernel
theorem dX9_start_6 : decode cX9_start 6 = .ok (.arraylength, 1) := by decide +kernel
theorem dX9_start_7 : decode cX9_start 7 = .ok (.invokestatic 15, 3) := by decide +kernel
theorem dX9_start_10 : decode cX9_start 10 = .ok (.putfield 21, 3) := by decide +kernel
theorem dX9_start_13 : decode cX9_start 13 = .ok (.aload_n 0, 1) := by decide +kernel
theorem dX9_start_14 : decode cX9_start 14 = .ok (.iconst 0, 1) := by decide +kernel
theorem dX9_start_15 : decode cX9_start 15 = .ok (.putfield 25, 3) := by decide +kernel
theorem dX9_start_18 : decode cX9_start 18 = .ok (.return_, 1) := by decide +kernel
theorem dX9_advance_0 : decode cX9_advance 0 = .ok (.aload_n 0, 1) := by decide +kernel
theorem dX9_advance_1 : decode cX9_advance 1 = .ok (.getfield 25, 3) := by decide +kernel
theorem dX9_advance_4 : decode cX9_advance 4 = .ok (.aload_n 0, 1) := by decide +kernel
theorem dX9_advance_5 : decode cX9_advance 5 = .ok (.getfield 21, 3) := by decide +kernel
theorem dX9_advance_8 : decode cX9_advance 8 = .ok (.if_icmp .ge 44, 3) := by decide +kernel
theorem dX9_advance_11 : decode cX9_advance 11 = .ok (.aload_n 0, 1) := by decide +kernel
theorem dX9_advance_12 : decode cX9_advance 12 = .ok (.getfield 9, 3) := by decide +kernel
theorem dX9_advance_15 : decode cX9_advance 15 = .ok (.aload_n 0, 1) := by decide +kernel
theorem dX9_advance_16 : decode cX9_advance 16 = .ok (.getfield 25, 3) := by decide +kernel
theorem dX9_advance_19 : decode cX9_advance 19 = .ok (.baload, 1) := by decide +kernel
theorem dX9_advance_20 : decode cX9_advance 20 = .ok (.bipush 32, 2) := by decide +kernel
theorem dX9_advance_22 : decode cX9_advance 22 = .ok (.if_icmp .eq 17, 3) := by decide +kernel
theorem dX9_advance_25 : decode cX9_advance 25 = .ok (.aload_n 0, 1) := by decide +kernel
theorem dX9_advance_26 : decode cX9_advance 26 = .ok (.getfield 9, 3) := by decide +kernel
theorem dX9_advance_29 : decode cX9_advance 29 = .ok (.aload_n 0, 1) := by decide +kernel
theorem dX9_advance_30 : decode cX9_advance 30 = .ok (.getfield 25, 3) := by decide +kernel
theorem dX9_advance_33 : decode cX9_advance 33 = .ok (.baload, 1) := by decide +kernel
theorem dX9_advance_34 : decode cX9_advance 34 = .ok (.bipush 10, 2) := by decide +kernel
theorem dX9_advance_36 : decode cX9_advance 36 = .ok (.if_icmp .ne 16, 3) := by decide +kernel
theorem dX9_advance_39 : decode cX9_advance 39 = .ok (.aload_n 0, 1) := by decide +kernel
theorem dX9_advance_40 : decode cX9_advance 40 = .ok (.dup, 1) := by decide +kernel
theorem dX9_advance_41 : decode cX9_advance 41 = .ok (.getfield 25, 3) := by decide +kernel
theorem dX9_advance_44 : decode cX9_advance 44 = .ok (.iconst 1, 1) := by decide +kernel
theorem dX9_advance_45 : decode cX9_advance 45 = .ok (.iadd, 1) := by decide +kernel
theorem dX9_advance_46 : decode cX9_advance 46 = .ok (.putfield 25, 3) := by decide +kernel
theorem dX9_advance_49 : decode cX9_advance 49 = .ok (.goto (-49), 3) := by decide +kernel
theorem dX9_advance_52 : decode cX9_advance 52 = .ok (.aload_n 0, 1) := by decide +kernel
theorem dX9_advance_53 : decode cX9_advance 53 = .ok (.aload_n 0, 1) := by decide +kernel
theorem dX9_advance_54 : decode cX9_advance 54 = .ok (.getfield 25, 3) := by decide +kernel
theorem dX9_advance_57 : decode cX9_advance 57 = .ok (.putfield 28, 3) := by decide +kernel
theorem dX9_advance_60 : decode cX9_advance 60 = .ok (.aload_n 0, 1) := by decide +kernel
theorem dX9_advance_61 : decode cX9_advance 61 = .ok (.iconst 0, 1) := by decide +kernel
theorem dX9_advance_62 : decode cX9_advance 62 = .ok (.putfield 31, 3) := by decide +kernel
theorem dX9_advance_65 : decode cX9_advance 65 = .ok (.aload_n 0, 1) := by decide +kernel
theorem dX9_advance_66 : decode cX9_advance 66 = .ok (.getfield 25, 3) := by decide +kernel
theorem dX9_advance_69 : decode cX9_advance 69 = .ok (.aload_n 0, 1) := by decide +kernel
theorem dX9_advance_70 : decode cX9_advance 70 = .ok (.getfield 21, 3) := by decide +kernel
theorem dX9_advance_73 : decode cX9_advance 73 = .ok (.if_icmp .lt 11, 3) := by decide +kernel
theorem dX9_advance_76 : decode cX9_advance 76 = .ok (.aload_n 0, 1) := by decide +kernel
theorem dX9_advance_77 : decode cX9_advance 77 = .ok (.iconst 0, 1) := by decide +kernel
theorem dX9_advance_78 : decode cX9_advance 78 = .ok (.putfield 36, 3) := by decide +kernel
theorem dX9_advance_81 : decode cX9_advance 81 = .ok (.goto 43, 3) := by decide +kernel
theorem dX9_advance_84 : decode cX9_advance 84 = .ok (.aload_n 0, 1) := by decide +kernel
theorem dX9_advance_85 : decode cX9_advance 85 = .ok (.aload_n 0, 1) := by decide +kernel
theorem dX9_advance_86 : decode cX9_advance 86 = .ok (.getfield 25, 3) := by decide +kernel
theorem dX9_advance_89 : decode cX9_advance 89 = .ok (.invokevirtual 39, 3) := by decide +kernel
theorem dX9_advance_92 : decode cX9_advance 92 = .ok (.ifCond .eq 10, 3) := by decide +kernel
theorem dX9_advance_95 : decode cX9_advance 95 = .ok (.aload_n 0, 1) := by decide +kernel
theorem dX9_advance_96 : decode cX9_advance 96 = .ok (.invokevirtual 43, 3) := by decide +kernel
theorem dX9_advance_99 : decode cX9_advance 99 = .ok (.goto 25, 3) := by decide +kernel
theorem dX9_advance_102 : decode cX9_advance 102 = .ok (.aload_n 0, 1) := by decide +kernel
theorem dX9_advance_103 : decode cX9_advance 103 = .ok (.aload_n 0, 1) := by decide +kernel
theorem dX9_advance_104 : decode cX9_advance 104 = .ok (.getfield 25, 3) := by decide +kernel
theorem dX9_advance_107 : decode cX9_advance 107 = .ok (.invokevirtual 46, 3) := by decide +kernel
theorem dX9_advance_110 : decode cX9_advance 110 = .ok (.ifCond .eq 10, 3) := by decide +kernel
theorem dX9_advance_113 : decode cX9_advance 113 = .ok (.aload_n 0, 1) := by decide +kernel
theorem dX9_advance_114 : decode cX9_advance 114 = .ok (.invokevirtual 49, 3) := by decide +kernel
theorem dX9_advance_117 : decode cX9_advance 117 = .ok (.goto 7, 3) := by decide +kernel
theorem dX9_advance_120 : decode cX9_advance 120 = .ok (.aload_n 0, 1) := by decide +kernel
theorem dX9_advance_121 : decode cX9_advance 121 = .ok (.invokevirtual 52, 3) := by decide +kernel
theorem dX9_advance_124 : decode cX9_advance 124 = .ok (.return_, 1) := by decide +kernel
theorem dX9_isLetter_0 : decode cX9_isLetter 0 = .ok (.aload_n 0, 1) := by decide +kernel
theorem dX9_isLetter_1 : decode cX9_isLetter 1 = .ok (.getfield 9, 3) := by decide +kernel
theorem dX9_isLetter_4 : decode cX9_isLetter 4 = .ok (.iload_n 1, 1) := by decide +kernel
theorem dX9_isLetter_5 : decode cX9_isLetter 5 = .ok (.baload, 1) := by decide +kernel
theorem dX9_isLetter_6 : decode cX9_isLetter 6 = .ok (.bipush 97, 2) := by decide +kernel
theorem dX9_isLetter_8 : decode cX9_isLetter 8 = .ok (.if_icmp .lt 18, 3) := by decide +kernel
theorem dX9_isLetter_11 : decode cX9_isLetter 11 = .ok (.aload_n 0, 1) := by decide +kernel
theorem dX9_isLetter_12 : decode cX9_isLetter 12 = .ok (.getfield 9, 3) := by decide +kernel
theorem dX9_isLetter_15 : decode cX9_isLetter 15 = .ok (.iload_n 1, 1) := by decide +kernel
theorem dX9_isLetter_16 : decode cX9_isLetter 16 = .ok (.baload, 1) := by decide +kernel
theorem dX9_isLetter_17 : decode cX9_isLetter 17 = .ok (.bipush 122, 2) := by decide +kernel
theorem dX9_isLetter_19 : decode cX9_isLetter 19 = .ok (.if_icmp .gt 7, 3) := by decide +kernel
theorem dX9_isLetter_22 : decode cX9_isLetter 22 = .ok (.iconst 1, 1) := by decide +kernel
theorem dX9_isLetter_23 : decode cX9_isLetter 23 = .ok (.goto 4, 3) := by decide +kernel
theorem dX9_isLetter_26 : decode cX9_isLetter 26 = .ok (.iconst 0, 1) := by decide +kernel
theorem dX9_isLetter_27 : decode cX9_isLetter 27 = .ok (.ireturn, 1) := by decide +kernel
theorem dX9_isDigit_0 : decode cX9_isDigit 0 = .ok (.aload_n 0, 1) := by decide +kernel
theorem dX9_isDigit_1 : decode cX9_isDigit 1 = .ok (.getfield 9, 3) := by decide +kernel
theorem dX9_isDigit_4 : decode cX9_isDigit 4 = .ok (.iload_n 1, 1) := by decide +kernel
theorem dX9_isDigit_5 : decode cX9_isDigit 5 = .ok (.baload, 1) := by decide +kernel
theorem dX9_isDigit_6 : decode cX9_isDigit 6 = .ok (.bipush 48, 2) := by decide +kernel
theorem dX9_isDigit_8 : decode cX9_isDigit 8 = .ok (.if_icmp .lt 18, 3) := by decide +kernel
theorem dX9_isDigit_11 : decode cX9_isDigit 11 = .ok (.aload_n 0, 1) := by decide +kernel
theorem dX9_isDigit_12 : decode cX9_isDigit 12 = .ok (.getfield 9, 3) := by decide +kernel
theorem dX9_isDigit_15 : decode cX9_isDigit 15 = .ok (.iload_n 1, 1) := by decide +kernel
theorem dX9_isDigit_16 : decode cX9_isDigit 16 = .ok (.baload, 1) := by decide +kernel
theorem dX9_isDigit_17 : decode cX9_isDigit 17 = .ok (.bipush 57, 2) := by decide +kernel
theorem dX9_isDigit_19 : decode cX9_isDigit 19 = .ok (.if_icmp .gt 7, 3) := by decide +kernel
theorem dX9_isDigit_22 : decode cX9_isDigit 22 = .ok (.iconst 1, 1) := by decide +kernel
theorem dX9_isDigit_23 : decode cX9_isDigit 23 = .ok (.goto 4, 3) := by decide +kernel
theorem dX9_isDigit_26 : decode cX9_isDigit 26 = .ok (.iconst 0, 1) := by decide +kernel
theorem dX9_isDigit_27 : decode cX9_isDigit 27 = .ok (.ireturn, 1) := by decide +kernel
theorem dX9_readWord_0 : decode cX9_readWord 0 = .ok (.aload_n 0, 1) := by decide +kernel
theorem dX9_readWord_1 : decode cX9_readWord 1 = .ok (.iconst 2, 1) := by decide +kernel
theorem dX9_readWord_2 : decode cX9_readWord 2 = .ok (.putfield 36, 3) := by decide +kernel
theorem dX9_readWord_5 : decode cX9_readWord 5 = .ok (.aload_n 0, 1) := by decide +kernel
theorem dX9_readWord_6 : decode cX9_readWord 6 = .ok (.getfield 25, 3) := by decide +kernel
theorem dX9_readWord_9 : decode cX9_readWord 9 = .ok (.aload_n 0, 1) := by decide +kernel
theorem dX9_readWord_10 : decode cX9_readWord 10 = .ok (.getfield 21, 3) := by decide +kernel
theorem dX9_readWord_13 : decode cX9_readWord 13 = .ok (.if_icmp .ge 27, 3) := by decide +kernel
theorem dX9_readWord_16 : decode cX9_readWord 16 = .ok (.aload_n 0, 1) := by decide +kernel
theorem dX9_readWord_17 : decode cX9_readWord 17 = .ok (.aload_n 0, 1) := by decide +kernel
theorem dX9_readWord_18 : decode cX9_readWord 18 = .ok (.getfield 25, 3) := by decide +kernel
theorem dX9_readWord_21 : decode cX9_readWord 21 = .ok (.invokevirtual 39, 3) := by decide +kernel
theorem dX9_readWord_24 : decode cX9_readWord 24 = .ok (.ifCond .eq 16, 3) := by decide +kernel
theorem dX9_readWord_27 : decode cX9_readWord 27 = .ok (.aload_n 0, 1) := by decide +kernel
theorem dX9_readWord_28 : decode cX9_readWord 28 = .ok (.dup, 1) := by decide +kernel
theorem dX9_readWord_29 : decode cX9_readWord 29 = .ok (.getfield 25, 3) := by decide +kernel
theorem dX9_readWord_32 : decode cX9_readWord 32 = .ok (.iconst 1, 1) := by decide +kernel
theorem dX9_readWord_33 : decode cX9_readWord 33 = .ok (.iadd, 1) := by decide +kernel
theorem dX9_readWord_34 : decode cX9_readWord 34 = .ok (.putfield 25, 3) := by decide +kernel
theorem dX9_readWord_37 : decode cX9_readWord 37 = .ok (.goto (-32), 3) := by decide +kernel
theorem dX9_readWord_40 : decode cX9_readWord 40 = .ok (.return_, 1) := by decide +kernel
theorem dX9_readNumber_0 : decode cX9_readNumber 0 = .ok (.aload_n 0, 1) := by decide +kernel
theorem dX9_readNumber_1 : decode cX9_readNumber 1 = .ok (.iconst 3, 1) := by decide +kernel
theorem dX9_readNumber_2 : decode cX9_readNumber 2 = .ok (.putfield 36, 3) := by decide +kernel
theorem dX9_readNumber_5 : decode cX9_readNumber 5 = .ok (.aload_n 0, 1) := by decide +kernel
theorem dX9_readNumber_6 : decode cX9_readNumber 6 = .ok (.getfield 25, 3) := by decide +kernel
theorem dX9_readNumber_9 : decode cX9_readNumber 9 = .ok (.aload_n 0, 1) := by decide +kernel
theorem dX9_readNumber_10 : decode cX9_readNumber 10 = .ok (.getfield 21, 3) := by decide +kernel
theorem dX9_readNumber_13 : decode cX9_readNumber 13 = .ok (.if_icmp .ge 56, 3) := by decide +kernel
theorem dX9_readNumber_16 : decode cX9_readNumber 16 = .ok (.aload_n 0, 1) := by decide +kernel
theorem dX9_readNumber_17 : decode cX9_readNumber 17 = .ok (.aload_n 0, 1) := by decide +kernel
theorem dX9_readNumber_18 : decode cX9_readNumber 18 = .ok (.getfield 25, 3) := by decide +kernel
theorem dX9_readNumber_21 : decode cX9_readNumber 21 = .ok (.invokevirtual 46, 3) := by decide +kernel
theorem dX9_readNumber_24 : decode cX9_readNumber 24 = .ok (.ifCond .eq 45, 3) := by decide +kernel
theorem dX9_readNumber_27 : decode cX9_readNumber 27 = .ok (.aload_n 0, 1) := by decide +kernel
theorem dX9_readNumber_28 : decode cX9_readNumber 28 = .ok (.aload_n 0, 1) := by decide +kernel
theorem dX9_readNumber_29 : decode cX9_readNumber 29 = .ok (.getfield 31, 3) := by decide +kernel
theorem dX9_readNumber_32 : decode cX9_readNumber 32 = .ok (.bipush 10, 2) := by decide +kernel
theorem dX9_readNumber_34 : decode cX9_readNumber 34 = .ok (.imul, 1) := by decide +kernel
theorem dX9_readNumber_35 : decode cX9_readNumber 35 = .ok (.aload_n 0, 1) := by decide +kernel
theorem dX9_readNumber_36 : decode cX9_readNumber 36 = .ok (.getfield 9, 3) := by decide +kernel
theorem dX9_readNumber_39 : decode cX9_readNumber 39 = .ok (.aload_n 0, 1) := by decide +kernel
theorem dX9_readNumber_40 : decode cX9_readNumber 40 = .ok (.getfield 25, 3) := by decide +kernel
theorem dX9_readNumber_43 : decode cX9_readNumber 43 = .ok (.baload, 1) := by decide +kernel
theorem dX9_readNumber_44 : decode cX9_readNumber 44 = .ok (.iadd, 1) := by decide +kernel
theorem dX9_readNumber_45 : decode cX9_readNumber 45 = .ok (.bipush 48, 2) := by decide +kernel
theorem dX9_readNumber_47 : decode cX9_readNumber 47 = .ok (.isub, 1) := by decide +kernel
theorem dX9_readNumber_48 : decode cX9_readNumber 48 = .ok (.ldc 55, 2) := by decide +kernel
theorem dX9_readNumber_50 : decode cX9_readNumber 50 = .ok (.invokestatic 15, 3) := by decide +kernel
theorem dX9_readNumber_53 : decode cX9_readNumber 53 = .ok (.putfield 31, 3) := by decide +kernel
theorem dX9_readNumber_56 : decode cX9_readNumber 56 = .ok (.aload_n 0, 1) := by decide +kernel
theorem dX9_readNumber_57 : decode cX9_readNumber 57 = .ok (.dup, 1) := by decide +kernel
theorem dX9_readNumber_58 : decode cX9_readNumber 58 = .ok (.getfield 25, 3) := by decide +kernel
theorem dX9_readNumber_61 : decode cX9_readNumber 61 = .ok (.iconst 1, 1) := by decide +kernel
theorem dX9_readNumber_62 : decode cX9_readNumber 62 = .ok (.iadd, 1) := by decide +kernel
theorem dX9_readNumber_63 : decode cX9_readNumber 63 = .ok (.putfield 25, 3) := by decide +kernel
theorem dX9_readNumber_66 : decode cX9_readNumber 66 = .ok (.goto (-61), 3) := by decide +kernel
theorem dX9_readNumber_69 : decode cX9_readNumber 69 = .ok (.return_, 1) := by decide +kernel
theorem dX9_readSign_0 : decode cX9_readSign 0 = .ok (.aload_n 0, 1) := by decide +kernel
theorem dX9_readSign_1 : decode cX9_readSign 1 = .ok (.aload_n 0, 1) := by decide +kernel
theorem dX9_readSign_2 : decode cX9_readSign 2 = .ok (.getfield 9, 3) := by decide +kernel
theorem dX9_readSign_5 : decode cX9_readSign 5 = .ok (.aload_n 0, 1) := by decide +kernel
theorem dX9_readSign_6 : decode cX9_readSign 6 = .ok (.getfield 25, 3) := by decide +kernel
theorem dX9_readSign_9 : decode cX9_readSign 9 = .ok (.baload, 1) := by decide +kernel
theorem dX9_readSign_10 : decode cX9_readSign 10 = .ok (.invokestatic 56, 3) := by decide +kernel
theorem dX9_readSign_13 : decode cX9_readSign 13 = .ok (.putfield 36, 3) := by decide +kernel
theorem dX9_readSign_16 : decode cX9_readSign 16 = .ok (.aload_n 0, 1) := by decide +kernel
theorem dX9_readSign_17 : decode cX9_readSign 17 = .ok (.dup, 1) := by decide +kernel
theorem dX9_readSign_18 : decode cX9_readSign 18 = .ok (.getfield 25, 3) := by decide +kernel
theorem dX9_readSign_21 : decode cX9_readSign 21 = .ok (.iconst 1, 1) := by decide +kernel
theorem dX9_readSign_22 : decode cX9_readSign 22 = .ok (.iadd, 1) := by decide +kernel
theorem dX9_readSign_23 : decode cX9_readSign 23 = .ok (.putfield 25, 3) := by decide +kernel
theorem dX9_readSign_26 : decode cX9_readSign 26 = .ok (.aload_n 0, 1) := by decide +kernel
theorem dX9_readSign_27 : decode cX9_readSign 27 = .ok (.getfield 25, 3) := by decide +kernel
theorem dX9_readSign_30 : decode cX9_readSign 30 = .ok (.aload_n 0, 1) := by decide +kernel
theorem dX9_readSign_31 : decode cX9_readSign 31 = .ok (.getfield 21, 3) := by decide +kernel
theorem dX9_readSign_34 : decode cX9_readSign 34 = .ok (.if_icmp .ge 21, 3) := by decide +kernel
theorem dX9_readSign_37 : decode cX9_readSign 37 = .ok (.aload_n 0, 1) := by decide +kernel
theorem dX9_readSign_38 : decode cX9_readSign 38 = .ok (.getfield 36, 3) := by decide +kernel
theorem dX9_readSign_41 : decode cX9_readSign 41 = .ok (.bipush 11, 2) := by decide +kernel
theorem dX9_readSign_43 : decode cX9_readSign 43 = .ok (.if_icmp .eq 13, 3) := by decide +kernel
theorem dX9_readSign_46 : decode cX9_readSign 46 = .ok (.aload_n 0, 1) := by decide +kernel
theorem dX9_readSign_47 : decode cX9_readSign 47 = .ok (.getfield 36, 3) := by decide +kernel
theorem dX9_readSign_50 : decode cX9_readSign 50 = .ok (.bipush 16, 2) := by decide +kernel
theorem dX9_readSign_52 : decode cX9_readSign 52 = .ok (.if_icmp .eq 4, 3) := by decide +kernel
theorem dX9_readSign_55 : decode cX9_readSign 55 = .ok (.return_, 1) := by decide +kernel
theorem dX9_readSign_56 : decode cX9_readSign 56 = .ok (.aload_n 0, 1) := by decide +kernel
theorem dX9_readSign_57 : decode cX9_readSign 57 = .ok (.getfield 9, 3) := by decide +kernel
theorem dX9_readSign_60 : decode cX9_readSign 60 = .ok (.aload_n 0, 1) := by decide +kernel
theorem dX9_readSign_61 : decode cX9_readSign 61 = .ok (.getfield 25, 3) := by decide +kernel
theorem dX9_readSign_64 : decode cX9_readSign 64 = .ok (.baload, 1) := by decide +kernel
theorem dX9_readSign_65 : decode cX9_readSign 65 = .ok (.bipush 61, 2) := by decide +kernel
theorem dX9_readSign_67 : decode cX9_readSign 67 = .ok (.if_icmp .ne 36, 3) := by decide +kernel
theorem dX9_readSign_70 : decode cX9_readSign 70 = .ok (.aload_n 0, 1) := by decide +kernel
theorem dX9_readSign_71 : decode cX9_readSign 71 = .ok (.aload_n 0, 1) := by decide +kernel
theorem dX9_readSign_72 : decode cX9_readSign 72 = .ok (.getfield 36, 3) := by decide +kernel
theorem dX9_readSign_75 : decode cX9_readSign 75 = .ok (.bipush 11, 2) := by decide +kernel
theorem dX9_readSign_77 : decode cX9_readSign 77 = .ok (.if_icmp .ne 8, 3) := by decide +kernel
theorem dX9_readSign_80 : decode cX9_readSign 80 = .ok (.bipush 12, 2) := by decide +kernel
theorem dX9_readSign_82 : decode cX9_readSign 82 = .ok (.goto 5, 3) := by decide +kernel
theorem dX9_readSign_85 : decode cX9_readSign 85 = .ok (.bipush 15, 2) := by decide +kernel
theorem dX9_readSign_87 : decode cX9_readSign 87 = .ok (.putfield 36, 3) := by decide +kernel
theorem dX9_readSign_90 : decode cX9_readSign 90 = .ok (.aload_n 0, 1) := by decide +kernel
theorem dX9_readSign_91 : decode cX9_readSign 91 = .ok (.dup, 1) := by decide +kernel
theorem dX9_readSign_92 : decode cX9_readSign 92 = .ok (.getfield 25, 3) := by decide +kernel
theorem dX9_readSign_95 : decode cX9_readSign 95 = .ok (.iconst 1, 1) := by decide +kernel
theorem dX9_readSign_96 : decode cX9_readSign 96 = .ok (.iadd, 1) := by decide +kernel
theorem dX9_readSign_97 : decode cX9_readSign 97 = .ok (.putfield 25, 3) := by decide +kernel
theorem dX9_readSign_100 : decode cX9_readSign 100 = .ok (.goto 42, 3) := by decide +kernel
theorem dX9_readSign_103 : decode cX9_readSign 103 = .ok (.aload_n 0, 1) := by decide +kernel
theorem dX9_readSign_104 : decode cX9_readSign 104 = .ok (.getfield 9, 3) := by decide +kernel
theorem dX9_readSign_107 : decode cX9_readSign 107 = .ok (.aload_n 0, 1) := by decide +kernel
theorem dX9_readSign_108 : decode cX9_readSign 108 = .ok (.getfield 25, 3) := by decide +kernel
theorem dX9_readSign_111 : decode cX9_readSign 111 = .ok (.baload, 1) := by decide +kernel
theorem dX9_readSign_112 : decode cX9_readSign 112 = .ok (.bipush 62, 2) := by decide +kernel
theorem dX9_readSign_114 : decode cX9_readSign 114 = .ok (.if_icmp .ne 28, 3) := by decide +kernel
theorem dX9_readSign_117 : decode cX9_readSign 117 = .ok (.aload_n 0, 1) := by decide +kernel
theorem dX9_readSign_118 : decode cX9_readSign 118 = .ok (.getfield 36, 3) := by decide +kernel
theorem dX9_readSign_121 : decode cX9_readSign 121 = .ok (.bipush 11, 2) := by decide +kernel
theorem dX9_readSign_123 : decode cX9_readSign 123 = .ok (.if_icmp .ne 19, 3) := by decide +kernel
theorem dX9_readSign_126 : decode cX9_readSign 126 = .ok (.aload_n 0, 1) := by decide +kernel
theorem dX9_readSign_127 : decode cX9_readSign 127 = .ok (.bipush 14, 2) := by decide +kernel
theorem dX9_readSign_129 : decode cX9_readSign 129 = .ok (.putfield 36, 3) := by decide +kernel
theorem dX9_readSign_132 : decode cX9_readSign 132 = .ok (.aload_n 0, 1) := by decide +kernel
theorem dX9_readSign_133 : decode cX9_readSign 133 = .ok (.dup, 1) := by decide +kernel
theorem dX9_readSign_134 : decode cX9_readSign 134 = .ok (.getfield 25, 3) := by decide +kernel
theorem dX9_readSign_137 : decode cX9_readSign 137 = .ok (.iconst 1, 1) := by decide +kernel
theorem dX9_readSign_138 : decode cX9_readSign 138 = .ok (.iadd, 1) := by decide +kernel
theorem dX9_readSign_139 : decode cX9_readSign 139 = .ok (.putfield 25, 3) := by decide +kernel
theorem dX9_readSign_142 : decode cX9_readSign 142 = .ok (.return_, 1) := by decide +kernel
theorem dX9_lineWord_0 : decode cX9_lineWord 0 = .ok (.aload_n 0, 1) := by decide +kernel
theorem dX9_lineWord_1 : decode cX9_lineWord 1 = .ok (.getfield 36, 3) := by decide +kernel
theorem dX9_lineWord_4 : decode cX9_lineWord 4 = .ok (.iconst 2, 1) := by decide +kernel
theorem dX9_lineWord_5 : decode cX9_lineWord 5 = .ok (.if_icmp .ne 12, 3) := by decide +kernel
theorem dX9_lineWord_8 : decode cX9_lineWord 8 = .ok (.aload_n 0, 1) := by decide +kernel
theorem dX9_lineWord_9 : decode cX9_lineWord 9 = .ok (.ldc 60, 2) := by decide +kernel
theorem dX9_lineWord_11 : decode cX9_lineWord 11 = .ok (.invokevirtual 62, 3) := by decide +kernel
theorem dX9_lineWord_14 : decode cX9_lineWord 14 = .ok (.goto 4, 3) := by decide +kernel
theorem dX9_lineWord_17 : decode cX9_lineWord 17 = .ok (.iconst (-1), 1) := by decide +kernel
theorem dX9_lineWord_18 : decode cX9_lineWord 18 = .ok (.ireturn, 1) := by decide +kernel
theorem dX9_readAsPart_0 : decode cX9_readAsPart 0 = .ok (.aload_n 0, 1) := by decide +kernel
theorem dX9_readAsPart_1 : decode cX9_readAsPart 1 = .ok (.getfield 36, 3) := by decide +kernel
theorem dX9_readAsPart_4 : decode cX9_readAsPart 4 = .ok (.iconst 2, 1) := by decide +kernel
theorem dX9_readAsPart_5 : decode cX9_readAsPart 5 = .ok (.if_icmp .eq 4, 3) := by decide +kernel
theorem dX9_readAsPart_8 : decode cX9_readAsPart 8 = .ok (.return_, 1) := by decide +kernel
theorem dX9_readAsPart_9 : decode cX9_readAsPart 9 = .ok (.aload_n 0, 1) := by decide +kernel
theorem dX9_readAsPart_10 : decode cX9_readAsPart 10 = .ok (.ldc 66, 2) := by decide +kernel
theorem dX9_readAsPart_12 : decode cX9_readAsPart 12 = .ok (.invokevirtual 62, 3) := by decide +kernel
theorem dX9_readAsPart_15 : decode cX9_readAsPart 15 = .ok (.istore_n 1, 1) := by decide +kernel
theorem dX9_readAsPart_16 : decode cX9_readAsPart 16 = .ok (.aload_n 0, 1) := by decide +kernel
theorem dX9_readAsPart_17 : decode cX9_readAsPart 17 = .ok (.ldc 68, 2) := by decide +kernel
theorem dX9_readAsPart_19 : decode cX9_readAsPart 19 = .ok (.invokevirtual 62, 3) := by decide +kernel
theorem dX9_readAsPart_22 : decode cX9_readAsPart 22 = .ok (.istore_n 2, 1) := by decide +kernel
theorem dX9_readAsPart_23 : decode cX9_readAsPart 23 = .ok (.iload_n 1, 1) := by decide +kernel
theorem dX9_readAsPart_24 : decode cX9_readAsPart 24 = .ok (.iconst (-1), 1) := by decide +kernel
theorem dX9_readAsPart_25 : decode cX9_readAsPart 25 = .ok (.if_icmp .eq 14, 3) := by decide +kernel
theorem dX9_readAsPart_28 : decode cX9_readAsPart 28 = .ok (.aload_n 0, 1) := by decide +kernel
theorem dX9_readAsPart_29 : decode cX9_readAsPart 29 = .ok (.bipush 8, 2) := by decide +kernel
theorem dX9_readAsPart_31 : decode cX9_readAsPart 31 = .ok (.iload_n 1, 1) := by decide +kernel
theorem dX9_readAsPart_32 : decode cX9_readAsPart 32 = .ok (.iadd, 1) := by decide +kernel
theorem dX9_readAsPart_33 : decode cX9_readAsPart 33 = .ok (.putfield 36, 3) := by decide +kernel
theorem dX9_readAsPart_36 : decode cX9_readAsPart 36 = .ok (.goto 26, 3) := by decide +kernel
theorem dX9_readAsPart_39 : decode cX9_readAsPart 39 = .ok (.iload_n 2, 1) := by decide +kernel
theorem dX9_readAsPart_40 : decode cX9_readAsPart 40 = .ok (.iconst (-1), 1) := by decide +kernel
theorem dX9_readAsPart_41 : decode cX9_readAsPart 41 = .ok (.if_icmp .eq 16, 3) := by decide +kernel
theorem dX9_readAsPart_44 : decode cX9_readAsPart 44 = .ok (.aload_n 0, 1) := by decide +kernel
theorem dX9_readAsPart_45 : decode cX9_readAsPart 45 = .ok (.iconst 4, 1) := by decide +kernel
theorem dX9_readAsPart_46 : decode cX9_readAsPart 46 = .ok (.putfield 36, 3) := by decide +kernel
theorem dX9_readAsPart_49 : decode cX9_readAsPart 49 = .ok (.aload_n 0, 1) := by decide +kernel
theorem dX9_readAsPart_50 : decode cX9_readAsPart 50 = .ok (.iload_n 2, 1) := by decide +kernel
theorem dX9_readAsPart_51 : decode cX9_readAsPart 51 = .ok (.putfield 31, 3) := by decide +kernel
theorem dX9_readAsPart_54 : decode cX9_readAsPart 54 = .ok (.goto 8, 3) := by decide +kernel
theorem dX9_readAsPart_57 : decode cX9_readAsPart 57 = .ok (.aload_n 0, 1) := by decide +kernel
theorem dX9_readAsPart_58 : decode cX9_readAsPart 58 = .ok (.iconst 1, 1) := by decide +kernel
theorem dX9_readAsPart_59 : decode cX9_readAsPart 59 = .ok (.putfield 36, 3) := by decide +kernel
theorem dX9_readAsPart_62 : decode cX9_readAsPart 62 = .ok (.return_, 1) := by decide +kernel
theorem dX9_wordIn_0 : decode cX9_wordIn 0 = .ok (.iconst 0, 1) := by decide +kernel
theorem dX9_wordIn_1 : decode cX9_wordIn 1 = .ok (.istore_n 2, 1) := by decide +kernel
theorem dX9_wordIn_2 : decode cX9_wordIn 2 = .ok (.iconst 0, 1) := by decide +kernel
theorem dX9_wordIn_3 : decode cX9_wordIn 3 = .ok (.istore_n 3, 1) := by decide +kernel
theorem dX9_wordIn_4 : decode cX9_wordIn 4 = .ok (.iconst 0, 1) := by decide +kernel
theorem dX9_wordIn_5 : decode cX9_wordIn 5 = .ok (.istore 4, 2) := by decide +kernel
theorem dX9_wordIn_7 : decode cX9_wordIn 7 = .ok (.iload 4, 2) := by decide +kernel
theorem dX9_wordIn_9 : decode cX9_wordIn 9 = .ok (.aload_n 1, 1) := by decide +kernel
theorem dX9_wordIn_10 : decode cX9_wordIn 10 = .ok (.invokevirtual 70, 3) := by decide +kernel
theorem dX9_wordIn_13 : decode cX9_wordIn 13 = .ok (.if_icmp .gt 50, 3) := by decide +kernel
theorem dX9_wordIn_16 : decode cX9_wordIn 16 = .ok (.iload 4, 2) := by decide +kernel
theorem dX9_wordIn_18 : decode cX9_wordIn 18 = .ok (.aload_n 1, 1) := by decide +kernel
theorem dX9_wordIn_19 : decode cX9_wordIn 19 = .ok (.invokevirtual 70, 3) := by decide +kernel
theorem dX9_wordIn_22 : decode cX9_wordIn 22 = .ok (.if_icmp .eq 14, 3) := by decide +kernel
theorem dX9_wordIn_25 : decode cX9_wordIn 25 = .ok (.aload_n 1, 1) := by decide +kernel
theorem dX9_wordIn_26 : decode cX9_wordIn 26 = .ok (.iload 4, 2) := by decide +kernel
theorem dX9_wordIn_28 : decode cX9_wordIn 28 = .ok (.invokevirtual 75, 3) := by decide +kernel
theorem dX9_wordIn_31 : decode cX9_wordIn 31 = .ok (.bipush 32, 2) := by decide +kernel
theorem dX9_wordIn_33 : decode cX9_wordIn 33 = .ok (.if_icmp .ne 24, 3) := by decide +kernel
theorem dX9_wordIn_36 : decode cX9_wordIn 36 = .ok (.aload_n 0, 1) := by decide +kernel
theorem dX9_wordIn_37 : decode cX9_wordIn 37 = .ok (.aload_n 1, 1) := by decide +kernel
theorem dX9_wordIn_38 : decode cX9_wordIn 38 = .ok (.iload_n 3, 1) := by decide +kernel
theorem dX9_wordIn_39 : decode cX9_wordIn 39 = .ok (.iload 4, 2) := by decide +kernel
theorem dX9_wordIn_41 : decode cX9_wordIn 41 = .ok (.invokevirtual 79, 3) := by decide +kernel
theorem dX9_wordIn_44 : decode cX9_wordIn 44 = .ok (.ifCond .eq 5, 3) := by decide +kernel
theorem dX9_wordIn_47 : decode cX9_wordIn 47 = .ok (.iload_n 2, 1) := by decide +kernel
theorem dX9_wordIn_48 : decode cX9_wordIn 48 = .ok (.ireturn, 1) := by decide +kernel
theorem dX9_wordIn_49 : decode cX9_wordIn 49 = .ok (.iinc 2 1, 3) := by decide +kernel
theorem dX9_wordIn_52 : decode cX9_wordIn 52 = .ok (.iload 4, 2) := by decide +kernel
theorem dX9_wordIn_54 : decode cX9_wordIn 54 = .ok (.iconst 1, 1) := by decide +kernel
theorem dX9_wordIn_55 : decode cX9_wordIn 55 = .ok (.iadd, 1) := by decide +kernel
theorem dX9_wordIn_56 : decode cX9_wordIn 56 = .ok (.istore_n 3, 1) := by decide +kernel
theorem dX9_wordIn_57 : decode cX9_wordIn 57 = .ok (.iinc 4 1, 3) := by decide +kernel
theorem dX9_wordIn_60 : decode cX9_wordIn 60 = .ok (.goto (-53), 3) := by decide +kernel
theorem dX9_wordIn_63 : decode cX9_wordIn 63 = .ok (.iconst (-1), 1) := by decide +kernel
theorem dX9_wordIn_64 : decode cX9_wordIn 64 = .ok (.ireturn, 1) := by decide +kernel
theorem dX9_isWord_0 : decode cX9_isWord 0 = .ok (.iload_n 3, 1) := by decide +kernel
theorem dX9_isWord_1 : decode cX9_isWord 1 = .ok (.iload_n 2, 1) := by decide +kernel
theorem dX9_isWord_2 : decode cX9_isWord 2 = .ok (.isub, 1) := by decide +kernel
theorem dX9_isWord_3 : decode cX9_isWord 3 = .ok (.aload_n 0, 1) := by decide +kernel
theorem dX9_isWord_4 : decode cX9_isWord 4 = .ok (.getfield 25, 3) := by decide +kernel
theorem dX9_isWord_7 : decode cX9_isWord 7 = .ok (.aload_n 0, 1) := by decide +kernel
theorem dX9_isWord_8 : decode cX9_isWord 8 = .ok (.getfield 28, 3) := by decide +kernel
theorem dX9_isWord_11 : decode cX9_isWord 11 = .ok (.isub, 1) := by decide +kernel
theorem dX9_isWord_12 : decode cX9_isWord 12 = .ok (.if_icmp .eq 5, 3) := by decide +kernel
theorem dX9_isWord_15 : decode cX9_isWord 15 = .ok (.iconst 0, 1) := by decide +kernel
theorem dX9_isWord_16 : decode cX9_isWord 16 = .ok (.ireturn, 1) := by decide +kernel
theorem dX9_isWord_17 : decode cX9_isWord 17 = .ok (.iload_n 2, 1) := by decide +kernel
theorem dX9_isWord_18 : decode cX9_isWord 18 = .ok (.istore 4, 2) := by decide +kernel
theorem dX9_isWord_20 : decode cX9_isWord 20 = .ok (.iload 4, 2) := by decide +kernel
theorem dX9_isWord_22 : decode cX9_isWord 22 = .ok (.iload_n 3, 1) := by decide +kernel
theorem dX9_isWord_23 : decode cX9_isWord 23 = .ok (.if_icmp .ge 34, 3) := by decide +kernel
theorem dX9_isWord_26 : decode cX9_isWord 26 = .ok (.aload_n 1, 1) := by decide +kernel
theorem dX9_isWord_27 : decode cX9_isWord 27 = .ok (.iload 4, 2) := by decide +kernel
theorem dX9_isWord_29 : decode cX9_isWord 29 = .ok (.invokevirtual 75, 3) := by decide +kernel
theorem dX9_isWord_32 : decode cX9_isWord 32 = .ok (.aload_n 0, 1) := by decide +kernel
theorem dX9_isWord_33 : decode cX9_isWord 33 = .ok (.getfield 9, 3) := by decide +kernel
theorem dX9_isWord_36 : decode cX9_isWord 36 = .ok (.aload_n 0, 1) := by decide +kernel
theorem dX9_isWord_37 : decode cX9_isWord 37 = .ok (.getfield 28, 3) := by decide +kernel
theorem dX9_isWord_40 : decode cX9_isWord 40 = .ok (.iload 4, 2) := by decide +kernel
theorem dX9_isWord_42 : decode cX9_isWord 42 = .ok (.iadd, 1) := by decide +kernel
theorem dX9_isWord_43 : decode cX9_isWord 43 = .ok (.iload_n 2, 1) := by decide +kernel
theorem dX9_isWord_44 : decode cX9_isWord 44 = .ok (.isub, 1) := by decide +kernel
theorem dX9_isWord_45 : decode cX9_isWord 45 = .ok (.baload, 1) := by decide +kernel
theorem dX9_isWord_46 : decode cX9_isWord 46 = .ok (.if_icmp .eq 5, 3) := by decide +kernel
theorem dX9_isWord_49 : decode cX9_isWord 49 = .ok (.iconst 0, 1) := by decide +kernel
theorem dX9_isWord_50 : decode cX9_isWord 50 = .ok (.ireturn, 1) := by decide +kernel
theorem dX9_isWord_51 : decode cX9_isWord 51 = .ok (.iinc 4 1, 3) := by decide +kernel
theorem dX9_isWord_54 : decode cX9_isWord 54 = .ok (.goto (-34), 3) := by decide +kernel
theorem dX9_isWord_57 : decode cX9_isWord 57 = .ok (.iconst 1, 1) := by decide +kernel
theorem dX9_isWord_58 : decode cX9_isWord 58 = .ok (.ireturn, 1) := by decide +kernel
