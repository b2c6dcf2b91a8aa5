theorem ic_m1 : Int32.ofInt (-1) = (-1) := by decide
theorem ic_0 : Int32.ofInt 0 = nI 0 := by decide
theorem ic_1 : Int32.ofInt 1 = nI 1 := by decide
theorem ic_2 : Int32.ofInt 2 = nI 2 := by decide
theorem ic_3 : Int32.ofInt 3 = nI 3 := by decide
theorem ic_4 : Int32.ofInt 4 = nI 4 := by decide
theorem ic_5 : Int32.ofInt 5 = nI 5 := by decide
theorem bc_m2 : (Int8.ofInt (-2)).toInt32 = (-2) := by decide
theorem bc_6 : (Int8.ofInt 6).toInt32 = nI 6 := by decide
theorem bc_7 : (Int8.ofInt 7).toInt32 = nI 7 := by decide
theorem bc_8 : (Int8.ofInt 8).toInt32 = nI 8 := by decide
theorem bc_9 : (Int8.ofInt 9).toInt32 = nI 9 := by decide
theorem bc_10 : (Int8.ofInt 10).toInt32 = nI 10 := by decide
theorem bc_11 : (Int8.ofInt 11).toInt32 = nI 11 := by decide
theorem bc_12 : (Int8.ofInt 12).toInt32 = nI 12 := by decide
theorem bc_13 : (Int8.ofInt 13).toInt32 = nI 13 := by decide
theorem bc_14 : (Int8.ofInt 14).toInt32 = nI 14 := by decide
theorem bc_15 : (Int8.ofInt 15).toInt32 = nI 15 := by decide
theorem bc_16 : (Int8.ofInt 16).toInt32 = nI 16 := by decide
theorem bc_17 : (Int8.ofInt 17).toInt32 = nI 17 := by decide
theorem bc_18 : (Int8.ofInt 18).toInt32 = nI 18 := by decide
theorem bc_19 : (Int8.ofInt 19).toInt32 = nI 19 := by decide
theorem bc_20 : (Int8.ofInt 20).toInt32 = nI 20 := by decide
theorem bc_21 : (Int8.ofInt 21).toInt32 = nI 21 := by decide
theorem bc_22 : (Int8.ofInt 22).toInt32 = nI 22 := by decide
theorem bc_23 : (Int8.ofInt 23).toInt32 = nI 23 := by decide
theorem bc_24 : (Int8.ofInt 24).toInt32 = nI 24 := by decide
theorem bc_25 : (Int8.ofInt 25).toInt32 = nI 25 := by decide
theorem bc_26 : (Int8.ofInt 26).toInt32 = nI 26 := by decide
theorem bc_27 : (Int8.ofInt 27).toInt32 = nI 27 := by decide
theorem bc_28 : (Int8.ofInt 28).toInt32 = nI 28 := by decide
theorem bc_29 : (Int8.ofInt 29).toInt32 = nI 29 := by decide
theorem bc_30 : (Int8.ofInt 30).toInt32 = nI 30 := by decide
theorem bc_31 : (Int8.ofInt 31).toInt32 = nI 31 := by decide
theorem bc_32 : (Int8.ofInt 32).toInt32 = nI 32 := by decide
theorem bc_33 : (Int8.ofInt 33).toInt32 = nI 33 := by decide
theorem bc_34 : (Int8.ofInt 34).toInt32 = nI 34 := by decide
theorem bc_35 : (Int8.ofInt 35).toInt32 = nI 35 := by decide
theorem bc_36 : (Int8.ofInt 36).toInt32 = nI 36 := by decide
theorem bc_37 : (Int8.ofInt 37).toInt32 = nI 37 := by decide
theorem bc_38 : (Int8.ofInt 38).toInt32 = nI 38 := by decide
theorem bc_39 : (Int8.ofInt 39).toInt32 = nI 39 := by decide
theorem bc_40 : (Int8.ofInt 40).toInt32 = nI 40 := by decide
theorem bc_41 : (Int8.ofInt 41).toInt32 = nI 41 := by decide
theorem bc_42 : (Int8.ofInt 42).toInt32 = nI 42 := by decide
theorem bc_43 : (Int8.ofInt 43).toInt32 = nI 43 := by decide
theorem bc_44 : (Int8.ofInt 44).toInt32 = nI 44 := by decide
theorem bc_45 : (Int8.ofInt 45).toInt32 = nI 45 := by decide
theorem bc_46 : (Int8.ofInt 46).toInt32 = nI 46 := by decide
theorem bc_47 : (Int8.ofInt 47).toInt32 = nI 47 := by decide
theorem bc_48 : (Int8.ofInt 48).toInt32 = nI 48 := by decide
theorem bc_49 : (Int8.ofInt 49).toInt32 = nI 49 := by decide
theorem bc_50 : (Int8.ofInt 50).toInt32 = nI 50 := by decide
theorem bc_51 : (Int8.ofInt 51).toInt32 = nI 51 := by decide
theorem bc_52 : (Int8.ofInt 52).toInt32 = nI 52 := by decide
theorem bc_53 : (Int8.ofInt 53).toInt32 = nI 53 := by decide
theorem bc_54 : (Int8.ofInt 54).toInt32 = nI 54 := by decide
theorem bc_55 : (Int8.ofInt 55).toInt32 = nI 55 := by decide
theorem bc_56 : (Int8.ofInt 56).toInt32 = nI 56 := by decide
theorem bc_57 : (Int8.ofInt 57).toInt32 = nI 57 := by decide
theorem bc_58 : (Int8.ofInt 58).toInt32 = nI 58 := by decide
theorem bc_59 : (Int8.ofInt 59).toInt32 = nI 59 := by decide
theorem bc_60 : (Int8.ofInt 60).toInt32 = nI 60 := by decide
theorem bc_61 : (Int8.ofInt 61).toInt32 = nI 61 := by decide
theorem bc_62 : (Int8.ofInt 62).toInt32 = nI 62 := by decide
theorem bc_63 : (Int8.ofInt 63).toInt32 = nI 63 := by decide
theorem bc_64 : (Int8.ofInt 64).toInt32 = nI 64 := by decide
theorem bc_65 : (Int8.ofInt 65).toInt32 = nI 65 := by decide
theorem bc_66 : (Int8.ofInt 66).toInt32 = nI 66 := by decide
theorem bc_67 : (Int8.ofInt 67).toInt32 = nI 67 := by decide
theorem bc_68 : (Int8.ofInt 68).toInt32 = nI 68 := by decide
theorem bc_69 : (Int8.ofInt 69).toInt32 = nI 69 := by decide
theorem bc_70 : (Int8.ofInt 70).toInt32 = nI 70 := by decide
theorem bc_71 : (Int8.ofInt 71).toInt32 = nI 71 := by decide
theorem bc_72 : (Int8.ofInt 72).toInt32 = nI 72 := by decide
theorem bc_73 : (Int8.ofInt 73).toInt32 = nI 73 := by decide
theorem bc_74 : (Int8.ofInt 74).toInt32 = nI 74 := by decide
theorem bc_75 : (Int8.ofInt 75).toInt32 = nI 75 := by decide
theorem bc_76 : (Int8.ofInt 76).toInt32 = nI 76 := by decide
theorem bc_77 : (Int8.ofInt 77).toInt32 = nI 77 := by decide
theorem bc_78 : (Int8.ofInt 78).toInt32 = nI 78 := by decide
theorem bc_79 : (Int8.ofInt 79).toInt32 = nI 79 := by decide
theorem bc_80 : (Int8.ofInt 80).toInt32 = nI 80 := by decide
theorem bc_81 : (Int8.ofInt 81).toInt32 = nI 81 := by decide
theorem bc_82 : (Int8.ofInt 82).toInt32 = nI 82 := by decide
theorem bc_83 : (Int8.ofInt 83).toInt32 = nI 83 := by decide
theorem bc_84 : (Int8.ofInt 84).toInt32 = nI 84 := by decide
theorem bc_85 : (Int8.ofInt 85).toInt32 = nI 85 := by decide
theorem bc_86 : (Int8.ofInt 86).toInt32 = nI 86 := by decide
theorem bc_87 : (Int8.ofInt 87).toInt32 = nI 87 := by decide
theorem bc_88 : (Int8.ofInt 88).toInt32 = nI 88 := by decide
theorem bc_89 : (Int8.ofInt 89).toInt32 = nI 89 := by decide
theorem bc_90 : (Int8.ofInt 90).toInt32 = nI 90 := by decide
theorem bc_91 : (Int8.ofInt 91).toInt32 = nI 91 := by decide
theorem bc_92 : (Int8.ofInt 92).toInt32 = nI 92 := by decide
theorem bc_93 : (Int8.ofInt 93).toInt32 = nI 93 := by decide
theorem bc_94 : (Int8.ofInt 94).toInt32 = nI 94 := by decide
theorem bc_95 : (Int8.ofInt 95).toInt32 = nI 95 := by decide
theorem bc_96 : (Int8.ofInt 96).toInt32 = nI 96 := by decide
theorem bc_97 : (Int8.ofInt 97).toInt32 = nI 97 := by decide
theorem bc_98 : (Int8.ofInt 98).toInt32 = nI 98 := by decide
theorem bc_99 : (Int8.ofInt 99).toInt32 = nI 99 := by decide
theorem bc_100 : (Int8.ofInt 100).toInt32 = nI 100 := by decide
theorem bc_101 : (Int8.ofInt 101).toInt32 = nI 101 := by decide
theorem bc_102 : (Int8.ofInt 102).toInt32 = nI 102 := by decide
theorem bc_103 : (Int8.ofInt 103).toInt32 = nI 103 := by decide
theorem bc_104 : (Int8.ofInt 104).toInt32 = nI 104 := by decide
theorem bc_105 : (Int8.ofInt 105).toInt32 = nI 105 := by decide
theorem bc_106 : (Int8.ofInt 106).toInt32 = nI 106 := by decide
theorem bc_107 : (Int8.ofInt 107).toInt32 = nI 107 := by decide
theorem bc_108 : (Int8.ofInt 108).toInt32 = nI 108 := by decide
theorem bc_109 : (Int8.ofInt 109).toInt32 = nI 109 := by decide
theorem bc_110 : (Int8.ofInt 110).toInt32 = nI 110 := by decide
theorem bc_111 : (Int8.ofInt 111).toInt32 = nI 111 := by decide
theorem bc_112 : (Int8.ofInt 112).toInt32 = nI 112 := by decide
theorem bc_113 : (Int8.ofInt 113).toInt32 = nI 113 := by decide
theorem bc_114 : (Int8.ofInt 114).toInt32 = nI 114 := by decide
theorem bc_115 : (Int8.ofInt 115).toInt32 = nI 115 := by decide
theorem bc_116 : (Int8.ofInt 116).toInt32 = nI 116 := by decide
theorem bc_117 : (Int8.ofInt 117).toInt32 = nI 117 := by decide
theorem bc_119 : (Int8.ofInt 119).toInt32 = nI 119 := by decide
theorem bc_122 : (Int8.ofInt 122).toInt32 = nI 122 := by decide
theorem sc_128 : (Int16.ofInt 128).toInt32 = nI 128 := by decide
theorem sc_189 : (Int16.ofInt 189).toInt32 = nI 189 := by decide
theorem sc_240 : (Int16.ofInt 240).toInt32 = nI 240 := by decide
theorem sc_255 : (Int16.ofInt 255).toInt32 = nI 255 := by decide
theorem sc_256 : (Int16.ofInt 256).toInt32 = nI 256 := by decide
theorem sc_500 : (Int16.ofInt 500).toInt32 = nI 500 := by decide
theorem sc_600 : (Int16.ofInt 600).toInt32 = nI 600 := by decide
theorem sc_900 : (Int16.ofInt 900).toInt32 = nI 900 := by decide
theorem sc_999 : (Int16.ofInt 999).toInt32 = nI 999 := by decide
theorem sc_1200 : (Int16.ofInt 1200).toInt32 = nI 1200 := by decide
def zSH : List zm_K := [.inl 9, .inr (.byte, 500), .inr (.int, 4), .inl 2, .inr ((.array .int), 8), .inr (.int, 8), .inr (.int, 8), .inr (.int, 8), .inr (.int, 8), .inr (.int, 8), .inr (.int, 8), .inr (.int, 8), .inr (.int, 8), .inr ((.array .int), 4), .inr (.int, 64), .inr (.int, 64), .inr (.int, 64), .inr (.int, 64), .inr (.int, 2), .inl 1, .inr (.int, 3), .inr (.int, 3), .inr ((.array .int), 4), .inr (.int, 7), .inr (.int, 7), .inr (.int, 7), .inr (.int, 7), .inl 6, .inr (.int, 27), .inr (.int, 27), .inr (.int, 27), .inr (.int, 27), .inr (.int, 12), .inr (.int, 12), .inr (.int, 12), .inr (.int, 12), .inl 3, .inr (.int, 64), .inr (.int, 64), .inr (.int, 5), .inr (.int, 5), .inr (.long, 64), .inl 5, .inl 3, .inr (.int, 64), .inr (.int, 64), .inr (.int, 5), .inr (.int, 5), .inr (.long, 64), .inr (.int, 72), .inl 8, .inl 4, .inr (.int, 40), .inr (.int, 40), .inr (.int, 40), .inr (.int, 40), .inr (.int, 32), .inl 0, .inr ((.array .int), 7), .inr (.int, 27), .inr (.int, 27), .inr (.int, 27), .inr (.int, 27), .inr (.int, 27), .inr (.int, 27), .inr (.int, 27), .inr (.int, 5), .inr (.int, 3), .inr (.int, 12), .inr (.int, 3), .inr (.int, 4), .inr (.int, 4), .inr (.int, 4), .inr (.int, 32), .inr (.long, 11), .inl 7, .inl 6, .inr (.int, 27), .inr (.int, 27), .inr (.int, 27), .inr (.int, 27), .inr (.int, 12), .inr (.int, 12), .inr (.int, 12), .inr (.int, 12), .inr (.int, 3), .inr (.int, 3), .inl 10, .inr (.int, 500), .inr (.int, 64), .inr (.int, 14), .inr (.int, 14), .inr (.int, 14), .inr (.int, 14), .inr (.int, 2), .inr (.int, 3), .inr (.int, 3), .inr (.int, 28), .inr (.int, 4), .inr (.int, 108), .inr (.int, 36), .inr (.int, 40), .inr (.int, 40), .inr (.int, 40), .inr (.boolean, 40), .inr (.int, 256), .inr (.int, 115), .inr (.int, 4), .inr (.boolean, 7), .inr (.boolean, 7), .inr (.int, 128), .inr (.int, 128), .inr (.int, 128), .inr (.int, 128), .inr (.int, 128), .inr (.int, 10), .inr (.int, 10), .inr (.int, 100), .inr (.int, 100), .inr (.int, 100), .inr (.boolean, 8), .inr (.long, 64), .inr (.int, 3), .inr (.int, 3), .inr (.int, 3), .inr (.int, 3), .inr (.boolean, 8), .inr (.int, 4), .inr (.int, 4), .inr (.int, 32), .inr (.int, 189), .inr (.int, 12), .inr (.int, 4), .inr (.int, 3), .inr (.int, 108), .inr (.long, 1)]
theorem sh_0 : zSH[0]? = some (.inl 9) := rfl
theorem sh_1 : zSH[1]? = some (.inr (.byte, 500)) := rfl
theorem sh_2 : zSH[2]? = some (.inr (.int, 4)) := rfl
theorem sh_3 : zSH[3]? = some (.inl 2) := rfl
theorem sh_4 : zSH[4]? = some (.inr ((.array .int), 8)) := rfl
theorem sh_5 : zSH[5]? = some (.inr (.int, 8)) := rfl
theorem sh_6 : zSH[6]? = some (.inr (.int, 8)) := rfl
theorem sh_7 : zSH[7]? = some (.inr (.int, 8)) := rfl
theorem sh_8 : zSH[8]? = some (.inr (.int, 8)) := rfl
theorem sh_9 : zSH[9]? = some (.inr (.int, 8)) := rfl
theorem sh_10 : zSH[10]? = some (.inr (.int, 8)) := rfl
theorem sh_11 : zSH[11]? = some (.inr (.int, 8)) := rfl
theorem sh_12 : zSH[12]? = some (.inr (.int, 8)) := rfl
theorem sh_13 : zSH[13]? = some (.inr ((.array .int), 4)) := rfl
theorem sh_14 : zSH[14]? = some (.inr (.int, 64)) := rfl
theorem sh_15 : zSH[15]? = some (.inr (.int, 64)) := rfl
theorem sh_16 : zSH[16]? = some (.inr (.int, 64)) := rfl
theorem sh_17 : zSH[17]? = some (.inr (.int, 64)) := rfl
theorem sh_18 : zSH[18]? = some (.inr (.int, 2)) := rfl
theorem sh_19 : zSH[19]? = some (.inl 1) := rfl
theorem sh_20 : zSH[20]? = some (.inr (.int, 3)) := rfl
theorem sh_21 : zSH[21]? = some (.inr (.int, 3)) := rfl
theorem sh_22 : zSH[22]? = some (.inr ((.array .int), 4)) := rfl
theorem sh_23 : zSH[23]? = some (.inr (.int, 7)) := rfl
theorem sh_24 : zSH[24]? = some (.inr (.int, 7)) := rfl
theorem sh_25 : zSH[25]? = some (.inr (.int, 7)) := rfl
theorem sh_26 : zSH[26]? = some (.inr (.int, 7)) := rfl
theorem sh_27 : zSH[27]? = some (.inl 6) := rfl
theorem sh_28 : zSH[28]? = some (.inr (.int, 27)) := rfl
theorem sh_29 : zSH[29]? = some (.inr (.int, 27)) := rfl
theorem sh_30 : zSH[30]? = some (.inr (.int, 27)) := rfl
theorem sh_31 : zSH[31]? = some (.inr (.int, 27)) := rfl
theorem sh_32 : zSH[32]? = some (.inr (.int, 12)) := rfl
theorem sh_33 : zSH[33]? = some (.inr (.int, 12)) := rfl
theorem sh_34 : zSH[34]? = some (.inr (.int, 12)) := rfl
theorem sh_35 : zSH[35]? = some (.inr (.int, 12)) := rfl
theorem sh_36 : zSH[36]? = some (.inl 3) := rfl
theorem sh_37 : zSH[37]? = some (.inr (.int, 64)) := rfl
theorem sh_38 : zSH[38]? = some (.inr (.int, 64)) := rfl
theorem sh_39 : zSH[39]? = some (.inr (.int, 5)) := rfl
theorem sh_40 : zSH[40]? = some (.inr (.int, 5)) := rfl
theorem sh_41 : zSH[41]? = some (.inr (.long, 64)) := rfl
theorem sh_42 : zSH[42]? = some (.inl 5) := rfl
theorem sh_43 : zSH[43]? = some (.inl 3) := rfl
theorem sh_44 : zSH[44]? = some (.inr (.int, 64)) := rfl
theorem sh_45 : zSH[45]? = some (.inr (.int, 64)) := rfl
theorem sh_46 : zSH[46]? = some (.inr (.int, 5)) := rfl
theorem sh_47 : zSH[47]? = some (.inr (.int, 5)) := rfl
theorem sh_48 : zSH[48]? = some (.inr (.long, 64)) := rfl
theorem sh_49 : zSH[49]? = some (.inr (.int, 72)) := rfl
theorem sh_50 : zSH[50]? = some (.inl 8) := rfl
theorem sh_51 : zSH[51]? = some (.inl 4) := rfl
theorem sh_52 : zSH[52]? = some (.inr (.int, 40)) := rfl
theorem sh_53 : zSH[53]? = some (.inr (.int, 40)) := rfl
theorem sh_54 : zSH[54]? = some (.inr (.int, 40)) := rfl
theorem sh_55 : zSH[55]? = some (.inr (.int, 40)) := rfl
theorem sh_56 : zSH[56]? = some (.inr (.int, 32)) := rfl
theorem sh_57 : zSH[57]? = some (.inl 0) := rfl
theorem sh_58 : zSH[58]? = some (.inr ((.array .int), 7)) := rfl
theorem sh_59 : zSH[59]? = some (.inr (.int, 27)) := rfl
theorem sh_60 : zSH[60]? = some (.inr (.int, 27)) := rfl
theorem sh_61 : zSH[61]? = some (.inr (.int, 27)) := rfl
theorem sh_62 : zSH[62]? = some (.inr (.int, 27)) := rfl
theorem sh_63 : zSH[63]? = some (.inr (.int, 27)) := rfl
theorem sh_64 : zSH[64]? = some (.inr (.int, 27)) := rfl
theorem sh_65 : zSH[65]? = some (.inr (.int, 27)) := rfl
theorem sh_66 : zSH[66]? = some (.inr (.int, 5)) := rfl
theorem sh_67 : zSH[67]? = some (.inr (.int, 3)) := rfl
theorem sh_68 : zSH[68]? = some (.inr (.int, 12)) := rfl
theorem sh_69 : zSH[69]? = some (.inr (.int, 3)) := rfl
theorem sh_70 : zSH[70]? = some (.inr (.int, 4)) := rfl
theorem sh_71 : zSH[71]? = some (.inr (.int, 4)) := rfl
theorem sh_72 : zSH[72]? = some (.inr (.int, 4)) := rfl
theorem sh_73 : zSH[73]? = some (.inr (.int, 32)) := rfl
theorem sh_74 : zSH[74]? = some (.inr (.long, 11)) := rfl
theorem sh_75 : zSH[75]? = some (.inl 7) := rfl
theorem sh_76 : zSH[76]? = some (.inl 6) := rfl
theorem sh_77 : zSH[77]? = some (.inr (.int, 27)) := rfl
theorem sh_78 : zSH[78]? = some (.inr (.int, 27)) := rfl
theorem sh_79 : zSH[79]? = some (.inr (.int, 27)) := rfl
theorem sh_80 : zSH[80]? = some (.inr (.int, 27)) := rfl
theorem sh_81 : zSH[81]? = some (.inr (.int, 12)) := rfl
theorem sh_82 : zSH[82]? = some (.inr (.int, 12)) := rfl
theorem sh_83 : zSH[83]? = some (.inr (.int, 12)) := rfl
theorem sh_84 : zSH[84]? = some (.inr (.int, 12)) := rfl
theorem sh_85 : zSH[85]? = some (.inr (.int, 3)) := rfl
theorem sh_86 : zSH[86]? = some (.inr (.int, 3)) := rfl
theorem sh_87 : zSH[87]? = some (.inl 10) := rfl
theorem sh_88 : zSH[88]? = some (.inr (.int, 500)) := rfl
theorem sh_89 : zSH[89]? = some (.inr (.int, 64)) := rfl
theorem sh_90 : zSH[90]? = some (.inr (.int, 14)) := rfl
theorem sh_91 : zSH[91]? = some (.inr (.int, 14)) := rfl
theorem sh_92 : zSH[92]? = some (.inr (.int, 14)) := rfl
theorem sh_93 : zSH[93]? = some (.inr (.int, 14)) := rfl
theorem sh_94 : zSH[94]? = some (.inr (.int, 2)) := rfl
theorem sh_95 : zSH[95]? = some (.inr (.int, 3)) := rfl
theorem sh_96 : zSH[96]? = some (.inr (.int, 3)) := rfl
theorem sh_97 : zSH[97]? = some (.inr (.int, 28)) := rfl
theorem sh_98 : zSH[98]? = some (.inr (.int, 4)) := rfl
theorem sh_99 : zSH[99]? = some (.inr (.int, 108)) := rfl
theorem sh_100 : zSH[100]? = some (.inr (.int, 36)) := rfl
theorem sh_101 : zSH[101]? = some (.inr (.int, 40)) := rfl
theorem sh_102 : zSH[102]? = some (.inr (.int, 40)) := rfl
theorem sh_103 : zSH[103]? = some (.inr (.int, 40)) := rfl
theorem sh_104 : zSH[104]? = some (.inr (.boolean, 40)) := rfl
theorem sh_105 : zSH[105]? = some (.inr (.int, 256)) := rfl
theorem sh_106 : zSH[106]? = some (.inr (.int, 115)) := rfl
theorem sh_107 : zSH[107]? = some (.inr (.int, 4)) := rfl
theorem sh_108 : zSH[108]? = some (.inr (.boolean, 7)) := rfl
theorem sh_109 : zSH[109]? = some (.inr (.boolean, 7)) := rfl
theorem sh_110 : zSH[110]? = some (.inr (.int, 128)) := rfl
theorem sh_111 : zSH[111]? = some (.inr (.int, 128)) := rfl
theorem sh_112 : zSH[112]? = some (.inr (.int, 128)) := rfl
theorem sh_113 : zSH[113]? = some (.inr (.int, 128)) := rfl
theorem sh_114 : zSH[114]? = some (.inr (.int, 128)) := rfl
theorem sh_115 : zSH[115]? = some (.inr (.int, 10)) := rfl
theorem sh_116 : zSH[116]? = some (.inr (.int, 10)) := rfl
theorem sh_117 : zSH[117]? = some (.inr (.int, 100)) := rfl
theorem sh_118 : zSH[118]? = some (.inr (.int, 100)) := rfl
theorem sh_119 : zSH[119]? = some (.inr (.int, 100)) := rfl
theorem sh_120 : zSH[120]? = some (.inr (.boolean, 8)) := rfl
theorem sh_121 : zSH[121]? = some (.inr (.long, 64)) := rfl
theorem sh_122 : zSH[122]? = some (.inr (.int, 3)) := rfl
theorem sh_123 : zSH[123]? = some (.inr (.int, 3)) := rfl
theorem sh_124 : zSH[124]? = some (.inr (.int, 3)) := rfl
theorem sh_125 : zSH[125]? = some (.inr (.int, 3)) := rfl
theorem sh_126 : zSH[126]? = some (.inr (.boolean, 8)) := rfl
theorem sh_127 : zSH[127]? = some (.inr (.int, 4)) := rfl
theorem sh_128 : zSH[128]? = some (.inr (.int, 4)) := rfl
theorem sh_129 : zSH[129]? = some (.inr (.int, 32)) := rfl
theorem sh_130 : zSH[130]? = some (.inr (.int, 189)) := rfl
theorem sh_131 : zSH[131]? = some (.inr (.int, 12)) := rfl
theorem sh_132 : zSH[132]? = some (.inr (.int, 4)) := rfl
theorem sh_133 : zSH[133]? = some (.inr (.int, 3)) := rfl
theorem sh_134 : zSH[134]? = some (.inr (.int, 108)) := rfl
theorem sh_135 : zSH[135]? = some (.inr (.long, 1)) := rfl
def zRT (r : Nat) : zm_R := fun k => match k with
  | 0 => (fun j => match j with | 0 => some 1 | 1 => some 2 | 2 => some 3 | 3 => some 19 | 4 => some 27 | 5 => some 36 | 6 => some 42 | 7 => some 51 | 8 => some 57 | 9 => some 75 | _ => none)
  | 3 => (fun j => match j with | 0 => some 4 | 1 => some 13 | 2 => some 18 | _ => none)
  | 4 => (fun j => match j with | 0 => some 5 | 1 => some 6 | 2 => some 7 | 3 => some 8 | 4 => some 9 | 5 => some 10 | 6 => some 11 | 7 => some 12 | _ => none)
  | 13 => (fun j => match j with | 0 => some 14 | 1 => some 15 | 2 => some 16 | 3 => some 17 | _ => none)
  | 19 => (fun j => match j with | 0 => some 20 | 1 => some 21 | 2 => some 22 | _ => none)
  | 22 => (fun j => match j with | 0 => some 23 | 1 => some 24 | 2 => some 25 | 3 => some 26 | _ => none)
  | 27 => (fun j => match j with | 0 => some 28 | 1 => some 29 | 2 => some 30 | 3 => some 31 | 4 => some 32 | 5 => some 33 | 6 => some 34 | 7 => some 35 | _ => none)
  | 36 => (fun j => match j with | 0 => some 37 | 1 => some 38 | 2 => some 39 | 3 => some 40 | 4 => some 41 | _ => none)
  | 42 => (fun j => match j with | 0 => some 50 | 1 => some 43 | 2 => some 49 | _ => none)
  | 43 => (fun j => match j with | 0 => some 44 | 1 => some 45 | 2 => some 46 | 3 => some 47 | 4 => some 48 | _ => none)
  | 50 => (fun j => match j with | 0 => some 1 | _ => none)
  | 51 => (fun j => match j with | 0 => some 52 | 1 => some 53 | 2 => some 54 | 3 => some 55 | 4 => some 56 | _ => none)
  | 57 => (fun j => match j with | 0 => some 3 | 1 => some 19 | 2 => some 36 | 3 => some 2 | 4 => some 58 | 5 => some 66 | 6 => some 67 | 7 => some 68 | 8 => some 69 | 9 => some 70 | 10 => some 71 | 11 => some 72 | 12 => some 73 | 13 => some 74 | 14 => some r | _ => none)
  | 58 => (fun j => match j with | 0 => some 59 | 1 => some 60 | 2 => some 61 | 3 => some 62 | 4 => some 63 | 5 => some 64 | 6 => some 65 | _ => none)
  | 75 => (fun j => match j with | 0 => some 3 | 1 => some 19 | 2 => some 57 | 3 => some 76 | 4 => some 85 | 5 => some 86 | _ => none)
  | 76 => (fun j => match j with | 0 => some 77 | 1 => some 78 | 2 => some 79 | 3 => some 80 | 4 => some 81 | 5 => some 82 | 6 => some 83 | 7 => some 84 | _ => none)
  | 87 => (fun j => match j with | 0 => some 88 | 4 => some 89 | 6 => some 90 | 7 => some 91 | 8 => some 92 | 9 => some 93 | 11 => some 94 | 13 => some 95 | 14 => some 96 | 16 => some 97 | 17 => some 98 | 19 => some 99 | 21 => some 100 | 23 => some 101 | 24 => some 102 | 25 => some 103 | 26 => some 104 | 27 => some 105 | 28 => some 106 | 36 => some 107 | 37 => some 108 | 38 => some 109 | 39 => some 110 | 40 => some 111 | 41 => some 112 | 42 => some 113 | 43 => some 114 | 44 => some 115 | 45 => some 116 | 49 => some 117 | 50 => some 118 | 52 => some 119 | 54 => some 120 | 59 => some 121 | 67 => some 122 | 68 => some 123 | 69 => some 124 | 70 => some 125 | 71 => some 126 | 72 => some 127 | 73 => some 128 | 74 => some 129 | 75 => some 130 | 76 => some 131 | 77 => some 132 | 86 => some 133 | 87 => some 134 | _ => none)
  | _ => fun _ => none
theorem rt_0_0 (r : Nat) : zRT r 0 0 = some 1 := rfl
theorem rt_0_1 (r : Nat) : zRT r 0 1 = some 2 := rfl
theorem rt_0_2 (r : Nat) : zRT r 0 2 = some 3 := rfl
theorem rt_0_3 (r : Nat) : zRT r 0 3 = some 19 := rfl
theorem rt_0_4 (r : Nat) : zRT r 0 4 = some 27 := rfl
theorem rt_0_5 (r : Nat) : zRT r 0 5 = some 36 := rfl
theorem rt_0_6 (r : Nat) : zRT r 0 6 = some 42 := rfl
theorem rt_0_7 (r : Nat) : zRT r 0 7 = some 51 := rfl
theorem rt_0_8 (r : Nat) : zRT r 0 8 = some 57 := rfl
theorem rt_0_9 (r : Nat) : zRT r 0 9 = some 75 := rfl
theorem rt_3_0 (r : Nat) : zRT r 3 0 = some 4 := rfl
theorem rt_3_1 (r : Nat) : zRT r 3 1 = some 13 := rfl
theorem rt_3_2 (r : Nat) : zRT r 3 2 = some 18 := rfl
theorem rt_4_0 (r : Nat) : zRT r 4 0 = some 5 := rfl
theorem rt_4_1 (r : Nat) : zRT r 4 1 = some 6 := rfl
theorem rt_4_2 (r : Nat) : zRT r 4 2 = some 7 := rfl
theorem rt_4_3 (r : Nat) : zRT r 4 3 = some 8 := rfl
theorem rt_4_4 (r : Nat) : zRT r 4 4 = some 9 := rfl
theorem rt_4_5 (r : Nat) : zRT r 4 5 = some 10 := rfl
theorem rt_4_6 (r : Nat) : zRT r 4 6 = some 11 := rfl
theorem rt_4_7 (r : Nat) : zRT r 4 7 = some 12 := rfl
theorem rt_13_0 (r : Nat) : zRT r 13 0 = some 14 := rfl
theorem rt_13_1 (r : Nat) : zRT r 13 1 = some 15 := rfl
theorem rt_13_2 (r : Nat) : zRT r 13 2 = some 16 := rfl
theorem rt_13_3 (r : Nat) : zRT r 13 3 = some 17 := rfl
theorem rt_19_0 (r : Nat) : zRT r 19 0 = some 20 := rfl
theorem rt_19_1 (r : Nat) : zRT r 19 1 = some 21 := rfl
theorem rt_19_2 (r : Nat) : zRT r 19 2 = some 22 := rfl
theorem rt_22_0 (r : Nat) : zRT r 22 0 = some 23 := rfl
theorem rt_22_1 (r : Nat) : zRT r 22 1 = some 24 := rfl
theorem rt_22_2 (r : Nat) : zRT r 22 2 = some 25 := rfl
theorem rt_22_3 (r : Nat) : zRT r 22 3 = some 26 := rfl
theorem rt_27_0 (r : Nat) : zRT r 27 0 = some 28 := rfl
theorem rt_27_1 (r : Nat) : zRT r 27 1 = some 29 := rfl
theorem rt_27_2 (r : Nat) : zRT r 27 2 = some 30 := rfl
theorem rt_27_3 (r : Nat) : zRT r 27 3 = some 31 := rfl
theorem rt_27_4 (r : Nat) : zRT r 27 4 = some 32 := rfl
theorem rt_27_5 (r : Nat) : zRT r 27 5 = some 33 := rfl
theorem rt_27_6 (r : Nat) : zRT r 27 6 = some 34 := rfl
theorem rt_27_7 (r : Nat) : zRT r 27 7 = some 35 := rfl
theorem rt_36_0 (r : Nat) : zRT r 36 0 = some 37 := rfl
theorem rt_36_1 (r : Nat) : zRT r 36 1 = some 38 := rfl
theorem rt_36_2 (r : Nat) : zRT r 36 2 = some 39 := rfl
theorem rt_36_3 (r : Nat) : zRT r 36 3 = some 40 := rfl
theorem rt_36_4 (r : Nat) : zRT r 36 4 = some 41 := rfl
theorem rt_42_0 (r : Nat) : zRT r 42 0 = some 50 := rfl
theorem rt_42_1 (r : Nat) : zRT r 42 1 = some 43 := rfl
theorem rt_42_2 (r : Nat) : zRT r 42 2 = some 49 := rfl
theorem rt_43_0 (r : Nat) : zRT r 43 0 = some 44 := rfl
theorem rt_43_1 (r : Nat) : zRT r 43 1 = some 45 := rfl
theorem rt_43_2 (r : Nat) : zRT r 43 2 = some 46 := rfl
theorem rt_43_3 (r : Nat) : zRT r 43 3 = some 47 := rfl
theorem rt_43_4 (r : Nat) : zRT r 43 4 = some 48 := rfl
theorem rt_50_0 (r : Nat) : zRT r 50 0 = some 1 := rfl
theorem rt_51_0 (r : Nat) : zRT r 51 0 = some 52 := rfl
theorem rt_51_1 (r : Nat) : zRT r 51 1 = some 53 := rfl
theorem rt_51_2 (r : Nat) : zRT r 51 2 = some 54 := rfl
theorem rt_51_3 (r : Nat) : zRT r 51 3 = some 55 := rfl
theorem rt_51_4 (r : Nat) : zRT r 51 4 = some 56 := rfl
theorem rt_57_0 (r : Nat) : zRT r 57 0 = some 3 := rfl
theorem rt_57_1 (r : Nat) : zRT r 57 1 = some 19 := rfl
theorem rt_57_2 (r : Nat) : zRT r 57 2 = some 36 := rfl
theorem rt_57_3 (r : Nat) : zRT r 57 3 = some 2 := rfl
theorem rt_57_4 (r : Nat) : zRT r 57 4 = some 58 := rfl
theorem rt_57_5 (r : Nat) : zRT r 57 5 = some 66 := rfl
theorem rt_57_6 (r : Nat) : zRT r 57 6 = some 67 := rfl
theorem rt_57_7 (r : Nat) : zRT r 57 7 = some 68 := rfl
theorem rt_57_8 (r : Nat) : zRT r 57 8 = some 69 := rfl
theorem rt_57_9 (r : Nat) : zRT r 57 9 = some 70 := rfl
theorem rt_57_10 (r : Nat) : zRT r 57 10 = some 71 := rfl
theorem rt_57_11 (r : Nat) : zRT r 57 11 = some 72 := rfl
theorem rt_57_12 (r : Nat) : zRT r 57 12 = some 73 := rfl
theorem rt_57_13 (r : Nat) : zRT r 57 13 = some 74 := rfl
theorem rt_57_14 (r : Nat) : zRT r 57 14 = some r := rfl
theorem rt_58_0 (r : Nat) : zRT r 58 0 = some 59 := rfl
theorem rt_58_1 (r : Nat) : zRT r 58 1 = some 60 := rfl
theorem rt_58_2 (r : Nat) : zRT r 58 2 = some 61 := rfl
theorem rt_58_3 (r : Nat) : zRT r 58 3 = some 62 := rfl
theorem rt_58_4 (r : Nat) : zRT r 58 4 = some 63 := rfl
theorem rt_58_5 (r : Nat) : zRT r 58 5 = some 64 := rfl
theorem rt_58_6 (r : Nat) : zRT r 58 6 = some 65 := rfl
theorem rt_75_0 (r : Nat) : zRT r 75 0 = some 3 := rfl
theorem rt_75_1 (r : Nat) : zRT r 75 1 = some 19 := rfl
theorem rt_75_2 (r : Nat) : zRT r 75 2 = some 57 := rfl
theorem rt_75_3 (r : Nat) : zRT r 75 3 = some 76 := rfl
theorem rt_75_4 (r : Nat) : zRT r 75 4 = some 85 := rfl
theorem rt_75_5 (r : Nat) : zRT r 75 5 = some 86 := rfl
theorem rt_76_0 (r : Nat) : zRT r 76 0 = some 77 := rfl
theorem rt_76_1 (r : Nat) : zRT r 76 1 = some 78 := rfl
theorem rt_76_2 (r : Nat) : zRT r 76 2 = some 79 := rfl
theorem rt_76_3 (r : Nat) : zRT r 76 3 = some 80 := rfl
theorem rt_76_4 (r : Nat) : zRT r 76 4 = some 81 := rfl
theorem rt_76_5 (r : Nat) : zRT r 76 5 = some 82 := rfl
theorem rt_76_6 (r : Nat) : zRT r 76 6 = some 83 := rfl
theorem rt_76_7 (r : Nat) : zRT r 76 7 = some 84 := rfl
theorem rt_87_0 (r : Nat) : zRT r 87 0 = some 88 := rfl
theorem rt_87_4 (r : Nat) : zRT r 87 4 = some 89 := rfl
theorem rt_87_6 (r : Nat) : zRT r 87 6 = some 90 := rfl
theorem rt_87_7 (r : Nat) : zRT r 87 7 = some 91 := rfl
theorem rt_87_8 (r : Nat) : zRT r 87 8 = some 92 := rfl
theorem rt_87_9 (r : Nat) : zRT r 87 9 = some 93 := rfl
theorem rt_87_11 (r : Nat) : zRT r 87 11 = some 94 := rfl
theorem rt_87_13 (r : Nat) : zRT r 87 13 = some 95 := rfl
theorem rt_87_14 (r : Nat) : zRT r 87 14 = some 96 := rfl
theorem rt_87_16 (r : Nat) : zRT r 87 16 = some 97 := rfl
theorem rt_87_17 (r : Nat) : zRT r 87 17 = some 98 := rfl
theorem rt_87_19 (r : Nat) : zRT r 87 19 = some 99 := rfl
theorem rt_87_21 (r : Nat) : zRT r 87 21 = some 100 := rfl
theorem rt_87_23 (r : Nat) : zRT r 87 23 = some 101 := rfl
theorem rt_87_24 (r : Nat) : zRT r 87 24 = some 102 := rfl
theorem rt_87_25 (r : Nat) : zRT r 87 25 = some 103 := rfl
theorem rt_87_26 (r : Nat) : zRT r 87 26 = some 104 := rfl
theorem rt_87_27 (r : Nat) : zRT r 87 27 = some 105 := rfl
theorem rt_87_28 (r : Nat) : zRT r 87 28 = some 106 := rfl
theorem rt_87_36 (r : Nat) : zRT r 87 36 = some 107 := rfl
theorem rt_87_37 (r : Nat) : zRT r 87 37 = some 108 := rfl
theorem rt_87_38 (r : Nat) : zRT r 87 38 = some 109 := rfl
theorem rt_87_39 (r : Nat) : zRT r 87 39 = some 110 := rfl
theorem rt_87_40 (r : Nat) : zRT r 87 40 = some 111 := rfl
theorem rt_87_41 (r : Nat) : zRT r 87 41 = some 112 := rfl
theorem rt_87_42 (r : Nat) : zRT r 87 42 = some 113 := rfl
theorem rt_87_43 (r : Nat) : zRT r 87 43 = some 114 := rfl
theorem rt_87_44 (r : Nat) : zRT r 87 44 = some 115 := rfl
theorem rt_87_45 (r : Nat) : zRT r 87 45 = some 116 := rfl
theorem rt_87_49 (r : Nat) : zRT r 87 49 = some 117 := rfl
theorem rt_87_50 (r : Nat) : zRT r 87 50 = some 118 := rfl
theorem rt_87_52 (r : Nat) : zRT r 87 52 = some 119 := rfl
theorem rt_87_54 (r : Nat) : zRT r 87 54 = some 120 := rfl
theorem rt_87_59 (r : Nat) : zRT r 87 59 = some 121 := rfl
theorem rt_87_67 (r : Nat) : zRT r 87 67 = some 122 := rfl
theorem rt_87_68 (r : Nat) : zRT r 87 68 = some 123 := rfl
theorem rt_87_69 (r : Nat) : zRT r 87 69 = some 124 := rfl
theorem rt_87_70 (r : Nat) : zRT r 87 70 = some 125 := rfl
theorem rt_87_71 (r : Nat) : zRT r 87 71 = some 126 := rfl
theorem rt_87_72 (r : Nat) : zRT r 87 72 = some 127 := rfl
theorem rt_87_73 (r : Nat) : zRT r 87 73 = some 128 := rfl
theorem rt_87_74 (r : Nat) : zRT r 87 74 = some 129 := rfl
theorem rt_87_75 (r : Nat) : zRT r 87 75 = some 130 := rfl
theorem rt_87_76 (r : Nat) : zRT r 87 76 = some 131 := rfl
theorem rt_87_77 (r : Nat) : zRT r 87 77 = some 132 := rfl
theorem rt_87_86 (r : Nat) : zRT r 87 86 = some 133 := rfl
theorem rt_87_87 (r : Nat) : zRT r 87 87 = some 134 := rfl
