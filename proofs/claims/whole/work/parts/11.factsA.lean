theorem zf_inT {ws : List Cond} (ps : List Nat) (hp : ws = ps.filterMap (fun i => lw_tbl[i]?)) (h : ws.all goodWord = true) : ∀ w ∈ ws, w ∈ zm_T := by
  intro w hw
  have h1 := List.all_eq_true.mp h w hw
  rw [hp] at hw
  obtain ⟨i, -, hi⟩ := List.mem_filterMap.mp hw
  exact zm_inT i hi h1
theorem uTX0 : ∀ w ∈ u_ws RX0 TX0 20, w ∈ zm_T := zf_inT [446, 448, 450, 452, 454, 456, 458, 460, 462, 464, 466, 468, 470, 472, 474, 476, 478, 480, 482, 484] (by decide +kernel) (by decide +kernel)
theorem uTX1 : ∀ w ∈ u_ws RX1 TX1 5, w ∈ zm_T := zf_inT [208, 210, 212, 214, 216] (by decide +kernel) (by decide +kernel)
theorem uTX3 : ∀ w ∈ u_ws RX3 TX3 6, w ∈ zm_T := zf_inT [173, 175, 177, 179, 181, 183] (by decide +kernel) (by decide +kernel)
theorem uTX4 : ∀ w ∈ u_ws RX4 TX4 9, w ∈ zm_T := zf_inT [299, 301, 303, 305, 307, 309, 311, 313, 315] (by decide +kernel) (by decide +kernel)
theorem uTX5 : ∀ w ∈ u_ws RX5 TX5 6, w ∈ zm_T := zf_inT [399, 401, 403, 405, 407, 409] (by decide +kernel) (by decide +kernel)
theorem uTX6 : ∀ w ∈ u_ws RX6 TX6 9, w ∈ zm_T := zf_inT [367, 369, 371, 373, 375, 377, 379, 381, 383] (by decide +kernel) (by decide +kernel)
theorem uTX7 : ∀ w ∈ u_ws RX7 TX7 10, w ∈ zm_T := zf_inT [249, 251, 253, 255, 257, 259, 261, 263, 265, 267] (by decide +kernel) (by decide +kernel)
theorem uTX8 : ∀ w ∈ u_ws RX8 TX8 9, w ∈ zm_T := zf_inT [508, 510, 512, 514, 516, 518, 520, 522, 524] (by decide +kernel) (by decide +kernel)
theorem uTX9 : ∀ w ∈ u_ws RX9 TX9 6, w ∈ zm_T := zf_inT [342, 344, 346, 348, 350, 352] (by decide +kernel) (by decide +kernel)
theorem uTX10 : ∀ w ∈ u_ws RX10 TX10 11, w ∈ zm_T := zf_inT [539, 541, 543, 545, 547, 549, 551, 553, 555, 557, 559] (by decide +kernel) (by decide +kernel)
theorem uTX11 : ∀ w ∈ u_ws RX11 TX11 88, w ∈ zm_T := zf_inT [1282, 1284, 1286, 1288, 1290, 1292, 1294, 1296, 1298, 1300, 1302, 1304, 1306, 1308, 1310, 1312, 1314, 1316, 1318, 1320, 1322, 1324, 1326, 1328, 1330, 1332, 1334, 1336, 1338, 1340, 1342, 1344, 1346, 1348, 1350, 1352, 1354, 1356, 1358, 1360, 1362, 1364, 1366, 1368, 1370, 1372, 1374, 1376, 1378, 1380, 1382, 1384, 1386, 1388, 1390, 1392, 1394, 1396, 1398, 1400, 1402, 1404, 1406, 1408, 1410, 1412, 1414, 1416, 1418, 1420, 1422, 1424, 1426, 1428, 1430, 1432, 1434, 1436, 1438, 1440, 1442, 1444, 1446, 1448, 1450, 1452, 1454, 1456] (by decide +kernel) (by decide +kernel)
def mX0_init : zm_Y := (cX0_init, RX0, 6, none)
set_option maxRecDepth 100000 in
theorem calX0_init : zm_cal yX0_init mX0_init 5 := ⟨zm_inT 416 (by rfl) (by rfl), zm_inT 126 (by decide +kernel) (by decide +kernel), by decide +kernel, by decide⟩
def mX0_goThrough : zm_Y := (cX0_goThrough, RX0, 5, none)
set_option maxRecDepth 100000 in
theorem calX0_goThrough : zm_cal yX0_goThrough mX0_goThrough 2 := ⟨zm_inT 881 (by rfl) (by rfl), zm_inT 126 (by decide +kernel) (by decide +kernel), by decide +kernel, by decide⟩
theorem stX0_goThrough : Cond.instanceMethod yX0_goThrough ∈ zm_T ∧ Cond.selects (yX0_goThrough).cls yX0_goThrough yX0_goThrough ∈ zm_T := ⟨zm_inT 880 (by decide +kernel) (by decide +kernel), zm_inT 42 (by decide +kernel) (by decide +kernel)⟩
def mX0_begin : zm_Y := (cX0_begin, RX0, 2, none)
set_option maxRecDepth 100000 in
theorem calX0_begin : zm_cal yX0_begin mX0_begin 0 := ⟨zm_inT 885 (by rfl) (by rfl), zm_inT 126 (by decide +kernel) (by decide +kernel), by decide +kernel, by decide⟩
theorem stX0_begin : Cond.instanceMethod yX0_begin ∈ zm_T ∧ Cond.selects (yX0_begin).cls yX0_begin yX0_begin ∈ zm_T := ⟨zm_inT 884 (by decide +kernel) (by decide +kernel), zm_inT 43 (by decide +kernel) (by decide +kernel)⟩
def mX0_handOn : zm_Y := (cX0_handOn, RX0, 6, none)
set_option maxRecDepth 100000 in
theorem calX0_handOn : zm_cal yX0_handOn mX0_handOn 0 := ⟨zm_inT 890 (by rfl) (by rfl), zm_inT 126 (by decide +kernel) (by decide +kernel), by decide +kernel, by decide⟩
theorem stX0_handOn : Cond.instanceMethod yX0_handOn ∈ zm_T ∧ Cond.selects (yX0_handOn).cls yX0_handOn yX0_handOn ∈ zm_T := ⟨zm_inT 889 (by decide +kernel) (by decide +kernel), zm_inT 44 (by decide +kernel) (by decide +kernel)⟩
def mX0_tour : zm_Y := (cX0_tour, RX0, 5, none)
set_option maxRecDepth 100000 in
theorem calX0_tour : zm_cal yX0_tour mX0_tour 1 := ⟨zm_inT 902 (by rfl) (by rfl), zm_inT 126 (by decide +kernel) (by decide +kernel), by decide +kernel, by decide⟩
theorem stX0_tour : Cond.instanceMethod yX0_tour ∈ zm_T ∧ Cond.selects (yX0_tour).cls yX0_tour yX0_tour ∈ zm_T := ⟨zm_inT 901 (by decide +kernel) (by decide +kernel), zm_inT 47 (by decide +kernel) (by decide +kernel)⟩
def mX0_forget : zm_Y := (cX0_forget, RX0, 3, none)
set_option maxRecDepth 100000 in
theorem calX0_forget : zm_cal yX0_forget mX0_forget 1 := ⟨zm_inT 906 (by rfl) (by rfl), zm_inT 126 (by decide +kernel) (by decide +kernel), by decide +kernel, by decide⟩
theorem stX0_forget : Cond.instanceMethod yX0_forget ∈ zm_T ∧ Cond.selects (yX0_forget).cls yX0_forget yX0_forget ∈ zm_T := ⟨zm_inT 905 (by decide +kernel) (by decide +kernel), zm_inT 48 (by decide +kernel) (by decide +kernel)⟩
def mX0_causeAgainst : zm_Y := (cX0_causeAgainst, RX0, 7, (some .int))
set_option maxRecDepth 100000 in
theorem calX0_causeAgainst : zm_cal yX0_causeAgainst mX0_causeAgainst 3 := ⟨zm_inT 910 (by rfl) (by rfl), zm_inT 126 (by decide +kernel) (by decide +kernel), by decide +kernel, by decide⟩
theorem stX0_causeAgainst : Cond.instanceMethod yX0_causeAgainst ∈ zm_T ∧ Cond.selects (yX0_causeAgainst).cls yX0_causeAgainst yX0_causeAgainst ∈ zm_T := ⟨zm_inT 909 (by decide +kernel) (by decide +kernel), zm_inT 49 (by decide +kernel) (by decide +kernel)⟩
def mX0_gatherFacts : zm_Y := (cX0_gatherFacts, RX0, 6, none)
set_option maxRecDepth 100000 in
theorem calX0_gatherFacts : zm_cal yX0_gatherFacts mX0_gatherFacts 2 := ⟨zm_inT 915 (by rfl) (by rfl), zm_inT 126 (by decide +kernel) (by decide +kernel), by decide +kernel, by decide⟩
theorem stX0_gatherFacts : Cond.instanceMethod yX0_gatherFacts ∈ zm_T ∧ Cond.selects (yX0_gatherFacts).cls yX0_gatherFacts yX0_gatherFacts ∈ zm_T := ⟨zm_inT 914 (by decide +kernel) (by decide +kernel), zm_inT 50 (by decide +kernel) (by decide +kernel)⟩
def mX0_headsAt : zm_Y := (cX0_headsAt, RX0, 6, (some .int))
set_option maxRecDepth 100000 in
theorem calX0_headsAt : zm_cal yX0_headsAt mX0_headsAt 2 := ⟨zm_inT 919 (by rfl) (by rfl), zm_inT 126 (by decide +kernel) (by decide +kernel), by decide +kernel, by decide⟩
theorem stX0_headsAt : Cond.instanceMethod yX0_headsAt ∈ zm_T ∧ Cond.selects (yX0_headsAt).cls yX0_headsAt yX0_headsAt ∈ zm_T := ⟨zm_inT 918 (by decide +kernel) (by decide +kernel), zm_inT 51 (by decide +kernel) (by decide +kernel)⟩
def mX0_drive : zm_Y := (cX0_drive, RX0, 5, none)
set_option maxRecDepth 100000 in
theorem calX0_drive : zm_cal yX0_drive mX0_drive 3 := ⟨zm_inT 944 (by rfl) (by rfl), zm_inT 126 (by decide +kernel) (by decide +kernel), by decide +kernel, by decide⟩
theorem stX0_drive : Cond.instanceMethod yX0_drive ∈ zm_T ∧ Cond.selects (yX0_drive).cls yX0_drive yX0_drive ∈ zm_T := ⟨zm_inT 943 (by decide +kernel) (by decide +kernel), zm_inT 53 (by decide +kernel) (by decide +kernel)⟩
def mX0_show : zm_Y := (cX0_show, RX0, 10, none)
set_option maxRecDepth 100000 in
theorem calX0_show : zm_cal yX0_show mX0_show 3 := ⟨zm_inT 948 (by rfl) (by rfl), zm_inT 126 (by decide +kernel) (by decide +kernel), by decide +kernel, by decide⟩
theorem stX0_show : Cond.instanceMethod yX0_show ∈ zm_T ∧ Cond.selects (yX0_show).cls yX0_show yX0_show ∈ zm_T := ⟨zm_inT 947 (by decide +kernel) (by decide +kernel), zm_inT 54 (by decide +kernel) (by decide +kernel)⟩
def mX0_cut : zm_Y := (cX0_cut, RX0, 3, (some .int))
set_option maxRecDepth 100000 in
theorem calX0_cut : zm_cal yX0_cut mX0_cut 2 := ⟨zm_inT 951 (by rfl) (by rfl), zm_inT 126 (by decide +kernel) (by decide +kernel), by decide +kernel, by decide⟩
theorem stX0_cut : Cond.static yX0_cut ∈ zm_T := zm_inT 950 (by decide +kernel) (by decide +kernel)
def mX0_eggsEach : zm_Y := (cX0_eggsEach, RX0, 3, (some .int))
set_option maxRecDepth 100000 in
theorem calX0_eggsEach : zm_cal yX0_eggsEach mX0_eggsEach 1 := ⟨zm_inT 961 (by rfl) (by rfl), zm_inT 126 (by decide +kernel) (by decide +kernel), by decide +kernel, by decide⟩
theorem stX0_eggsEach : Cond.instanceMethod yX0_eggsEach ∈ zm_T ∧ Cond.selects (yX0_eggsEach).cls yX0_eggsEach yX0_eggsEach ∈ zm_T := ⟨zm_inT 960 (by decide +kernel) (by decide +kernel), zm_inT 55 (by decide +kernel) (by decide +kernel)⟩
def mX0_endNight : zm_Y := (cX0_endNight, RX0, 2, none)
set_option maxRecDepth 100000 in
theorem calX0_endNight : zm_cal yX0_endNight mX0_endNight 0 := ⟨zm_inT 965 (by rfl) (by rfl), zm_inT 126 (by decide +kernel) (by decide +kernel), by decide +kernel, by decide⟩
theorem stX0_endNight : Cond.instanceMethod yX0_endNight ∈ zm_T ∧ Cond.selects (yX0_endNight).cls yX0_endNight yX0_endNight ∈ zm_T := ⟨zm_inT 964 (by decide +kernel) (by decide +kernel), zm_inT 56 (by decide +kernel) (by decide +kernel)⟩
def mX0_payFuel : zm_Y := (cX0_payFuel, RX0, 3, none)
set_option maxRecDepth 100000 in
theorem calX0_payFuel : zm_cal yX0_payFuel mX0_payFuel 0 := ⟨zm_inT 969 (by rfl) (by rfl), zm_inT 126 (by decide +kernel) (by decide +kernel), by decide +kernel, by decide⟩
theorem stX0_payFuel : Cond.instanceMethod yX0_payFuel ∈ zm_T ∧ Cond.selects (yX0_payFuel).cls yX0_payFuel yX0_payFuel ∈ zm_T := ⟨zm_inT 968 (by decide +kernel) (by decide +kernel), zm_inT 57 (by decide +kernel) (by decide +kernel)⟩
def mX0_payFines : zm_Y := (cX0_payFines, RX0, 2, none)
set_option maxRecDepth 100000 in
theorem calX0_payFines : zm_cal yX0_payFines mX0_payFines 0 := ⟨zm_inT 973 (by rfl) (by rfl), zm_inT 126 (by decide +kernel) (by decide +kernel), by decide +kernel, by decide⟩
theorem stX0_payFines : Cond.instanceMethod yX0_payFines ∈ zm_T ∧ Cond.selects (yX0_payFines).cls yX0_payFines yX0_payFines ∈ zm_T := ⟨zm_inT 972 (by decide +kernel) (by decide +kernel), zm_inT 58 (by decide +kernel) (by decide +kernel)⟩
def mX0_nightsLate : zm_Y := (cX0_nightsLate, RX0, 3, (some .int))
set_option maxRecDepth 100000 in
theorem calX0_nightsLate : zm_cal yX0_nightsLate mX0_nightsLate 1 := ⟨zm_inT 977 (by rfl) (by rfl), zm_inT 126 (by decide +kernel) (by decide +kernel), by decide +kernel, by decide⟩
theorem stX0_nightsLate : Cond.instanceMethod yX0_nightsLate ∈ zm_T ∧ Cond.selects (yX0_nightsLate).cls yX0_nightsLate yX0_nightsLate ∈ zm_T := ⟨zm_inT 976 (by decide +kernel) (by decide +kernel), zm_inT 59 (by decide +kernel) (by decide +kernel)⟩
def mX1_init : zm_Y := (cX1_init, RX1, 1, none)
set_option maxRecDepth 100000 in
theorem calX1_init : zm_cal yX1_init mX1_init 0 := ⟨zm_inT 192 (by rfl) (by rfl), zm_inT 120 (by decide +kernel) (by decide +kernel), by decide +kernel, by decide⟩
def mX1_hasVan : zm_Y := (cX1_hasVan, RX1, 2, (some .boolean))
set_option maxRecDepth 100000 in
theorem calX1_hasVan : zm_cal yX1_hasVan mX1_hasVan 1 := ⟨zm_inT 807 (by rfl) (by rfl), zm_inT 120 (by decide +kernel) (by decide +kernel), by decide +kernel, by decide⟩
theorem stX1_hasVan : Cond.instanceMethod yX1_hasVan ∈ zm_T ∧ Cond.selects (yX1_hasVan).cls yX1_hasVan yX1_hasVan ∈ zm_T := ⟨zm_inT 806 (by decide +kernel) (by decide +kernel), zm_inT 33 (by decide +kernel) (by decide +kernel)⟩
def mX1_hasPrint : zm_Y := (cX1_hasPrint, RX1, 2, (some .boolean))
set_option maxRecDepth 100000 in
theorem calX1_hasPrint : zm_cal yX1_hasPrint mX1_hasPrint 1 := ⟨zm_inT 839 (by rfl) (by rfl), zm_inT 120 (by decide +kernel) (by decide +kernel), by decide +kernel, by decide⟩
theorem stX1_hasPrint : Cond.instanceMethod yX1_hasPrint ∈ zm_T ∧ Cond.selects (yX1_hasPrint).cls yX1_hasPrint yX1_hasPrint ∈ zm_T := ⟨zm_inT 838 (by decide +kernel) (by decide +kernel), zm_inT 36 (by decide +kernel) (by decide +kernel)⟩
def mX1_isBroken : zm_Y := (cX1_isBroken, RX1, 3, (some .boolean))
set_option maxRecDepth 100000 in
theorem calX1_isBroken : zm_cal yX1_isBroken mX1_isBroken 2 := ⟨zm_inT 894 (by rfl) (by rfl), zm_inT 120 (by decide +kernel) (by decide +kernel), by decide +kernel, by decide⟩
theorem stX1_isBroken : Cond.instanceMethod yX1_isBroken ∈ zm_T ∧ Cond.selects (yX1_isBroken).cls yX1_isBroken yX1_isBroken ∈ zm_T := ⟨zm_inT 893 (by decide +kernel) (by decide +kernel), zm_inT 45 (by decide +kernel) (by decide +kernel)⟩
def mX1_addVan : zm_Y := (cX1_addVan, RX1, 2, (some .int))
set_option maxRecDepth 100000 in
theorem calX1_addVan : zm_cal yX1_addVan mX1_addVan 1 := ⟨zm_inT 799 (by rfl) (by rfl), zm_inT 120 (by decide +kernel) (by decide +kernel), by decide +kernel, by decide⟩
theorem stX1_addVan : Cond.instanceMethod yX1_addVan ∈ zm_T ∧ Cond.selects (yX1_addVan).cls yX1_addVan yX1_addVan ∈ zm_T := ⟨zm_inT 798 (by decide +kernel) (by decide +kernel), zm_inT 32 (by decide +kernel) (by decide +kernel)⟩
def mX1_addPrint : zm_Y := (cX1_addPrint, RX1, 9, (some .int))
set_option maxRecDepth 100000 in
theorem calX1_addPrint : zm_cal yX1_addPrint mX1_addPrint 7 := ⟨zm_inT 816 (by rfl) (by rfl), zm_inT 120 (by decide +kernel) (by decide +kernel), by decide +kernel, by decide⟩
theorem stX1_addPrint : Cond.instanceMethod yX1_addPrint ∈ zm_T ∧ Cond.selects (yX1_addPrint).cls yX1_addPrint yX1_addPrint ∈ zm_T := ⟨zm_inT 815 (by decide +kernel) (by decide +kernel), zm_inT 34 (by decide +kernel) (by decide +kernel)⟩
def mX2_rank : zm_Y := (cX2_rank, RX2, 1, (some .int))
set_option maxRecDepth 100000 in
theorem calX2_rank : zm_cal yX2_rank mX2_rank 1 := ⟨zm_inT 735 (by rfl) (by rfl), zm_inT 130 (by decide +kernel) (by decide +kernel), by decide +kernel, by decide⟩
theorem stX2_rank : Cond.static yX2_rank ∈ zm_T := zm_inT 734 (by decide +kernel) (by decide +kernel)
def mX2_joinsTwo : zm_Y := (cX2_joinsTwo, RX2, 1, (some .boolean))
set_option maxRecDepth 100000 in
theorem calX2_joinsTwo : zm_cal yX2_joinsTwo mX2_joinsTwo 1 := ⟨zm_inT 750 (by rfl) (by rfl), zm_inT 130 (by decide +kernel) (by decide +kernel), by decide +kernel, by decide⟩
theorem stX2_joinsTwo : Cond.static yX2_joinsTwo ∈ zm_T := zm_inT 749 (by decide +kernel) (by decide +kernel)
def mX2_ofSign : zm_Y := (cX2_ofSign, RX2, 1, (some .int))
set_option maxRecDepth 100000 in
theorem calX2_ofSign : zm_cal yX2_ofSign mX2_ofSign 1 := ⟨zm_inT 617 (by rfl) (by rfl), zm_inT 130 (by decide +kernel) (by decide +kernel), by decide +kernel, by decide⟩
theorem stX2_ofSign : Cond.static yX2_ofSign ∈ zm_T := zm_inT 616 (by decide +kernel) (by decide +kernel)
def mX3_init : zm_Y := (cX3_init, RX3, 3, none)
set_option maxRecDepth 100000 in
theorem calX3_init : zm_cal yX3_init mX3_init 0 := ⟨zm_inT 153 (by rfl) (by rfl), zm_inT 118 (by decide +kernel) (by decide +kernel), by decide +kernel, by decide⟩
def mX3_hasVillage : zm_Y := (cX3_hasVillage, RX3, 2, (some .boolean))
set_option maxRecDepth 100000 in
theorem calX3_hasVillage : zm_cal yX3_hasVillage mX3_hasVillage 1 := ⟨zm_inT 778 (by rfl) (by rfl), zm_inT 118 (by decide +kernel) (by decide +kernel), by decide +kernel, by decide⟩
theorem stX3_hasVillage : Cond.instanceMethod yX3_hasVillage ∈ zm_T ∧ Cond.selects (yX3_hasVillage).cls yX3_hasVillage yX3_hasVillage ∈ zm_T := ⟨zm_inT 777 (by decide +kernel) (by decide +kernel), zm_inT 30 (by decide +kernel) (by decide +kernel)⟩
def mX3_addVillage : zm_Y := (cX3_addVillage, RX3, 7, (some .int))
set_option maxRecDepth 100000 in
theorem calX3_addVillage : zm_cal yX3_addVillage mX3_addVillage 4 := ⟨zm_inT 770 (by rfl) (by rfl), zm_inT 118 (by decide +kernel) (by decide +kernel), by decide +kernel, by decide⟩
theorem stX3_addVillage : Cond.instanceMethod yX3_addVillage ∈ zm_T ∧ Cond.selects (yX3_addVillage).cls yX3_addVillage yX3_addVillage ∈ zm_T := ⟨zm_inT 769 (by decide +kernel) (by decide +kernel), zm_inT 29 (by decide +kernel) (by decide +kernel)⟩
def mX3_addRoad : zm_Y := (cX3_addRoad, RX3, 7, (some .int))
set_option maxRecDepth 100000 in
theorem calX3_addRoad : zm_cal yX3_addRoad mX3_addRoad 4 := ⟨zm_inT 787 (by rfl) (by rfl), zm_inT 118 (by decide +kernel) (by decide +kernel), by decide +kernel, by decide⟩
theorem stX3_addRoad : Cond.instanceMethod yX3_addRoad ∈ zm_T ∧ Cond.selects (yX3_addRoad).cls yX3_addRoad yX3_addRoad ∈ zm_T := ⟨zm_inT 786 (by decide +kernel) (by decide +kernel), zm_inT 31 (by decide +kernel) (by decide +kernel)⟩
def mX3_shorten : zm_Y := (cX3_shorten, RX3, 9, none)
set_option maxRecDepth 100000 in
theorem calX3_shorten : zm_cal yX3_shorten mX3_shorten 4 := ⟨zm_inT 790 (by rfl) (by rfl), zm_inT 118 (by decide +kernel) (by decide +kernel), by decide +kernel, by decide⟩
theorem stX3_shorten : Cond.static yX3_shorten ∈ zm_T := zm_inT 789 (by decide +kernel) (by decide +kernel)
def mX3_fewestMinutes : zm_Y := (cX3_fewestMinutes, RX3, 5, (some .int))
set_option maxRecDepth 100000 in
theorem calX3_fewestMinutes : zm_cal yX3_fewestMinutes mX3_fewestMinutes 3 := ⟨zm_inT 831 (by rfl) (by rfl), zm_inT 118 (by decide +kernel) (by decide +kernel), by decide +kernel, by decide⟩
theorem stX3_fewestMinutes : Cond.instanceMethod yX3_fewestMinutes ∈ zm_T ∧ Cond.selects (yX3_fewestMinutes).cls yX3_fewestMinutes yX3_fewestMinutes ∈ zm_T := ⟨zm_inT 830 (by decide +kernel) (by decide +kernel), zm_inT 35 (by decide +kernel) (by decide +kernel)⟩
def mX3_canBeShut : zm_Y := (cX3_canBeShut, RX3, 5, (some .boolean))
set_option maxRecDepth 100000 in
theorem calX3_canBeShut : zm_cal yX3_canBeShut mX3_canBeShut 1 := ⟨zm_inT 1000 (by rfl) (by rfl), zm_inT 118 (by decide +kernel) (by decide +kernel), by decide +kernel, by decide⟩
theorem stX3_canBeShut : Cond.instanceMethod yX3_canBeShut ∈ zm_T ∧ Cond.selects (yX3_canBeShut).cls yX3_canBeShut yX3_canBeShut ∈ zm_T := ⟨zm_inT 999 (by decide +kernel) (by decide +kernel), zm_inT 60 (by decide +kernel) (by decide +kernel)⟩
def mX3_chanceOf : zm_Y := (cX3_chanceOf, RX3, 7, (some .long))
set_option maxRecDepth 100000 in
theorem calX3_chanceOf : zm_cal yX3_chanceOf mX3_chanceOf 1 := ⟨zm_inT 1004 (by rfl) (by rfl), zm_inT 118 (by decide +kernel) (by decide +kernel), by decide +kernel, by decide⟩
theorem stX3_chanceOf : Cond.instanceMethod yX3_chanceOf ∈ zm_T ∧ Cond.selects (yX3_chanceOf).cls yX3_chanceOf yX3_chanceOf ∈ zm_T := ⟨zm_inT 1003 (by decide +kernel) (by decide +kernel), zm_inT 61 (by decide +kernel) (by decide +kernel)⟩
def mX4_init : zm_Y := (cX4_init, RX4, 1, none)
set_option maxRecDepth 100000 in
theorem calX4_init : zm_cal yX4_init mX4_init 0 := ⟨zm_inT 274 (by rfl) (by rfl), zm_inT 122 (by decide +kernel) (by decide +kernel), by decide +kernel, by decide⟩
def mX4_reset : zm_Y := (cX4_reset, RX4, 1, none)
set_option maxRecDepth 100000 in
theorem calX4_reset : zm_cal yX4_reset mX4_reset 0 := ⟨zm_inT 588 (by rfl) (by rfl), zm_inT 122 (by decide +kernel) (by decide +kernel), by decide +kernel, by decide⟩
theorem stX4_reset : Cond.instanceMethod yX4_reset ∈ zm_T ∧ Cond.selects (yX4_reset).cls yX4_reset yX4_reset ∈ zm_T := ⟨zm_inT 587 (by decide +kernel) (by decide +kernel), zm_inT 3 (by decide +kernel) (by decide +kernel)⟩
def mX4_copyFrom : zm_Y := (cX4_copyFrom, RX4, 2, none)
set_option maxRecDepth 100000 in
theorem calX4_copyFrom : zm_cal yX4_copyFrom mX4_copyFrom 1 := ⟨zm_inT 754 (by rfl) (by rfl), zm_inT 122 (by decide +kernel) (by decide +kernel), by decide +kernel, by decide⟩
theorem stX4_copyFrom : Cond.instanceMethod yX4_copyFrom ∈ zm_T ∧ Cond.selects (yX4_copyFrom).cls yX4_copyFrom yX4_copyFrom ∈ zm_T := ⟨zm_inT 753 (by decide +kernel) (by decide +kernel), zm_inT 28 (by decide +kernel) (by decide +kernel)⟩
def mX4_worth : zm_Y := (cX4_worth, RX4, 8, (some .long))
set_option maxRecDepth 100000 in
theorem calX4_worth : zm_cal yX4_worth mX4_worth 2 := ⟨zm_inT 927 (by rfl) (by rfl), zm_inT 122 (by decide +kernel) (by decide +kernel), by decide +kernel, by decide⟩
theorem stX4_worth : Cond.instanceMethod yX4_worth ∈ zm_T ∧ Cond.selects (yX4_worth).cls yX4_worth yX4_worth ∈ zm_T := ⟨zm_inT 926 (by decide +kernel) (by decide +kernel), zm_inT 52 (by decide +kernel) (by decide +kernel)⟩
def mX4_joined : zm_Y := (cX4_joined, RX4, 5, (some .long))
set_option maxRecDepth 100000 in
theorem calX4_joined : zm_cal yX4_joined mX4_joined 3 := ⟨zm_inT 934 (by rfl) (by rfl), zm_inT 122 (by decide +kernel) (by decide +kernel), by decide +kernel, by decide⟩
theorem stX4_joined : Cond.static yX4_joined ∈ zm_T := zm_inT 933 (by decide +kernel) (by decide +kernel)
def mX4_product : zm_Y := (cX4_product, RX4, 8, (some .long))
set_option maxRecDepth 100000 in
theorem calX4_product : zm_cal yX4_product mX4_product 2 := ⟨zm_inT 937 (by rfl) (by rfl), zm_inT 122 (by decide +kernel) (by decide +kernel), by decide +kernel, by decide⟩
theorem stX4_product : Cond.static yX4_product ∈ zm_T := zm_inT 936 (by decide +kernel) (by decide +kernel)
def mX5_init : zm_Y := (cX5_init, RX5, 1, none)
set_option maxRecDepth 100000 in
theorem calX5_init : zm_cal yX5_init mX5_init 0 := ⟨zm_inT 390 (by rfl) (by rfl), zm_inT 125 (by decide +kernel) (by decide +kernel), by decide +kernel, by decide⟩
def mX5_addReport : zm_Y := (cX5_addReport, RX5, 4, (some .int))
set_option maxRecDepth 100000 in
theorem calX5_addReport : zm_cal yX5_addReport mX5_addReport 3 := ⟨zm_inT 1060 (by rfl) (by rfl), zm_inT 125 (by decide +kernel) (by decide +kernel), by decide +kernel, by decide⟩
theorem stX5_addReport : Cond.instanceMethod yX5_addReport ∈ zm_T ∧ Cond.selects (yX5_addReport).cls yX5_addReport yX5_addReport ∈ zm_T := ⟨zm_inT 1059 (by decide +kernel) (by decide +kernel), zm_inT 70 (by decide +kernel) (by decide +kernel)⟩
def mX5_addStrike : zm_Y := (cX5_addStrike, RX5, 2, (some .int))
set_option maxRecDepth 100000 in
theorem calX5_addStrike : zm_cal yX5_addStrike mX5_addStrike 1 := ⟨zm_inT 1068 (by rfl) (by rfl), zm_inT 125 (by decide +kernel) (by decide +kernel), by decide +kernel, by decide⟩
theorem stX5_addStrike : Cond.instanceMethod yX5_addStrike ∈ zm_T ∧ Cond.selects (yX5_addStrike).cls yX5_addStrike yX5_addStrike ∈ zm_T := ⟨zm_inT 1067 (by decide +kernel) (by decide +kernel), zm_inT 71 (by decide +kernel) (by decide +kernel)⟩
def mX5_settle : zm_Y := (cX5_settle, RX5, 5, none)
set_option maxRecDepth 100000 in
theorem calX5_settle : zm_cal yX5_settle mX5_settle 1 := ⟨zm_inT 1076 (by rfl) (by rfl), zm_inT 125 (by decide +kernel) (by decide +kernel), by decide +kernel, by decide⟩
theorem stX5_settle : Cond.instanceMethod yX5_settle ∈ zm_T ∧ Cond.selects (yX5_settle).cls yX5_settle yX5_settle ∈ zm_T := ⟨zm_inT 1075 (by decide +kernel) (by decide +kernel), zm_inT 72 (by decide +kernel) (by decide +kernel)⟩
def mX5_known : zm_Y := (cX5_known, RX5, 3, (some .int))
set_option maxRecDepth 100000 in
theorem calX5_known : zm_cal yX5_known mX5_known 2 := ⟨zm_inT 1081 (by rfl) (by rfl), zm_inT 125 (by decide +kernel) (by decide +kernel), by decide +kernel, by decide⟩
theorem stX5_known : Cond.instanceMethod yX5_known ∈ zm_T ∧ Cond.selects (yX5_known).cls yX5_known yX5_known ∈ zm_T := ⟨zm_inT 1080 (by decide +kernel) (by decide +kernel), zm_inT 73 (by decide +kernel) (by decide +kernel)⟩
def mX6_init : zm_Y := (cX6_init, RX6, 2, none)
set_option maxRecDepth 100000 in
theorem calX6_init : zm_cal yX6_init mX6_init 1 := ⟨zm_inT 323 (by rfl) (by rfl), zm_inT 123 (by decide +kernel) (by decide +kernel), by decide +kernel, by decide⟩
def mX6_readText : zm_Y := (cX6_readText, RX6, 3, (some .boolean))
set_option maxRecDepth 100000 in
theorem calX6_readText : zm_cal yX6_readText mX6_readText 1 := ⟨zm_inT 577 (by rfl) (by rfl), zm_inT 123 (by decide +kernel) (by decide +kernel), by decide +kernel, by decide⟩
theorem stX6_readText : Cond.instanceMethod yX6_readText ∈ zm_T ∧ Cond.selects (yX6_readText).cls yX6_readText yX6_readText ∈ zm_T := ⟨zm_inT 576 (by decide +kernel) (by decide +kernel), zm_inT 1 (by decide +kernel) (by decide +kernel)⟩
def mX6_failed : zm_Y := (cX6_failed, RX6, 2, (some .boolean))
set_option maxRecDepth 100000 in
theorem calX6_failed : zm_cal yX6_failed mX6_failed 1 := ⟨zm_inT 686 (by rfl) (by rfl), zm_inT 123 (by decide +kernel) (by decide +kernel), by decide +kernel, by decide⟩
theorem stX6_failed : Cond.instanceMethod yX6_failed ∈ zm_T ∧ Cond.selects (yX6_failed).cls yX6_failed yX6_failed ∈ zm_T := ⟨zm_inT 685 (by decide +kernel) (by decide +kernel), zm_inT 14 (by decide +kernel) (by decide +kernel)⟩
def mX6_readLine : zm_Y := (cX6_readLine, RX6, 2, (some .boolean))
set_option maxRecDepth 100000 in
theorem calX6_readLine : zm_cal yX6_readLine mX6_readLine 0 := ⟨zm_inT 621 (by rfl) (by rfl), zm_inT 123 (by decide +kernel) (by decide +kernel), by decide +kernel, by decide⟩
theorem stX6_readLine : Cond.instanceMethod yX6_readLine ∈ zm_T ∧ Cond.selects (yX6_readLine).cls yX6_readLine yX6_readLine ∈ zm_T := ⟨zm_inT 620 (by decide +kernel) (by decide +kernel), zm_inT 10 (by decide +kernel) (by decide +kernel)⟩
def mX6_readSetting : zm_Y := (cX6_readSetting, RX6, 3, (some .boolean))
set_option maxRecDepth 100000 in
theorem calX6_readSetting : zm_cal yX6_readSetting mX6_readSetting 1 := ⟨zm_inT 690 (by rfl) (by rfl), zm_inT 123 (by decide +kernel) (by decide +kernel), by decide +kernel, by decide⟩
theorem stX6_readSetting : Cond.instanceMethod yX6_readSetting ∈ zm_T ∧ Cond.selects (yX6_readSetting).cls yX6_readSetting yX6_readSetting ∈ zm_T := ⟨zm_inT 689 (by decide +kernel) (by decide +kernel), zm_inT 15 (by decide +kernel) (by decide +kernel)⟩
def mX6_readExpression : zm_Y := (cX6_readExpression, RX6, 5, (some .boolean))
set_option maxRecDepth 100000 in
theorem calX6_readExpression : zm_cal yX6_readExpression mX6_readExpression 1 := ⟨zm_inT 697 (by rfl) (by rfl), zm_inT 123 (by decide +kernel) (by decide +kernel), by decide +kernel, by decide⟩
theorem stX6_readExpression : Cond.instanceMethod yX6_readExpression ∈ zm_T ∧ Cond.selects (yX6_readExpression).cls yX6_readExpression yX6_readExpression ∈ zm_T := ⟨zm_inT 696 (by decide +kernel) (by decide +kernel), zm_inT 16 (by decide +kernel) (by decide +kernel)⟩
def mX6_readPart : zm_Y := (cX6_readPart, RX6, 3, (some .boolean))
set_option maxRecDepth 100000 in
theorem calX6_readPart : zm_cal yX6_readPart mX6_readPart 2 := ⟨zm_inT 707 (by rfl) (by rfl), zm_inT 123 (by decide +kernel) (by decide +kernel), by decide +kernel, by decide⟩
theorem stX6_readPart : Cond.instanceMethod yX6_readPart ∈ zm_T ∧ Cond.selects (yX6_readPart).cls yX6_readPart yX6_readPart ∈ zm_T := ⟨zm_inT 706 (by decide +kernel) (by decide +kernel), zm_inT 18 (by decide +kernel) (by decide +kernel)⟩
def mX6_readName : zm_Y := (cX6_readName, RX6, 2, (some .boolean))
set_option maxRecDepth 100000 in
theorem calX6_readName : zm_cal yX6_readName mX6_readName 1 := ⟨zm_inT 720 (by rfl) (by rfl), zm_inT 123 (by decide +kernel) (by decide +kernel), by decide +kernel, by decide⟩
theorem stX6_readName : Cond.instanceMethod yX6_readName ∈ zm_T ∧ Cond.selects (yX6_readName).cls yX6_readName yX6_readName ∈ zm_T := ⟨zm_inT 719 (by decide +kernel) (by decide +kernel), zm_inT 21 (by decide +kernel) (by decide +kernel)⟩
def mX6_openBracket : zm_Y := (cX6_openBracket, RX6, 1, (some .boolean))
set_option maxRecDepth 100000 in
theorem calX6_openBracket : zm_cal yX6_openBracket mX6_openBracket 0 := ⟨zm_inT 724 (by rfl) (by rfl), zm_inT 123 (by decide +kernel) (by decide +kernel), by decide +kernel, by decide⟩
theorem stX6_openBracket : Cond.instanceMethod yX6_openBracket ∈ zm_T ∧ Cond.selects (yX6_openBracket).cls yX6_openBracket yX6_openBracket ∈ zm_T := ⟨zm_inT 723 (by decide +kernel) (by decide +kernel), zm_inT 22 (by decide +kernel) (by decide +kernel)⟩
def mX6_closeBracket : zm_Y := (cX6_closeBracket, RX6, 1, none)
set_option maxRecDepth 100000 in
theorem calX6_closeBracket : zm_cal yX6_closeBracket mX6_closeBracket 0 := ⟨zm_inT 743 (by rfl) (by rfl), zm_inT 123 (by decide +kernel) (by decide +kernel), by decide +kernel, by decide⟩
theorem stX6_closeBracket : Cond.instanceMethod yX6_closeBracket ∈ zm_T ∧ Cond.selects (yX6_closeBracket).cls yX6_closeBracket yX6_closeBracket ∈ zm_T := ⟨zm_inT 742 (by decide +kernel) (by decide +kernel), zm_inT 26 (by decide +kernel) (by decide +kernel)⟩
def mX6_notMayStand : zm_Y := (cX6_notMayStand, RX6, 1, (some .boolean))
set_option maxRecDepth 100000 in
theorem calX6_notMayStand : zm_cal yX6_notMayStand mX6_notMayStand 0 := ⟨zm_inT 732 (by rfl) (by rfl), zm_inT 123 (by decide +kernel) (by decide +kernel), by decide +kernel, by decide⟩
theorem stX6_notMayStand : Cond.instanceMethod yX6_notMayStand ∈ zm_T ∧ Cond.selects (yX6_notMayStand).cls yX6_notMayStand yX6_notMayStand ∈ zm_T := ⟨zm_inT 731 (by decide +kernel) (by decide +kernel), zm_inT 24 (by decide +kernel) (by decide +kernel)⟩
def mX6_readJoin : zm_Y := (cX6_readJoin, RX6, 3, (some .boolean))
set_option maxRecDepth 100000 in
theorem calX6_readJoin : zm_cal yX6_readJoin mX6_readJoin 1 := ⟨zm_inT 747 (by rfl) (by rfl), zm_inT 123 (by decide +kernel) (by decide +kernel), by decide +kernel, by decide⟩
theorem stX6_readJoin : Cond.instanceMethod yX6_readJoin ∈ zm_T ∧ Cond.selects (yX6_readJoin).cls yX6_readJoin yX6_readJoin ∈ zm_T := ⟨zm_inT 746 (by decide +kernel) (by decide +kernel), zm_inT 27 (by decide +kernel) (by decide +kernel)⟩
def mX6_countKnot : zm_Y := (cX6_countKnot, RX6, 1, (some .boolean))
set_option maxRecDepth 100000 in
theorem calX6_countKnot : zm_cal yX6_countKnot mX6_countKnot 0 := ⟨zm_inT 712 (by rfl) (by rfl), zm_inT 123 (by decide +kernel) (by decide +kernel), by decide +kernel, by decide⟩
theorem stX6_countKnot : Cond.instanceMethod yX6_countKnot ∈ zm_T ∧ Cond.selects (yX6_countKnot).cls yX6_countKnot yX6_countKnot ∈ zm_T := ⟨zm_inT 711 (by decide +kernel) (by decide +kernel), zm_inT 19 (by decide +kernel) (by decide +kernel)⟩
def mX6_putWaiting : zm_Y := (cX6_putWaiting, RX6, 2, (some .boolean))
set_option maxRecDepth 100000 in
theorem calX6_putWaiting : zm_cal yX6_putWaiting mX6_putWaiting 1 := ⟨zm_inT 728 (by rfl) (by rfl), zm_inT 123 (by decide +kernel) (by decide +kernel), by decide +kernel, by decide⟩
theorem stX6_putWaiting : Cond.instanceMethod yX6_putWaiting ∈ zm_T ∧ Cond.selects (yX6_putWaiting).cls yX6_putWaiting yX6_putWaiting ∈ zm_T := ⟨zm_inT 727 (by decide +kernel) (by decide +kernel), zm_inT 23 (by decide +kernel) (by decide +kernel)⟩
def mX6_write : zm_Y := (cX6_write, RX6, 3, (some .boolean))
set_option maxRecDepth 100000 in
theorem calX6_write : zm_cal yX6_write mX6_write 2 := ⟨zm_inT 716 (by rfl) (by rfl), zm_inT 123 (by decide +kernel) (by decide +kernel), by decide +kernel, by decide⟩
theorem stX6_write : Cond.instanceMethod yX6_write ∈ zm_T ∧ Cond.selects (yX6_write).cls yX6_write yX6_write ∈ zm_T := ⟨zm_inT 715 (by decide +kernel) (by decide +kernel), zm_inT 20 (by decide +kernel) (by decide +kernel)⟩
def mX6_writeWaiting : zm_Y := (cX6_writeWaiting, RX6, 4, none)
set_option maxRecDepth 100000 in
theorem calX6_writeWaiting : zm_cal yX6_writeWaiting mX6_writeWaiting 1 := ⟨zm_inT 739 (by rfl) (by rfl), zm_inT 123 (by decide +kernel) (by decide +kernel), by decide +kernel, by decide⟩
theorem stX6_writeWaiting : Cond.instanceMethod yX6_writeWaiting ∈ zm_T ∧ Cond.selects (yX6_writeWaiting).cls yX6_writeWaiting yX6_writeWaiting ∈ zm_T := ⟨zm_inT 738 (by decide +kernel) (by decide +kernel), zm_inT 25 (by decide +kernel) (by decide +kernel)⟩
def mX7_init : zm_Y := (cX7_init, RX7, 1, none)
set_option maxRecDepth 100000 in
theorem calX7_init : zm_cal yX7_init mX7_init 0 := ⟨zm_inT 223 (by rfl) (by rfl), zm_inT 121 (by decide +kernel) (by decide +kernel), by decide +kernel, by decide⟩
def mX7_addEntry : zm_Y := (cX7_addEntry, RX7, 5, (some .int))
set_option maxRecDepth 100000 in
theorem calX7_addEntry : zm_cal yX7_addEntry mX7_addEntry 4 := ⟨zm_inT 843 (by rfl) (by rfl), zm_inT 121 (by decide +kernel) (by decide +kernel), by decide +kernel, by decide⟩
theorem stX7_addEntry : Cond.instanceMethod yX7_addEntry ∈ zm_T ∧ Cond.selects (yX7_addEntry).cls yX7_addEntry yX7_addEntry ∈ zm_T := ⟨zm_inT 842 (by decide +kernel) (by decide +kernel), zm_inT 37 (by decide +kernel) (by decide +kernel)⟩
def mX7_addHand : zm_Y := (cX7_addHand, RX7, 4, (some .int))
set_option maxRecDepth 100000 in
theorem calX7_addHand : zm_cal yX7_addHand mX7_addHand 3 := ⟨zm_inT 851 (by rfl) (by rfl), zm_inT 121 (by decide +kernel) (by decide +kernel), by decide +kernel, by decide⟩
theorem stX7_addHand : Cond.instanceMethod yX7_addHand ∈ zm_T ∧ Cond.selects (yX7_addHand).cls yX7_addHand yX7_addHand ∈ zm_T := ⟨zm_inT 850 (by decide +kernel) (by decide +kernel), zm_inT 38 (by decide +kernel) (by decide +kernel)⟩
def mX7_hasPlan : zm_Y := (cX7_hasPlan, RX7, 3, (some .boolean))
set_option maxRecDepth 100000 in
theorem calX7_hasPlan : zm_cal yX7_hasPlan mX7_hasPlan 2 := ⟨zm_inT 898 (by rfl) (by rfl), zm_inT 121 (by decide +kernel) (by decide +kernel), by decide +kernel, by decide⟩
theorem stX7_hasPlan : Cond.instanceMethod yX7_hasPlan ∈ zm_T ∧ Cond.selects (yX7_hasPlan).cls yX7_hasPlan yX7_hasPlan ∈ zm_T := ⟨zm_inT 897 (by decide +kernel) (by decide +kernel), zm_inT 46 (by decide +kernel) (by decide +kernel)⟩
def mX7_cutEntries : zm_Y := (cX7_cutEntries, RX7, 3, none)
set_option maxRecDepth 100000 in
theorem calX7_cutEntries : zm_cal yX7_cutEntries mX7_cutEntries 1 := ⟨zm_inT 859 (by rfl) (by rfl), zm_inT 121 (by decide +kernel) (by decide +kernel), by decide +kernel, by decide⟩
theorem stX7_cutEntries : Cond.instanceMethod yX7_cutEntries ∈ zm_T ∧ Cond.selects (yX7_cutEntries).cls yX7_cutEntries yX7_cutEntries ∈ zm_T := ⟨zm_inT 858 (by decide +kernel) (by decide +kernel), zm_inT 39 (by decide +kernel) (by decide +kernel)⟩
def mX7_dropVan : zm_Y := (cX7_dropVan, RX7, 2, none)
set_option maxRecDepth 100000 in
theorem calX7_dropVan : zm_cal yX7_dropVan mX7_dropVan 1 := ⟨zm_inT 864 (by rfl) (by rfl), zm_inT 121 (by decide +kernel) (by decide +kernel), by decide +kernel, by decide⟩
theorem stX7_dropVan : Cond.instanceMethod yX7_dropVan ∈ zm_T ∧ Cond.selects (yX7_dropVan).cls yX7_dropVan yX7_dropVan ∈ zm_T := ⟨zm_inT 863 (by decide +kernel) (by decide +kernel), zm_inT 40 (by decide +kernel) (by decide +kernel)⟩
def mX7_takeOthers : zm_Y := (cX7_takeOthers, RX7, 5, none)
set_option maxRecDepth 100000 in
theorem calX7_takeOthers : zm_cal yX7_takeOthers mX7_takeOthers 2 := ⟨zm_inT 868 (by rfl) (by rfl), zm_inT 121 (by decide +kernel) (by decide +kernel), by decide +kernel, by decide⟩
theorem stX7_takeOthers : Cond.instanceMethod yX7_takeOthers ∈ zm_T ∧ Cond.selects (yX7_takeOthers).cls yX7_takeOthers yX7_takeOthers ∈ zm_T := ⟨zm_inT 867 (by decide +kernel) (by decide +kernel), zm_inT 41 (by decide +kernel) (by decide +kernel)⟩
def mX7_takeHands : zm_Y := (cX7_takeHands, RX7, 4, none)
set_option maxRecDepth 100000 in
theorem calX7_takeHands : zm_cal yX7_takeHands mX7_takeHands 1 := ⟨zm_inT 1025 (by rfl) (by rfl), zm_inT 121 (by decide +kernel) (by decide +kernel), by decide +kernel, by decide⟩
theorem stX7_takeHands : Cond.instanceMethod yX7_takeHands ∈ zm_T ∧ Cond.selects (yX7_takeHands).cls yX7_takeHands yX7_takeHands ∈ zm_T := ⟨zm_inT 1024 (by decide +kernel) (by decide +kernel), zm_inT 65 (by decide +kernel) (by decide +kernel)⟩
def mX8_init : zm_Y := (cX8_init, RX8, 4, none)
set_option maxRecDepth 100000 in
theorem calX8_init : zm_cal yX8_init mX8_init 3 := ⟨zm_inT 491 (by rfl) (by rfl), zm_inT 127 (by decide +kernel) (by decide +kernel), by decide +kernel, by decide⟩
def mX8_choicesInNight : zm_Y := (cX8_choicesInNight, RX8, 1, (some .int))
set_option maxRecDepth 100000 in
theorem calX8_choicesInNight : zm_cal yX8_choicesInNight mX8_choicesInNight 0 := ⟨zm_inT 1016 (by rfl) (by rfl), zm_inT 127 (by decide +kernel) (by decide +kernel), by decide +kernel, by decide⟩
theorem stX8_choicesInNight : Cond.instanceMethod yX8_choicesInNight ∈ zm_T ∧ Cond.selects (yX8_choicesInNight).cls yX8_choicesInNight yX8_choicesInNight ∈ zm_T := ⟨zm_inT 1015 (by decide +kernel) (by decide +kernel), zm_inT 63 (by decide +kernel) (by decide +kernel)⟩
def mX8_rowsFor : zm_Y := (cX8_rowsFor, RX8, 4, (some .int))
set_option maxRecDepth 100000 in
theorem calX8_rowsFor : zm_cal yX8_rowsFor mX8_rowsFor 1 := ⟨zm_inT 1012 (by rfl) (by rfl), zm_inT 127 (by decide +kernel) (by decide +kernel), by decide +kernel, by decide⟩
theorem stX8_rowsFor : Cond.instanceMethod yX8_rowsFor ∈ zm_T ∧ Cond.selects (yX8_rowsFor).cls yX8_rowsFor yX8_rowsFor ∈ zm_T := ⟨zm_inT 1011 (by decide +kernel) (by decide +kernel), zm_inT 62 (by decide +kernel) (by decide +kernel)⟩
def mX8_seek : zm_Y := (cX8_seek, RX8, 7, none)
set_option maxRecDepth 100000 in
theorem calX8_seek : zm_cal yX8_seek mX8_seek 3 := ⟨zm_inT 1020 (by rfl) (by rfl), zm_inT 127 (by decide +kernel) (by decide +kernel), by decide +kernel, by decide⟩
theorem stX8_seek : Cond.instanceMethod yX8_seek ∈ zm_T ∧ Cond.selects (yX8_seek).cls yX8_seek yX8_seek ∈ zm_T := ⟨zm_inT 1019 (by decide +kernel) (by decide +kernel), zm_inT 64 (by decide +kernel) (by decide +kernel)⟩
def mX8_choose : zm_Y := (cX8_choose, RX8, 8, none)
set_option maxRecDepth 100000 in
theorem calX8_choose : zm_cal yX8_choose mX8_choose 2 := ⟨zm_inT 1031 (by rfl) (by rfl), zm_inT 127 (by decide +kernel) (by decide +kernel), by decide +kernel, by decide⟩
theorem stX8_choose : Cond.instanceMethod yX8_choose ∈ zm_T ∧ Cond.selects (yX8_choose).cls yX8_choose yX8_choose ∈ zm_T := ⟨zm_inT 1030 (by decide +kernel) (by decide +kernel), zm_inT 66 (by decide +kernel) (by decide +kernel)⟩
def mX8_layTrial : zm_Y := (cX8_layTrial, RX8, 4, none)
set_option maxRecDepth 100000 in
theorem calX8_layTrial : zm_cal yX8_layTrial mX8_layTrial 2 := ⟨zm_inT 1037 (by rfl) (by rfl), zm_inT 127 (by decide +kernel) (by decide +kernel), by decide +kernel, by decide⟩
theorem stX8_layTrial : Cond.instanceMethod yX8_layTrial ∈ zm_T ∧ Cond.selects (yX8_layTrial).cls yX8_layTrial yX8_layTrial ∈ zm_T := ⟨zm_inT 1036 (by decide +kernel) (by decide +kernel), zm_inT 67 (by decide +kernel) (by decide +kernel)⟩
def mX8_isBetter : zm_Y := (cX8_isBetter, RX8, 2, (some .boolean))
set_option maxRecDepth 100000 in
theorem calX8_isBetter : zm_cal yX8_isBetter mX8_isBetter 0 := ⟨zm_inT 1044 (by rfl) (by rfl), zm_inT 127 (by decide +kernel) (by decide +kernel), by decide +kernel, by decide⟩
theorem stX8_isBetter : Cond.instanceMethod yX8_isBetter ∈ zm_T ∧ Cond.selects (yX8_isBetter).cls yX8_isBetter yX8_isBetter ∈ zm_T := ⟨zm_inT 1043 (by decide +kernel) (by decide +kernel), zm_inT 68 (by decide +kernel) (by decide +kernel)⟩
def mX8_keep : zm_Y := (cX8_keep, RX8, 2, none)
set_option maxRecDepth 100000 in
theorem calX8_keep : zm_cal yX8_keep mX8_keep 0 := ⟨zm_inT 1048 (by rfl) (by rfl), zm_inT 127 (by decide +kernel) (by decide +kernel), by decide +kernel, by decide⟩
theorem stX8_keep : Cond.instanceMethod yX8_keep ∈ zm_T ∧ Cond.selects (yX8_keep).cls yX8_keep yX8_keep ∈ zm_T := ⟨zm_inT 1047 (by decide +kernel) (by decide +kernel), zm_inT 69 (by decide +kernel) (by decide +kernel)⟩
def mX9_init : zm_Y := (cX9_init, RX9, 2, none)
set_option maxRecDepth 100000 in
theorem calX9_init : zm_cal yX9_init mX9_init 1 := ⟨zm_inT 331 (by rfl) (by rfl), zm_inT 124 (by decide +kernel) (by decide +kernel), by decide +kernel, by decide⟩
def mX9_start : zm_Y := (cX9_start, RX9, 2, none)
set_option maxRecDepth 100000 in
theorem calX9_start : zm_cal yX9_start mX9_start 1 := ⟨zm_inT 581 (by rfl) (by rfl), zm_inT 124 (by decide +kernel) (by decide +kernel), by decide +kernel, by decide⟩
theorem stX9_start : Cond.instanceMethod yX9_start ∈ zm_T ∧ Cond.selects (yX9_start).cls yX9_start yX9_start ∈ zm_T := ⟨zm_inT 580 (by decide +kernel) (by decide +kernel), zm_inT 2 (by decide +kernel) (by decide +kernel)⟩
def mX9_advance : zm_Y := (cX9_advance, RX9, 1, none)
set_option maxRecDepth 100000 in
theorem calX9_advance : zm_cal yX9_advance mX9_advance 0 := ⟨zm_inT 593 (by rfl) (by rfl), zm_inT 124 (by decide +kernel) (by decide +kernel), by decide +kernel, by decide⟩
theorem stX9_advance : Cond.instanceMethod yX9_advance ∈ zm_T ∧ Cond.selects (yX9_advance).cls yX9_advance yX9_advance ∈ zm_T := ⟨zm_inT 592 (by decide +kernel) (by decide +kernel), zm_inT 4 (by decide +kernel) (by decide +kernel)⟩
def mX9_isLetter : zm_Y := (cX9_isLetter, RX9, 2, (some .boolean))
set_option maxRecDepth 100000 in
theorem calX9_isLetter : zm_cal yX9_isLetter mX9_isLetter 1 := ⟨zm_inT 597 (by rfl) (by rfl), zm_inT 124 (by decide +kernel) (by decide +kernel), by decide +kernel, by decide⟩
theorem stX9_isLetter : Cond.instanceMethod yX9_isLetter ∈ zm_T ∧ Cond.selects (yX9_isLetter).cls yX9_isLetter yX9_isLetter ∈ zm_T := ⟨zm_inT 596 (by decide +kernel) (by decide +kernel), zm_inT 5 (by decide +kernel) (by decide +kernel)⟩
def mX9_isDigit : zm_Y := (cX9_isDigit, RX9, 2, (some .boolean))
set_option maxRecDepth 100000 in
theorem calX9_isDigit : zm_cal yX9_isDigit mX9_isDigit 1 := ⟨zm_inT 605 (by rfl) (by rfl), zm_inT 124 (by decide +kernel) (by decide +kernel), by decide +kernel, by decide⟩
theorem stX9_isDigit : Cond.instanceMethod yX9_isDigit ∈ zm_T ∧ Cond.selects (yX9_isDigit).cls yX9_isDigit yX9_isDigit ∈ zm_T := ⟨zm_inT 604 (by decide +kernel) (by decide +kernel), zm_inT 7 (by decide +kernel) (by decide +kernel)⟩
def mX9_readWord : zm_Y := (cX9_readWord, RX9, 1, none)
set_option maxRecDepth 100000 in
theorem calX9_readWord : zm_cal yX9_readWord mX9_readWord 0 := ⟨zm_inT 601 (by rfl) (by rfl), zm_inT 124 (by decide +kernel) (by decide +kernel), by decide +kernel, by decide⟩
theorem stX9_readWord : Cond.instanceMethod yX9_readWord ∈ zm_T ∧ Cond.selects (yX9_readWord).cls yX9_readWord yX9_readWord ∈ zm_T := ⟨zm_inT 600 (by decide +kernel) (by decide +kernel), zm_inT 6 (by decide +kernel) (by decide +kernel)⟩
def mX9_readNumber : zm_Y := (cX9_readNumber, RX9, 1, none)
set_option maxRecDepth 100000 in
theorem calX9_readNumber : zm_cal yX9_readNumber mX9_readNumber 0 := ⟨zm_inT 609 (by rfl) (by rfl), zm_inT 124 (by decide +kernel) (by decide +kernel), by decide +kernel, by decide⟩
theorem stX9_readNumber : Cond.instanceMethod yX9_readNumber ∈ zm_T ∧ Cond.selects (yX9_readNumber).cls yX9_readNumber yX9_readNumber ∈ zm_T := ⟨zm_inT 608 (by decide +kernel) (by decide +kernel), zm_inT 8 (by decide +kernel) (by decide +kernel)⟩
def mX9_readSign : zm_Y := (cX9_readSign, RX9, 1, none)
set_option maxRecDepth 100000 in
theorem calX9_readSign : zm_cal yX9_readSign mX9_readSign 0 := ⟨zm_inT 614 (by rfl) (by rfl), zm_inT 124 (by decide +kernel) (by decide +kernel), by decide +kernel, by decide⟩
theorem stX9_readSign : Cond.instanceMethod yX9_readSign ∈ zm_T ∧ Cond.selects (yX9_readSign).cls yX9_readSign yX9_readSign ∈ zm_T := ⟨zm_inT 613 (by decide +kernel) (by decide +kernel), zm_inT 9 (by decide +kernel) (by decide +kernel)⟩
def mX9_lineWord : zm_Y := (cX9_lineWord, RX9, 1, (some .int))
set_option maxRecDepth 100000 in
theorem calX9_lineWord : zm_cal yX9_lineWord mX9_lineWord 0 := ⟨zm_inT 625 (by rfl) (by rfl), zm_inT 124 (by decide +kernel) (by decide +kernel), by decide +kernel, by decide⟩
theorem stX9_lineWord : Cond.instanceMethod yX9_lineWord ∈ zm_T ∧ Cond.selects (yX9_lineWord).cls yX9_lineWord yX9_lineWord ∈ zm_T := ⟨zm_inT 624 (by decide +kernel) (by decide +kernel), zm_inT 11 (by decide +kernel) (by decide +kernel)⟩
def mX9_readAsPart : zm_Y := (cX9_readAsPart, RX9, 3, none)
set_option maxRecDepth 100000 in
theorem calX9_readAsPart : zm_cal yX9_readAsPart mX9_readAsPart 0 := ⟨zm_inT 701 (by rfl) (by rfl), zm_inT 124 (by decide +kernel) (by decide +kernel), by decide +kernel, by decide⟩
theorem stX9_readAsPart : Cond.instanceMethod yX9_readAsPart ∈ zm_T ∧ Cond.selects (yX9_readAsPart).cls yX9_readAsPart yX9_readAsPart ∈ zm_T := ⟨zm_inT 700 (by decide +kernel) (by decide +kernel), zm_inT 17 (by decide +kernel) (by decide +kernel)⟩
def mX9_wordIn : zm_Y := (cX9_wordIn, RX9, 5, (some .int))
set_option maxRecDepth 100000 in
theorem calX9_wordIn : zm_cal yX9_wordIn mX9_wordIn 1 := ⟨zm_inT 630 (by rfl) (by rfl), zm_inT 124 (by decide +kernel) (by decide +kernel), by decide +kernel, by decide⟩
theorem stX9_wordIn : Cond.instanceMethod yX9_wordIn ∈ zm_T ∧ Cond.selects (yX9_wordIn).cls yX9_wordIn yX9_wordIn ∈ zm_T := ⟨zm_inT 629 (by decide +kernel) (by decide +kernel), zm_inT 12 (by decide +kernel) (by decide +kernel)⟩
def mX9_isWord : zm_Y := (cX9_isWord, RX9, 5, (some .boolean))
set_option maxRecDepth 100000 in
theorem calX9_isWord : zm_cal yX9_isWord mX9_isWord 3 := ⟨zm_inT 682 (by rfl) (by rfl), zm_inT 124 (by decide +kernel) (by decide +kernel), by decide +kernel, by decide⟩
theorem stX9_isWord : Cond.instanceMethod yX9_isWord ∈ zm_T ∧ Cond.selects (yX9_isWord).cls yX9_isWord yX9_isWord ∈ zm_T := ⟨zm_inT 681 (by decide +kernel) (by decide +kernel), zm_inT 13 (by decide +kernel) (by decide +kernel)⟩
def mX10_init : zm_Y := (cX10_init, RX10, 1, none)
set_option maxRecDepth 100000 in
theorem calX10_init : zm_cal yX10_init mX10_init 0 := ⟨zm_inT 145 (by rfl) (by rfl), zm_inT 117 (by decide +kernel) (by decide +kernel), by decide +kernel, by decide⟩
def mX10_feed : zm_Y := (cX10_feed, RX10, 6, (some .int))
set_option maxRecDepth 100000 in
theorem calX10_feed : zm_cal yX10_feed mX10_feed 5 := ⟨zm_inT 565 (by rfl) (by rfl), zm_inT 117 (by decide +kernel) (by decide +kernel), by decide +kernel, by decide⟩
theorem stX10_feed : Cond.instanceMethod yX10_feed ∈ zm_T ∧ Cond.selects (yX10_feed).cls yX10_feed yX10_feed ∈ zm_T := ⟨zm_inT 563 (by decide +kernel) (by decide +kernel), zm_inT 564 (by decide +kernel) (by decide +kernel)⟩
def mX10_putBytes : zm_Y := (cX10_putBytes, RX10, 3, none)
set_option maxRecDepth 100000 in
theorem calX10_putBytes : zm_cal yX10_putBytes mX10_putBytes 1 := ⟨zm_inT 569 (by rfl) (by rfl), zm_inT 117 (by decide +kernel) (by decide +kernel), by decide +kernel, by decide⟩
theorem stX10_putBytes : Cond.instanceMethod yX10_putBytes ∈ zm_T ∧ Cond.selects (yX10_putBytes).cls yX10_putBytes yX10_putBytes ∈ zm_T := ⟨zm_inT 568 (by decide +kernel) (by decide +kernel), zm_inT 0 (by decide +kernel) (by decide +kernel)⟩
def mX10_terms : zm_Y := (cX10_terms, RX10, 2, (some .int))
set_option maxRecDepth 100000 in
theorem calX10_terms : zm_cal yX10_terms mX10_terms 1 := ⟨zm_inT 573 (by rfl) (by rfl), zm_inT 117 (by decide +kernel) (by decide +kernel), by decide +kernel, by decide⟩
theorem stX10_terms : Cond.instanceMethod yX10_terms ∈ zm_T ∧ Cond.selects (yX10_terms).cls yX10_terms yX10_terms ∈ zm_T := ⟨zm_inT 571 (by decide +kernel) (by decide +kernel), zm_inT 572 (by decide +kernel) (by decide +kernel)⟩
def mX10_fault : zm_Y := (cX10_fault, RX10, 2, (some .int))
set_option maxRecDepth 100000 in
theorem calX10_fault : zm_cal yX10_fault mX10_fault 1 := ⟨zm_inT 761 (by rfl) (by rfl), zm_inT 117 (by decide +kernel) (by decide +kernel), by decide +kernel, by decide⟩
theorem stX10_fault : Cond.instanceMethod yX10_fault ∈ zm_T ∧ Cond.selects (yX10_fault).cls yX10_fault yX10_fault ∈ zm_T := ⟨zm_inT 759 (by decide +kernel) (by decide +kernel), zm_inT 760 (by decide +kernel) (by decide +kernel)⟩
def mX10_village : zm_Y := (cX10_village, RX10, 6, (some .int))
set_option maxRecDepth 100000 in
theorem calX10_village : zm_cal yX10_village mX10_village 4 := ⟨zm_inT 765 (by rfl) (by rfl), zm_inT 117 (by decide +kernel) (by decide +kernel), by decide +kernel, by decide⟩
theorem stX10_village : Cond.instanceMethod yX10_village ∈ zm_T ∧ Cond.selects (yX10_village).cls yX10_village yX10_village ∈ zm_T := ⟨zm_inT 763 (by decide +kernel) (by decide +kernel), zm_inT 764 (by decide +kernel) (by decide +kernel)⟩
def mX10_like : zm_Y := (cX10_like, RX10, 4, (some .boolean))
set_option maxRecDepth 100000 in
theorem calX10_like : zm_cal yX10_like mX10_like 3 := ⟨zm_inT 774 (by rfl) (by rfl), zm_inT 117 (by decide +kernel) (by decide +kernel), by decide +kernel, by decide⟩
theorem stX10_like : Cond.instanceMethod yX10_like ∈ zm_T ∧ Cond.selects (yX10_like).cls yX10_like yX10_like ∈ zm_T := ⟨zm_inT 772 (by decide +kernel) (by decide +kernel), zm_inT 773 (by decide +kernel) (by decide +kernel)⟩
def mX10_road : zm_Y := (cX10_road, RX10, 6, (some .int))
set_option maxRecDepth 100000 in
theorem calX10_road : zm_cal yX10_road mX10_road 4 := ⟨zm_inT 783 (by rfl) (by rfl), zm_inT 117 (by decide +kernel) (by decide +kernel), by decide +kernel, by decide⟩
theorem stX10_road : Cond.instanceMethod yX10_road ∈ zm_T ∧ Cond.selects (yX10_road).cls yX10_road yX10_road ∈ zm_T := ⟨zm_inT 781 (by decide +kernel) (by decide +kernel), zm_inT 782 (by decide +kernel) (by decide +kernel)⟩
def mX10_van : zm_Y := (cX10_van, RX10, 2, (some .int))
set_option maxRecDepth 100000 in
theorem calX10_van : zm_cal yX10_van mX10_van 1 := ⟨zm_inT 795 (by rfl) (by rfl), zm_inT 117 (by decide +kernel) (by decide +kernel), by decide +kernel, by decide⟩
theorem stX10_van : Cond.instanceMethod yX10_van ∈ zm_T ∧ Cond.selects (yX10_van).cls yX10_van yX10_van ∈ zm_T := ⟨zm_inT 793 (by decide +kernel) (by decide +kernel), zm_inT 794 (by decide +kernel) (by decide +kernel)⟩
def mX10_broken : zm_Y := (cX10_broken, RX10, 3, (some .boolean))
set_option maxRecDepth 100000 in
theorem calX10_broken : zm_cal yX10_broken mX10_broken 2 := ⟨zm_inT 803 (by rfl) (by rfl), zm_inT 117 (by decide +kernel) (by decide +kernel), by decide +kernel, by decide⟩
theorem stX10_broken : Cond.instanceMethod yX10_broken ∈ zm_T ∧ Cond.selects (yX10_broken).cls yX10_broken yX10_broken ∈ zm_T := ⟨zm_inT 801 (by decide +kernel) (by decide +kernel), zm_inT 802 (by decide +kernel) (by decide +kernel)⟩
def mX10_print : zm_Y := (cX10_print, RX10, 9, (some .int))
set_option maxRecDepth 100000 in
theorem calX10_print : zm_cal yX10_print mX10_print 7 := ⟨zm_inT 812 (by rfl) (by rfl), zm_inT 117 (by decide +kernel) (by decide +kernel), by decide +kernel, by decide⟩
theorem stX10_print : Cond.instanceMethod yX10_print ∈ zm_T ∧ Cond.selects (yX10_print).cls yX10_print yX10_print ∈ zm_T := ⟨zm_inT 810 (by decide +kernel) (by decide +kernel), zm_inT 811 (by decide +kernel) (by decide +kernel)⟩
def mX10_egg : zm_Y := (cX10_egg, RX10, 3, (some .boolean))
set_option maxRecDepth 100000 in
theorem calX10_egg : zm_cal yX10_egg mX10_egg 2 := ⟨zm_inT 820 (by rfl) (by rfl), zm_inT 117 (by decide +kernel) (by decide +kernel), by decide +kernel, by decide⟩
theorem stX10_egg : Cond.instanceMethod yX10_egg ∈ zm_T ∧ Cond.selects (yX10_egg).cls yX10_egg yX10_egg ∈ zm_T := ⟨zm_inT 818 (by decide +kernel) (by decide +kernel), zm_inT 819 (by decide +kernel) (by decide +kernel)⟩
def mX10_way : zm_Y := (cX10_way, RX10, 4, (some .int))
set_option maxRecDepth 100000 in
theorem calX10_way : zm_cal yX10_way mX10_way 3 := ⟨zm_inT 827 (by rfl) (by rfl), zm_inT 117 (by decide +kernel) (by decide +kernel), by decide +kernel, by decide⟩
theorem stX10_way : Cond.instanceMethod yX10_way ∈ zm_T ∧ Cond.selects (yX10_way).cls yX10_way yX10_way ∈ zm_T := ⟨zm_inT 825 (by decide +kernel) (by decide +kernel), zm_inT 826 (by decide +kernel) (by decide +kernel)⟩
def mX10_entry : zm_Y := (cX10_entry, RX10, 6, (some .int))
set_option maxRecDepth 100000 in
theorem calX10_entry : zm_cal yX10_entry mX10_entry 4 := ⟨zm_inT 835 (by rfl) (by rfl), zm_inT 117 (by decide +kernel) (by decide +kernel), by decide +kernel, by decide⟩
theorem stX10_entry : Cond.instanceMethod yX10_entry ∈ zm_T ∧ Cond.selects (yX10_entry).cls yX10_entry yX10_entry ∈ zm_T := ⟨zm_inT 833 (by decide +kernel) (by decide +kernel), zm_inT 834 (by decide +kernel) (by decide +kernel)⟩
def mX10_hand : zm_Y := (cX10_hand, RX10, 5, (some .int))
set_option maxRecDepth 100000 in
theorem calX10_hand : zm_cal yX10_hand mX10_hand 3 := ⟨zm_inT 847 (by rfl) (by rfl), zm_inT 117 (by decide +kernel) (by decide +kernel), by decide +kernel, by decide⟩
theorem stX10_hand : Cond.instanceMethod yX10_hand ∈ zm_T ∧ Cond.selects (yX10_hand).cls yX10_hand yX10_hand ∈ zm_T := ⟨zm_inT 845 (by decide +kernel) (by decide +kernel), zm_inT 846 (by decide +kernel) (by decide +kernel)⟩
def mX10_clear : zm_Y := (cX10_clear, RX10, 3, (some .int))
set_option maxRecDepth 100000 in
theorem calX10_clear : zm_cal yX10_clear mX10_clear 1 := ⟨zm_inT 855 (by rfl) (by rfl), zm_inT 117 (by decide +kernel) (by decide +kernel), by decide +kernel, by decide⟩
theorem stX10_clear : Cond.instanceMethod yX10_clear ∈ zm_T ∧ Cond.selects (yX10_clear).cls yX10_clear yX10_clear ∈ zm_T := ⟨zm_inT 853 (by decide +kernel) (by decide +kernel), zm_inT 854 (by decide +kernel) (by decide +kernel)⟩
def mX10_shown : zm_Y := (cX10_shown, RX10, 4, (some .int))
set_option maxRecDepth 100000 in
theorem calX10_shown : zm_cal yX10_shown mX10_shown 3 := ⟨zm_inT 874 (by rfl) (by rfl), zm_inT 117 (by decide +kernel) (by decide +kernel), by decide +kernel, by decide⟩
theorem stX10_shown : Cond.instanceMethod yX10_shown ∈ zm_T ∧ Cond.selects (yX10_shown).cls yX10_shown yX10_shown ∈ zm_T := ⟨zm_inT 872 (by decide +kernel) (by decide +kernel), zm_inT 873 (by decide +kernel) (by decide +kernel)⟩
def mX10_run : zm_Y := (cX10_run, RX10, 3, (some .int))
set_option maxRecDepth 100000 in
theorem calX10_run : zm_cal yX10_run mX10_run 2 := ⟨zm_inT 981 (by rfl) (by rfl), zm_inT 117 (by decide +kernel) (by decide +kernel), by decide +kernel, by decide⟩
theorem stX10_run : Cond.instanceMethod yX10_run ∈ zm_T ∧ Cond.selects (yX10_run).cls yX10_run yX10_run ∈ zm_T := ⟨zm_inT 979 (by decide +kernel) (by decide +kernel), zm_inT 980 (by decide +kernel) (by decide +kernel)⟩
def mX10_where : zm_Y := (cX10_where, RX10, 4, (some .int))
set_option maxRecDepth 100000 in
theorem calX10_where : zm_cal yX10_where mX10_where 3 := ⟨zm_inT 986 (by rfl) (by rfl), zm_inT 117 (by decide +kernel) (by decide +kernel), by decide +kernel, by decide⟩
theorem stX10_where : Cond.instanceMethod yX10_where ∈ zm_T ∧ Cond.selects (yX10_where).cls yX10_where yX10_where ∈ zm_T := ⟨zm_inT 984 (by decide +kernel) (by decide +kernel), zm_inT 985 (by decide +kernel) (by decide +kernel)⟩
def mX10_printed : zm_Y := (cX10_printed, RX10, 4, (some .int))
set_option maxRecDepth 100000 in
theorem calX10_printed : zm_cal yX10_printed mX10_printed 3 := ⟨zm_inT 990 (by rfl) (by rfl), zm_inT 117 (by decide +kernel) (by decide +kernel), by decide +kernel, by decide⟩
theorem stX10_printed : Cond.instanceMethod yX10_printed ∈ zm_T ∧ Cond.selects (yX10_printed).cls yX10_printed yX10_printed ∈ zm_T := ⟨zm_inT 988 (by decide +kernel) (by decide +kernel), zm_inT 989 (by decide +kernel) (by decide +kernel)⟩
def mX10_expected : zm_Y := (cX10_expected, RX10, 5, (some .long))
set_option maxRecDepth 100000 in
theorem calX10_expected : zm_cal yX10_expected mX10_expected 1 := ⟨zm_inT 995 (by rfl) (by rfl), zm_inT 117 (by decide +kernel) (by decide +kernel), by decide +kernel, by decide⟩
theorem stX10_expected : Cond.instanceMethod yX10_expected ∈ zm_T ∧ Cond.selects (yX10_expected).cls yX10_expected yX10_expected ∈ zm_T := ⟨zm_inT 993 (by decide +kernel) (by decide +kernel), zm_inT 994 (by decide +kernel) (by decide +kernel)⟩
def mX10_round : zm_Y := (cX10_round, RX10, 3, (some .int))
set_option maxRecDepth 100000 in
theorem calX10_round : zm_cal yX10_round mX10_round 2 := ⟨zm_inT 1008 (by rfl) (by rfl), zm_inT 117 (by decide +kernel) (by decide +kernel), by decide +kernel, by decide⟩
theorem stX10_round : Cond.instanceMethod yX10_round ∈ zm_T ∧ Cond.selects (yX10_round).cls yX10_round yX10_round ∈ zm_T := ⟨zm_inT 1006 (by decide +kernel) (by decide +kernel), zm_inT 1007 (by decide +kernel) (by decide +kernel)⟩
def mX10_rounded : zm_Y := (cX10_rounded, RX10, 2, (some .int))
set_option maxRecDepth 100000 in
theorem calX10_rounded : zm_cal yX10_rounded mX10_rounded 1 := ⟨zm_inT 1052 (by rfl) (by rfl), zm_inT 117 (by decide +kernel) (by decide +kernel), by decide +kernel, by decide⟩
theorem stX10_rounded : Cond.instanceMethod yX10_rounded ∈ zm_T ∧ Cond.selects (yX10_rounded).cls yX10_rounded yX10_rounded ∈ zm_T := ⟨zm_inT 1050 (by decide +kernel) (by decide +kernel), zm_inT 1051 (by decide +kernel) (by decide +kernel)⟩
def mX10_report : zm_Y := (cX10_report, RX10, 5, (some .int))
set_option maxRecDepth 100000 in
theorem calX10_report : zm_cal yX10_report mX10_report 3 := ⟨zm_inT 1056 (by rfl) (by rfl), zm_inT 117 (by decide +kernel) (by decide +kernel), by decide +kernel, by decide⟩
theorem stX10_report : Cond.instanceMethod yX10_report ∈ zm_T ∧ Cond.selects (yX10_report).cls yX10_report yX10_report ∈ zm_T := ⟨zm_inT 1054 (by decide +kernel) (by decide +kernel), zm_inT 1055 (by decide +kernel) (by decide +kernel)⟩
def mX10_strike : zm_Y := (cX10_strike, RX10, 2, (some .int))
set_option maxRecDepth 100000 in
theorem calX10_strike : zm_cal yX10_strike mX10_strike 1 := ⟨zm_inT 1064 (by rfl) (by rfl), zm_inT 117 (by decide +kernel) (by decide +kernel), by decide +kernel, by decide⟩
theorem stX10_strike : Cond.instanceMethod yX10_strike ∈ zm_T ∧ Cond.selects (yX10_strike).cls yX10_strike yX10_strike ∈ zm_T := ⟨zm_inT 1062 (by decide +kernel) (by decide +kernel), zm_inT 1063 (by decide +kernel) (by decide +kernel)⟩
def mX10_ends : zm_Y := (cX10_ends, RX10, 6, (some .int))
set_option maxRecDepth 100000 in
theorem calX10_ends : zm_cal yX10_ends mX10_ends 2 := ⟨zm_inT 1072 (by rfl) (by rfl), zm_inT 117 (by decide +kernel) (by decide +kernel), by decide +kernel, by decide⟩
theorem stX10_ends : Cond.instanceMethod yX10_ends ∈ zm_T ∧ Cond.selects (yX10_ends).cls yX10_ends yX10_ends ∈ zm_T := ⟨zm_inT 1070 (by decide +kernel) (by decide +kernel), zm_inT 1071 (by decide +kernel) (by decide +kernel)⟩
def mX10_endOf : zm_Y := (cX10_endOf, RX10, 4, (some .int))
set_option maxRecDepth 100000 in
theorem calX10_endOf : zm_cal yX10_endOf mX10_endOf 3 := ⟨zm_inT 1084 (by rfl) (by rfl), zm_inT 117 (by decide +kernel) (by decide +kernel), by decide +kernel, by decide⟩
theorem stX10_endOf : Cond.static yX10_endOf ∈ zm_T := zm_inT 1083 (by decide +kernel) (by decide +kernel)
def mX10_look : zm_Y := (cX10_look, RX10, 3, (some .int))
set_option maxRecDepth 100000 in
theorem calX10_look : zm_cal yX10_look mX10_look 2 := ⟨zm_inT 1097 (by rfl) (by rfl), zm_inT 117 (by decide +kernel) (by decide +kernel), by decide +kernel, by decide⟩
theorem stX10_look : Cond.instanceMethod yX10_look ∈ zm_T ∧ Cond.selects (yX10_look).cls yX10_look yX10_look ∈ zm_T := ⟨zm_inT 1095 (by decide +kernel) (by decide +kernel), zm_inT 1096 (by decide +kernel) (by decide +kernel)⟩
def mX10_count : zm_Y := (cX10_count, RX10, 2, (some .int))
set_option maxRecDepth 100000 in
theorem calX10_count : zm_cal yX10_count mX10_count 1 := ⟨zm_inT 1088 (by rfl) (by rfl), zm_inT 117 (by decide +kernel) (by decide +kernel), by decide +kernel, by decide⟩
theorem stX10_count : Cond.instanceMethod yX10_count ∈ zm_T ∧ Cond.selects (yX10_count).cls yX10_count yX10_count ∈ zm_T := ⟨zm_inT 1086 (by decide +kernel) (by decide +kernel), zm_inT 1087 (by decide +kernel) (by decide +kernel)⟩
def mX10_isWithin : zm_Y := (cX10_isWithin, RX10, 3, (some .boolean))
set_option maxRecDepth 100000 in
theorem calX10_isWithin : zm_cal yX10_isWithin mX10_isWithin 3 := ⟨zm_inT 693 (by rfl) (by rfl), zm_inT 117 (by decide +kernel) (by decide +kernel), by decide +kernel, by decide⟩
theorem stX10_isWithin : Cond.static yX10_isWithin ∈ zm_T := zm_inT 692 (by decide +kernel) (by decide +kernel)
def mX10_isNight : zm_Y := (cX10_isNight, RX10, 1, (some .boolean))
set_option maxRecDepth 100000 in
theorem calX10_isNight : zm_cal yX10_isNight mX10_isNight 1 := ⟨zm_inT 823 (by rfl) (by rfl), zm_inT 117 (by decide +kernel) (by decide +kernel), by decide +kernel, by decide⟩
theorem stX10_isNight : Cond.static yX10_isNight ∈ zm_T := zm_inT 822 (by decide +kernel) (by decide +kernel)
def mX10_isShut : zm_Y := (cX10_isShut, RX10, 1, (some .boolean))
set_option maxRecDepth 100000 in
theorem calX10_isShut : zm_cal yX10_isShut mX10_isShut 1 := ⟨zm_inT 877 (by rfl) (by rfl), zm_inT 117 (by decide +kernel) (by decide +kernel), by decide +kernel, by decide⟩
theorem stX10_isShut : Cond.static yX10_isShut ∈ zm_T := zm_inT 876 (by decide +kernel) (by decide +kernel)
def mX11_init : zm_Y := (cX11_init, RX11, 1, none)
set_option maxRecDepth 100000 in
theorem calX11_init : zm_cal yX11_init mX11_init 0 := ⟨zm_inT 1184 (by rfl) (by rfl), zm_inT 128 (by decide +kernel) (by decide +kernel), by decide +kernel, by decide⟩
def mX11_thrown : zm_Y := (cX11_thrown, RX11, 1, (some .int))
set_option maxRecDepth 100000 in
theorem calX11_thrown : zm_cal yX11_thrown mX11_thrown 0 := ⟨zm_inT 1463 (by rfl) (by rfl), zm_inT 128 (by decide +kernel) (by decide +kernel), by decide +kernel, by decide⟩
theorem stX11_thrown : Cond.instanceMethod yX11_thrown ∈ zm_T ∧ Cond.selects (yX11_thrown).cls yX11_thrown yX11_thrown ∈ zm_T := ⟨zm_inT 1461 (by decide +kernel) (by decide +kernel), zm_inT 1462 (by decide +kernel) (by decide +kernel)⟩
def mX11_feed : zm_Y := (cX11_feed, RX11, 8, (some .int))
set_option maxRecDepth 100000 in
theorem calX11_feed : zm_cal yX11_feed mX11_feed 5 := ⟨zm_inT 1467 (by rfl) (by rfl), zm_inT 128 (by decide +kernel) (by decide +kernel), by decide +kernel, by decide⟩
theorem stX11_feed : Cond.instanceMethod yX11_feed ∈ zm_T ∧ Cond.selects (yX11_feed).cls yX11_feed yX11_feed ∈ zm_T := ⟨zm_inT 1465 (by decide +kernel) (by decide +kernel), zm_inT 1466 (by decide +kernel) (by decide +kernel)⟩
def mX11_isIn : zm_Y := (cX11_isIn, RX11, 3, (some .boolean))
set_option maxRecDepth 100000 in
theorem calX11_isIn : zm_cal yX11_isIn mX11_isIn 3 := ⟨zm_inT 1474 (by rfl) (by rfl), zm_inT 128 (by decide +kernel) (by decide +kernel), by decide +kernel, by decide⟩
theorem stX11_isIn : Cond.static yX11_isIn ∈ zm_T := zm_inT 1473 (by decide +kernel) (by decide +kernel)
def mX11_isVillage : zm_Y := (cX11_isVillage, RX11, 2, (some .boolean))
set_option maxRecDepth 100000 in
theorem calX11_isVillage : zm_cal yX11_isVillage mX11_isVillage 1 := ⟨zm_inT 1482 (by rfl) (by rfl), zm_inT 128 (by decide +kernel) (by decide +kernel), by decide +kernel, by decide⟩
theorem stX11_isVillage : Cond.instanceMethod yX11_isVillage ∈ zm_T ∧ Cond.selects (yX11_isVillage).cls yX11_isVillage yX11_isVillage ∈ zm_T := ⟨zm_inT 1481 (by decide +kernel) (by decide +kernel), zm_inT 77 (by decide +kernel) (by decide +kernel)⟩
def mX11_village : zm_Y := (cX11_village, RX11, 7, (some .int))
set_option maxRecDepth 100000 in
theorem calX11_village : zm_cal yX11_village mX11_village 4 := ⟨zm_inT 1471 (by rfl) (by rfl), zm_inT 128 (by decide +kernel) (by decide +kernel), by decide +kernel, by decide⟩
theorem stX11_village : Cond.instanceMethod yX11_village ∈ zm_T ∧ Cond.selects (yX11_village).cls yX11_village yX11_village ∈ zm_T := ⟨zm_inT 1469 (by decide +kernel) (by decide +kernel), zm_inT 1470 (by decide +kernel) (by decide +kernel)⟩
def mX11_like : zm_Y := (cX11_like, RX11, 4, (some .boolean))
set_option maxRecDepth 100000 in
theorem calX11_like : zm_cal yX11_like mX11_like 3 := ⟨zm_inT 1478 (by rfl) (by rfl), zm_inT 128 (by decide +kernel) (by decide +kernel), by decide +kernel, by decide⟩
theorem stX11_like : Cond.instanceMethod yX11_like ∈ zm_T ∧ Cond.selects (yX11_like).cls yX11_like yX11_like ∈ zm_T := ⟨zm_inT 1476 (by decide +kernel) (by decide +kernel), zm_inT 1477 (by decide +kernel) (by decide +kernel)⟩
def mX11_road : zm_Y := (cX11_road, RX11, 5, (some .int))
set_option maxRecDepth 100000 in
theorem calX11_road : zm_cal yX11_road mX11_road 4 := ⟨zm_inT 1486 (by rfl) (by rfl), zm_inT 128 (by decide +kernel) (by decide +kernel), by decide +kernel, by decide⟩
theorem stX11_road : Cond.instanceMethod yX11_road ∈ zm_T ∧ Cond.selects (yX11_road).cls yX11_road yX11_road ∈ zm_T := ⟨zm_inT 1484 (by decide +kernel) (by decide +kernel), zm_inT 1485 (by decide +kernel) (by decide +kernel)⟩
def mX11_van : zm_Y := (cX11_van, RX11, 2, (some .int))
set_option maxRecDepth 100000 in
theorem calX11_van : zm_cal yX11_van mX11_van 1 := ⟨zm_inT 1490 (by rfl) (by rfl), zm_inT 128 (by decide +kernel) (by decide +kernel), by decide +kernel, by decide⟩
theorem stX11_van : Cond.instanceMethod yX11_van ∈ zm_T ∧ Cond.selects (yX11_van).cls yX11_van yX11_van ∈ zm_T := ⟨zm_inT 1488 (by decide +kernel) (by decide +kernel), zm_inT 1489 (by decide +kernel) (by decide +kernel)⟩
def mX11_isVan : zm_Y := (cX11_isVan, RX11, 2, (some .boolean))
set_option maxRecDepth 100000 in
theorem calX11_isVan : zm_cal yX11_isVan mX11_isVan 1 := ⟨zm_inT 1498 (by rfl) (by rfl), zm_inT 128 (by decide +kernel) (by decide +kernel), by decide +kernel, by decide⟩
theorem stX11_isVan : Cond.instanceMethod yX11_isVan ∈ zm_T ∧ Cond.selects (yX11_isVan).cls yX11_isVan yX11_isVan ∈ zm_T := ⟨zm_inT 1497 (by decide +kernel) (by decide +kernel), zm_inT 78 (by decide +kernel) (by decide +kernel)⟩
def mX11_broken : zm_Y := (cX11_broken, RX11, 3, (some .boolean))
set_option maxRecDepth 100000 in
theorem calX11_broken : zm_cal yX11_broken mX11_broken 2 := ⟨zm_inT 1494 (by rfl) (by rfl), zm_inT 128 (by decide +kernel) (by decide +kernel), by decide +kernel, by decide⟩
theorem stX11_broken : Cond.instanceMethod yX11_broken ∈ zm_T ∧ Cond.selects (yX11_broken).cls yX11_broken yX11_broken ∈ zm_T := ⟨zm_inT 1492 (by decide +kernel) (by decide +kernel), zm_inT 1493 (by decide +kernel) (by decide +kernel)⟩
def mX11_print : zm_Y := (cX11_print, RX11, 9, (some .int))
set_option maxRecDepth 100000 in
theorem calX11_print : zm_cal yX11_print mX11_print 7 := ⟨zm_inT 1502 (by rfl) (by rfl), zm_inT 128 (by decide +kernel) (by decide +kernel), by decide +kernel, by decide⟩
theorem stX11_print : Cond.instanceMethod yX11_print ∈ zm_T ∧ Cond.selects (yX11_print).cls yX11_print yX11_print ∈ zm_T := ⟨zm_inT 1500 (by decide +kernel) (by decide +kernel), zm_inT 1501 (by decide +kernel) (by decide +kernel)⟩
def mX11_isPrint : zm_Y := (cX11_isPrint, RX11, 2, (some .boolean))
set_option maxRecDepth 100000 in
theorem calX11_isPrint : zm_cal yX11_isPrint mX11_isPrint 1 := ⟨zm_inT 1526 (by rfl) (by rfl), zm_inT 128 (by decide +kernel) (by decide +kernel), by decide +kernel, by decide⟩
theorem stX11_isPrint : Cond.instanceMethod yX11_isPrint ∈ zm_T ∧ Cond.selects (yX11_isPrint).cls yX11_isPrint yX11_isPrint ∈ zm_T := ⟨zm_inT 1525 (by decide +kernel) (by decide +kernel), zm_inT 80 (by decide +kernel) (by decide +kernel)⟩
def mX11_isNight : zm_Y := (cX11_isNight, RX11, 1, (some .boolean))
set_option maxRecDepth 100000 in
theorem calX11_isNight : zm_cal yX11_isNight mX11_isNight 1 := ⟨zm_inT 1509 (by rfl) (by rfl), zm_inT 128 (by decide +kernel) (by decide +kernel), by decide +kernel, by decide⟩
theorem stX11_isNight : Cond.static yX11_isNight ∈ zm_T := zm_inT 1508 (by decide +kernel) (by decide +kernel)
def mX11_egg : zm_Y := (cX11_egg, RX11, 3, (some .boolean))
set_option maxRecDepth 100000 in
theorem calX11_egg : zm_cal yX11_egg mX11_egg 2 := ⟨zm_inT 1506 (by rfl) (by rfl), zm_inT 128 (by decide +kernel) (by decide +kernel), by decide +kernel, by decide⟩
theorem stX11_egg : Cond.instanceMethod yX11_egg ∈ zm_T ∧ Cond.selects (yX11_egg).cls yX11_egg yX11_egg ∈ zm_T := ⟨zm_inT 1504 (by decide +kernel) (by decide +kernel), zm_inT 1505 (by decide +kernel) (by decide +kernel)⟩
def mX11_lay : zm_Y := (cX11_lay, RX11, 8, none)
set_option maxRecDepth 100000 in
theorem calX11_lay : zm_cal yX11_lay mX11_lay 0 := ⟨zm_inT 1517 (by rfl) (by rfl), zm_inT 128 (by decide +kernel) (by decide +kernel), by decide +kernel, by decide⟩
theorem stX11_lay : Cond.instanceMethod yX11_lay ∈ zm_T ∧ Cond.selects (yX11_lay).cls yX11_lay yX11_lay ∈ zm_T := ⟨zm_inT 1516 (by decide +kernel) (by decide +kernel), zm_inT 79 (by decide +kernel) (by decide +kernel)⟩
def mX11_way : zm_Y := (cX11_way, RX11, 5, (some .int))
set_option maxRecDepth 100000 in
theorem calX11_way : zm_cal yX11_way mX11_way 3 := ⟨zm_inT 1513 (by rfl) (by rfl), zm_inT 128 (by decide +kernel) (by decide +kernel), by decide +kernel, by decide⟩
theorem stX11_way : Cond.instanceMethod yX11_way ∈ zm_T ∧ Cond.selects (yX11_way).cls yX11_way yX11_way ∈ zm_T := ⟨zm_inT 1511 (by decide +kernel) (by decide +kernel), zm_inT 1512 (by decide +kernel) (by decide +kernel)⟩
def mX11_entry : zm_Y := (cX11_entry, RX11, 5, (some .int))
set_option maxRecDepth 100000 in
theorem calX11_entry : zm_cal yX11_entry mX11_entry 4 := ⟨zm_inT 1522 (by rfl) (by rfl), zm_inT 128 (by decide +kernel) (by decide +kernel), by decide +kernel, by decide⟩
theorem stX11_entry : Cond.instanceMethod yX11_entry ∈ zm_T ∧ Cond.selects (yX11_entry).cls yX11_entry yX11_entry ∈ zm_T := ⟨zm_inT 1520 (by decide +kernel) (by decide +kernel), zm_inT 1521 (by decide +kernel) (by decide +kernel)⟩
def mX11_sets : zm_Y := (cX11_sets, RX11, 6, none)
set_option maxRecDepth 100000 in
theorem calX11_sets : zm_cal yX11_sets mX11_sets 5 := ⟨zm_inT 1530 (by rfl) (by rfl), zm_inT 128 (by decide +kernel) (by decide +kernel), by decide +kernel, by decide⟩
theorem stX11_sets : Cond.instanceMethod yX11_sets ∈ zm_T ∧ Cond.selects (yX11_sets).cls yX11_sets yX11_sets ∈ zm_T := ⟨zm_inT 1529 (by decide +kernel) (by decide +kernel), zm_inT 81 (by decide +kernel) (by decide +kernel)⟩
def mX11_hand : zm_Y := (cX11_hand, RX11, 4, (some .int))
set_option maxRecDepth 100000 in
theorem calX11_hand : zm_cal yX11_hand mX11_hand 3 := ⟨zm_inT 1534 (by rfl) (by rfl), zm_inT 128 (by decide +kernel) (by decide +kernel), by decide +kernel, by decide⟩
theorem stX11_hand : Cond.instanceMethod yX11_hand ∈ zm_T ∧ Cond.selects (yX11_hand).cls yX11_hand yX11_hand ∈ zm_T := ⟨zm_inT 1532 (by decide +kernel) (by decide +kernel), zm_inT 1533 (by decide +kernel) (by decide +kernel)⟩
def mX11_clear : zm_Y := (cX11_clear, RX11, 4, (some .int))
set_option maxRecDepth 100000 in
theorem calX11_clear : zm_cal yX11_clear mX11_clear 1 := ⟨zm_inT 1538 (by rfl) (by rfl), zm_inT 128 (by decide +kernel) (by decide +kernel), by decide +kernel, by decide⟩
theorem stX11_clear : Cond.instanceMethod yX11_clear ∈ zm_T ∧ Cond.selects (yX11_clear).cls yX11_clear yX11_clear ∈ zm_T := ⟨zm_inT 1536 (by decide +kernel) (by decide +kernel), zm_inT 1537 (by decide +kernel) (by decide +kernel)⟩
def mX11_wrong : zm_Y := (cX11_wrong, RX11, 2, (some .boolean))
set_option maxRecDepth 100000 in
theorem calX11_wrong : zm_cal yX11_wrong mX11_wrong 1 := ⟨zm_inT 1575 (by rfl) (by rfl), zm_inT 128 (by decide +kernel) (by decide +kernel), by decide +kernel, by decide⟩
theorem stX11_wrong : Cond.instanceMethod yX11_wrong ∈ zm_T ∧ Cond.selects (yX11_wrong).cls yX11_wrong yX11_wrong ∈ zm_T := ⟨zm_inT 1574 (by decide +kernel) (by decide +kernel), zm_inT 89 (by decide +kernel) (by decide +kernel)⟩
def mX11_wordAt : zm_Y := (cX11_wordAt, RX11, 8, (some .int))
set_option maxRecDepth 100000 in
theorem calX11_wordAt : zm_cal yX11_wordAt mX11_wordAt 2 := ⟨zm_inT 1554 (by rfl) (by rfl), zm_inT 128 (by decide +kernel) (by decide +kernel), by decide +kernel, by decide⟩
theorem stX11_wordAt : Cond.instanceMethod yX11_wordAt ∈ zm_T ∧ Cond.selects (yX11_wordAt).cls yX11_wordAt yX11_wordAt ∈ zm_T := ⟨zm_inT 1553 (by decide +kernel) (by decide +kernel), zm_inT 84 (by decide +kernel) (by decide +kernel)⟩
def mX11_isSmall : zm_Y := (cX11_isSmall, RX11, 2, (some .boolean))
set_option maxRecDepth 100000 in
theorem calX11_isSmall : zm_cal yX11_isSmall mX11_isSmall 1 := ⟨zm_inT 1550 (by rfl) (by rfl), zm_inT 128 (by decide +kernel) (by decide +kernel), by decide +kernel, by decide⟩
theorem stX11_isSmall : Cond.instanceMethod yX11_isSmall ∈ zm_T ∧ Cond.selects (yX11_isSmall).cls yX11_isSmall yX11_isSmall ∈ zm_T := ⟨zm_inT 1549 (by decide +kernel) (by decide +kernel), zm_inT 83 (by decide +kernel) (by decide +kernel)⟩
def mX11_isDigit : zm_Y := (cX11_isDigit, RX11, 2, (some .boolean))
set_option maxRecDepth 100000 in
theorem calX11_isDigit : zm_cal yX11_isDigit mX11_isDigit 1 := ⟨zm_inT 1558 (by rfl) (by rfl), zm_inT 128 (by decide +kernel) (by decide +kernel), by decide +kernel, by decide⟩
theorem stX11_isDigit : Cond.instanceMethod yX11_isDigit ∈ zm_T ∧ Cond.selects (yX11_isDigit).cls yX11_isDigit yX11_isDigit ∈ zm_T := ⟨zm_inT 1557 (by decide +kernel) (by decide +kernel), zm_inT 85 (by decide +kernel) (by decide +kernel)⟩
def mX11_isAt : zm_Y := (cX11_isAt, RX11, 3, (some .boolean))
set_option maxRecDepth 100000 in
theorem calX11_isAt : zm_cal yX11_isAt mX11_isAt 2 := ⟨zm_inT 1567 (by rfl) (by rfl), zm_inT 128 (by decide +kernel) (by decide +kernel), by decide +kernel, by decide⟩
theorem stX11_isAt : Cond.instanceMethod yX11_isAt ∈ zm_T ∧ Cond.selects (yX11_isAt).cls yX11_isAt yX11_isAt ∈ zm_T := ⟨zm_inT 1566 (by decide +kernel) (by decide +kernel), zm_inT 87 (by decide +kernel) (by decide +kernel)⟩
def mX11_signOf : zm_Y := (cX11_signOf, RX11, 2, (some .int))
set_option maxRecDepth 100000 in
theorem calX11_signOf : zm_cal yX11_signOf mX11_signOf 1 := ⟨zm_inT 1563 (by rfl) (by rfl), zm_inT 128 (by decide +kernel) (by decide +kernel), by decide +kernel, by decide⟩
theorem stX11_signOf : Cond.instanceMethod yX11_signOf ∈ zm_T ∧ Cond.selects (yX11_signOf).cls yX11_signOf yX11_signOf ∈ zm_T := ⟨zm_inT 1562 (by decide +kernel) (by decide +kernel), zm_inT 86 (by decide +kernel) (by decide +kernel)⟩
def mX11_take : zm_Y := (cX11_take, RX11, 2, none)
set_option maxRecDepth 100000 in
theorem calX11_take : zm_cal yX11_take mX11_take 0 := ⟨zm_inT 1546 (by rfl) (by rfl), zm_inT 128 (by decide +kernel) (by decide +kernel), by decide +kernel, by decide⟩
theorem stX11_take : Cond.instanceMethod yX11_take ∈ zm_T ∧ Cond.selects (yX11_take).cls yX11_take yX11_take ∈ zm_T := ⟨zm_inT 1545 (by decide +kernel) (by decide +kernel), zm_inT 82 (by decide +kernel) (by decide +kernel)⟩
def mX11_isSign : zm_Y := (cX11_isSign, RX11, 2, (some .boolean))
set_option maxRecDepth 100000 in
theorem calX11_isSign : zm_cal yX11_isSign mX11_isSign 1 := ⟨zm_inT 1587 (by rfl) (by rfl), zm_inT 128 (by decide +kernel) (by decide +kernel), by decide +kernel, by decide⟩
theorem stX11_isSign : Cond.instanceMethod yX11_isSign ∈ zm_T ∧ Cond.selects (yX11_isSign).cls yX11_isSign yX11_isSign ∈ zm_T := ⟨zm_inT 1586 (by decide +kernel) (by decide +kernel), zm_inT 92 (by decide +kernel) (by decide +kernel)⟩
def mX11_nameNow : zm_Y := (cX11_nameNow, RX11, 1, (some .int))
set_option maxRecDepth 100000 in
theorem calX11_nameNow : zm_cal yX11_nameNow mX11_nameNow 0 := ⟨zm_inT 1603 (by rfl) (by rfl), zm_inT 128 (by decide +kernel) (by decide +kernel), by decide +kernel, by decide⟩
theorem stX11_nameNow : Cond.instanceMethod yX11_nameNow ∈ zm_T ∧ Cond.selects (yX11_nameNow).cls yX11_nameNow yX11_nameNow ∈ zm_T := ⟨zm_inT 1602 (by decide +kernel) (by decide +kernel), zm_inT 96 (by decide +kernel) (by decide +kernel)⟩
def mX11_weight : zm_Y := (cX11_weight, RX11, 1, (some .int))
set_option maxRecDepth 100000 in
theorem calX11_weight : zm_cal yX11_weight mX11_weight 1 := ⟨zm_inT 1618 (by rfl) (by rfl), zm_inT 128 (by decide +kernel) (by decide +kernel), by decide +kernel, by decide⟩
theorem stX11_weight : Cond.static yX11_weight ∈ zm_T := zm_inT 1617 (by decide +kernel) (by decide +kernel)
def mX11_grown : zm_Y := (cX11_grown, RX11, 4, (some .int))
set_option maxRecDepth 100000 in
theorem calX11_grown : zm_cal yX11_grown mX11_grown 2 := ⟨zm_inT 1599 (by rfl) (by rfl), zm_inT 128 (by decide +kernel) (by decide +kernel), by decide +kernel, by decide⟩
theorem stX11_grown : Cond.instanceMethod yX11_grown ∈ zm_T ∧ Cond.selects (yX11_grown).cls yX11_grown yX11_grown ∈ zm_T := ⟨zm_inT 1598 (by decide +kernel) (by decide +kernel), zm_inT 95 (by decide +kernel) (by decide +kernel)⟩
def mX11_done : zm_Y := (cX11_done, RX11, 2, none)
set_option maxRecDepth 100000 in
theorem calX11_done : zm_cal yX11_done mX11_done 1 := ⟨zm_inT 1607 (by rfl) (by rfl), zm_inT 128 (by decide +kernel) (by decide +kernel), by decide +kernel, by decide⟩
theorem stX11_done : Cond.instanceMethod yX11_done ∈ zm_T ∧ Cond.selects (yX11_done).cls yX11_done yX11_done ∈ zm_T := ⟨zm_inT 1606 (by decide +kernel) (by decide +kernel), zm_inT 97 (by decide +kernel) (by decide +kernel)⟩
def mX11_drop : zm_Y := (cX11_drop, RX11, 1, (some .int))
set_option maxRecDepth 100000 in
theorem calX11_drop : zm_cal yX11_drop mX11_drop 0 := ⟨zm_inT 1626 (by rfl) (by rfl), zm_inT 128 (by decide +kernel) (by decide +kernel), by decide +kernel, by decide⟩
theorem stX11_drop : Cond.instanceMethod yX11_drop ∈ zm_T ∧ Cond.selects (yX11_drop).cls yX11_drop yX11_drop ∈ zm_T := ⟨zm_inT 1625 (by decide +kernel) (by decide +kernel), zm_inT 101 (by decide +kernel) (by decide +kernel)⟩
def mX11_bind : zm_Y := (cX11_bind, RX11, 3, none)
set_option maxRecDepth 100000 in
theorem calX11_bind : zm_cal yX11_bind mX11_bind 1 := ⟨zm_inT 1622 (by rfl) (by rfl), zm_inT 128 (by decide +kernel) (by decide +kernel), by decide +kernel, by decide⟩
theorem stX11_bind : Cond.instanceMethod yX11_bind ∈ zm_T ∧ Cond.selects (yX11_bind).cls yX11_bind yX11_bind ∈ zm_T := ⟨zm_inT 1621 (by decide +kernel) (by decide +kernel), zm_inT 100 (by decide +kernel) (by decide +kernel)⟩
def mX11_waitFor : zm_Y := (cX11_waitFor, RX11, 3, none)
set_option maxRecDepth 100000 in
theorem calX11_waitFor : zm_cal yX11_waitFor mX11_waitFor 2 := ⟨zm_inT 1591 (by rfl) (by rfl), zm_inT 128 (by decide +kernel) (by decide +kernel), by decide +kernel, by decide⟩
theorem stX11_waitFor : Cond.instanceMethod yX11_waitFor ∈ zm_T ∧ Cond.selects (yX11_waitFor).cls yX11_waitFor yX11_waitFor ∈ zm_T := ⟨zm_inT 1590 (by decide +kernel) (by decide +kernel), zm_inT 93 (by decide +kernel) (by decide +kernel)⟩
def mX11_ofOne : zm_Y := (cX11_ofOne, RX11, 3, (some .boolean))
set_option maxRecDepth 100000 in
theorem calX11_ofOne : zm_cal yX11_ofOne mX11_ofOne 1 := ⟨zm_inT 1595 (by rfl) (by rfl), zm_inT 128 (by decide +kernel) (by decide +kernel), by decide +kernel, by decide⟩
theorem stX11_ofOne : Cond.instanceMethod yX11_ofOne ∈ zm_T ∧ Cond.selects (yX11_ofOne).cls yX11_ofOne yX11_ofOne ∈ zm_T := ⟨zm_inT 1594 (by decide +kernel) (by decide +kernel), zm_inT 94 (by decide +kernel) (by decide +kernel)⟩
def mX11_valueRead : zm_Y := (cX11_valueRead, RX11, 4, (some .boolean))
set_option maxRecDepth 100000 in
theorem calX11_valueRead : zm_cal yX11_valueRead mX11_valueRead 1 := ⟨zm_inT 1583 (by rfl) (by rfl), zm_inT 128 (by decide +kernel) (by decide +kernel), by decide +kernel, by decide⟩
theorem stX11_valueRead : Cond.instanceMethod yX11_valueRead ∈ zm_T ∧ Cond.selects (yX11_valueRead).cls yX11_valueRead yX11_valueRead ∈ zm_T := ⟨zm_inT 1582 (by decide +kernel) (by decide +kernel), zm_inT 91 (by decide +kernel) (by decide +kernel)⟩
def mX11_signNow : zm_Y := (cX11_signNow, RX11, 1, (some .int))
set_option maxRecDepth 100000 in
theorem calX11_signNow : zm_cal yX11_signNow mX11_signNow 0 := ⟨zm_inT 1611 (by rfl) (by rfl), zm_inT 128 (by decide +kernel) (by decide +kernel), by decide +kernel, by decide⟩
theorem stX11_signNow : Cond.instanceMethod yX11_signNow ∈ zm_T ∧ Cond.selects (yX11_signNow).cls yX11_signNow yX11_signNow ∈ zm_T := ⟨zm_inT 1610 (by decide +kernel) (by decide +kernel), zm_inT 98 (by decide +kernel) (by decide +kernel)⟩
def mX11_joins : zm_Y := (cX11_joins, RX11, 4, (some .boolean))
set_option maxRecDepth 100000 in
theorem calX11_joins : zm_cal yX11_joins mX11_joins 1 := ⟨zm_inT 1615 (by rfl) (by rfl), zm_inT 128 (by decide +kernel) (by decide +kernel), by decide +kernel, by decide⟩
theorem stX11_joins : Cond.instanceMethod yX11_joins ∈ zm_T ∧ Cond.selects (yX11_joins).cls yX11_joins yX11_joins ∈ zm_T := ⟨zm_inT 1614 (by decide +kernel) (by decide +kernel), zm_inT 99 (by decide +kernel) (by decide +kernel)⟩
def mX11_expression : zm_Y := (cX11_expression, RX11, 3, (some .boolean))
set_option maxRecDepth 100000 in
theorem calX11_expression : zm_cal yX11_expression mX11_expression 1 := ⟨zm_inT 1579 (by rfl) (by rfl), zm_inT 128 (by decide +kernel) (by decide +kernel), by decide +kernel, by decide⟩
theorem stX11_expression : Cond.instanceMethod yX11_expression ∈ zm_T ∧ Cond.selects (yX11_expression).cls yX11_expression yX11_expression ∈ zm_T := ⟨zm_inT 1578 (by decide +kernel) (by decide +kernel), zm_inT 90 (by decide +kernel) (by decide +kernel)⟩
def mX11_line : zm_Y := (cX11_line, RX11, 2, (some .boolean))
set_option maxRecDepth 100000 in
theorem calX11_line : zm_cal yX11_line mX11_line 0 := ⟨zm_inT 1571 (by rfl) (by rfl), zm_inT 128 (by decide +kernel) (by decide +kernel), by decide +kernel, by decide⟩
theorem stX11_line : Cond.instanceMethod yX11_line ∈ zm_T ∧ Cond.selects (yX11_line).cls yX11_line yX11_line ∈ zm_T := ⟨zm_inT 1570 (by decide +kernel) (by decide +kernel), zm_inT 88 (by decide +kernel) (by decide +kernel)⟩
def mX11_plain : zm_Y := (cX11_plain, RX11, 2, none)
set_option maxRecDepth 100000 in
theorem calX11_plain : zm_cal yX11_plain mX11_plain 0 := ⟨zm_inT 1189 (by rfl) (by rfl), zm_inT 128 (by decide +kernel) (by decide +kernel), by decide +kernel, by decide⟩
theorem stX11_plain : Cond.instanceMethod yX11_plain ∈ zm_T ∧ Cond.selects (yX11_plain).cls yX11_plain yX11_plain ∈ zm_T := ⟨zm_inT 1188 (by decide +kernel) (by decide +kernel), zm_inT 75 (by decide +kernel) (by decide +kernel)⟩
def mX11_keep : zm_Y := (cX11_keep, RX11, 2, none)
set_option maxRecDepth 100000 in
theorem calX11_keep : zm_cal yX11_keep mX11_keep 0 := ⟨zm_inT 1193 (by rfl) (by rfl), zm_inT 128 (by decide +kernel) (by decide +kernel), by decide +kernel, by decide⟩
theorem stX11_keep : Cond.instanceMethod yX11_keep ∈ zm_T ∧ Cond.selects (yX11_keep).cls yX11_keep yX11_keep ∈ zm_T := ⟨zm_inT 1192 (by decide +kernel) (by decide +kernel), zm_inT 76 (by decide +kernel) (by decide +kernel)⟩
def mX11_terms : zm_Y := (cX11_terms, RX11, 3, (some .int))
set_option maxRecDepth 100000 in
theorem calX11_terms : zm_cal yX11_terms mX11_terms 1 := ⟨zm_inT 1542 (by rfl) (by rfl), zm_inT 128 (by decide +kernel) (by decide +kernel), by decide +kernel, by decide⟩
theorem stX11_terms : Cond.instanceMethod yX11_terms ∈ zm_T ∧ Cond.selects (yX11_terms).cls yX11_terms yX11_terms ∈ zm_T := ⟨zm_inT 1540 (by decide +kernel) (by decide +kernel), zm_inT 1541 (by decide +kernel) (by decide +kernel)⟩
def mX11_fault : zm_Y := (cX11_fault, RX11, 2, (some .int))
set_option maxRecDepth 100000 in
theorem calX11_fault : zm_cal yX11_fault mX11_fault 1 := ⟨zm_inT 1630 (by rfl) (by rfl), zm_inT 128 (by decide +kernel) (by decide +kernel), by decide +kernel, by decide⟩
theorem stX11_fault : Cond.instanceMethod yX11_fault ∈ zm_T ∧ Cond.selects (yX11_fault).cls yX11_fault yX11_fault ∈ zm_T := ⟨zm_inT 1628 (by decide +kernel) (by decide +kernel), zm_inT 1629 (by decide +kernel) (by decide +kernel)⟩
def mX11_truth : zm_Y := (cX11_truth, RX11, 1, (some .long))
set_option maxRecDepth 100000 in
theorem calX11_truth : zm_cal yX11_truth mX11_truth 1 := ⟨zm_inT 1668 (by rfl) (by rfl), zm_inT 128 (by decide +kernel) (by decide +kernel), by decide +kernel, by decide⟩
theorem stX11_truth : Cond.static yX11_truth ∈ zm_T := zm_inT 1667 (by decide +kernel) (by decide +kernel)
def mX11_big : zm_Y := (cX11_big, RX11, 2, (some .long))
set_option maxRecDepth 100000 in
theorem calX11_big : zm_cal yX11_big mX11_big 1 := ⟨zm_inT 1679 (by rfl) (by rfl), zm_inT 128 (by decide +kernel) (by decide +kernel), by decide +kernel, by decide⟩
theorem stX11_big : Cond.static yX11_big ∈ zm_T := zm_inT 1678 (by decide +kernel) (by decide +kernel)
def mX11_bounded : zm_Y := (cX11_bounded, RX11, 3, (some .long))
set_option maxRecDepth 100000 in
theorem calX11_bounded : zm_cal yX11_bounded mX11_bounded 1 := ⟨zm_inT 1676 (by rfl) (by rfl), zm_inT 128 (by decide +kernel) (by decide +kernel), by decide +kernel, by decide⟩
theorem stX11_bounded : Cond.instanceMethod yX11_bounded ∈ zm_T ∧ Cond.selects (yX11_bounded).cls yX11_bounded yX11_bounded ∈ zm_T := ⟨zm_inT 1675 (by decide +kernel) (by decide +kernel), zm_inT 110 (by decide +kernel) (by decide +kernel)⟩
def mX11_made : zm_Y := (cX11_made, RX11, 6, (some .long))
set_option maxRecDepth 100000 in
theorem calX11_made : zm_cal yX11_made mX11_made 3 := ⟨zm_inT 1672 (by rfl) (by rfl), zm_inT 128 (by decide +kernel) (by decide +kernel), by decide +kernel, by decide⟩
theorem stX11_made : Cond.instanceMethod yX11_made ∈ zm_T ∧ Cond.selects (yX11_made).cls yX11_made yX11_made ∈ zm_T := ⟨zm_inT 1671 (by decide +kernel) (by decide +kernel), zm_inT 109 (by decide +kernel) (by decide +kernel)⟩
def mX11_nameValue : zm_Y := (cX11_nameValue, RX11, 2, (some .int))
set_option maxRecDepth 100000 in
theorem calX11_nameValue : zm_cal yX11_nameValue mX11_nameValue 1 := ⟨zm_inT 1665 (by rfl) (by rfl), zm_inT 128 (by decide +kernel) (by decide +kernel), by decide +kernel, by decide⟩
theorem stX11_nameValue : Cond.instanceMethod yX11_nameValue ∈ zm_T ∧ Cond.selects (yX11_nameValue).cls yX11_nameValue yX11_nameValue ∈ zm_T := ⟨zm_inT 1664 (by decide +kernel) (by decide +kernel), zm_inT 108 (by decide +kernel) (by decide +kernel)⟩
def mX11_valueOf : zm_Y := (cX11_valueOf, RX11, 7, (some .long))
set_option maxRecDepth 100000 in
theorem calX11_valueOf : zm_cal yX11_valueOf mX11_valueOf 1 := ⟨zm_inT 1661 (by rfl) (by rfl), zm_inT 128 (by decide +kernel) (by decide +kernel), by decide +kernel, by decide⟩
theorem stX11_valueOf : Cond.instanceMethod yX11_valueOf ∈ zm_T ∧ Cond.selects (yX11_valueOf).cls yX11_valueOf yX11_valueOf ∈ zm_T := ⟨zm_inT 1660 (by decide +kernel) (by decide +kernel), zm_inT 107 (by decide +kernel) (by decide +kernel)⟩
def mX11_within : zm_Y := (cX11_within, RX11, 6, (some .int))
set_option maxRecDepth 100000 in
theorem calX11_within : zm_cal yX11_within mX11_within 3 := ⟨zm_inT 1684 (by rfl) (by rfl), zm_inT 128 (by decide +kernel) (by decide +kernel), by decide +kernel, by decide⟩
theorem stX11_within : Cond.instanceMethod yX11_within ∈ zm_T ∧ Cond.selects (yX11_within).cls yX11_within yX11_within ∈ zm_T := ⟨zm_inT 1683 (by decide +kernel) (by decide +kernel), zm_inT 111 (by decide +kernel) (by decide +kernel)⟩
def mX11_shutOf : zm_Y := (cX11_shutOf, RX11, 2, (some .int))
set_option maxRecDepth 100000 in
theorem calX11_shutOf : zm_cal yX11_shutOf mX11_shutOf 1 := ⟨zm_inT 1653 (by rfl) (by rfl), zm_inT 128 (by decide +kernel) (by decide +kernel), by decide +kernel, by decide⟩
theorem stX11_shutOf : Cond.instanceMethod yX11_shutOf ∈ zm_T ∧ Cond.selects (yX11_shutOf).cls yX11_shutOf yX11_shutOf ∈ zm_T := ⟨zm_inT 1652 (by decide +kernel) (by decide +kernel), zm_inT 105 (by decide +kernel) (by decide +kernel)⟩
def mX11_handsOver : zm_Y := (cX11_handsOver, RX11, 7, none)
set_option maxRecDepth 100000 in
theorem calX11_handsOver : zm_cal yX11_handsOver mX11_handsOver 1 := ⟨zm_inT 1645 (by rfl) (by rfl), zm_inT 128 (by decide +kernel) (by decide +kernel), by decide +kernel, by decide⟩
theorem stX11_handsOver : Cond.instanceMethod yX11_handsOver ∈ zm_T ∧ Cond.selects (yX11_handsOver).cls yX11_handsOver yX11_handsOver ∈ zm_T := ⟨zm_inT 1644 (by decide +kernel) (by decide +kernel), zm_inT 103 (by decide +kernel) (by decide +kernel)⟩
def mX11_causeOf : zm_Y := (cX11_causeOf, RX11, 6, (some .int))
set_option maxRecDepth 100000 in
theorem calX11_causeOf : zm_cal yX11_causeOf mX11_causeOf 5 := ⟨zm_inT 1657 (by rfl) (by rfl), zm_inT 128 (by decide +kernel) (by decide +kernel), by decide +kernel, by decide⟩
theorem stX11_causeOf : Cond.instanceMethod yX11_causeOf ∈ zm_T ∧ Cond.selects (yX11_causeOf).cls yX11_causeOf yX11_causeOf ∈ zm_T := ⟨zm_inT 1656 (by decide +kernel) (by decide +kernel), zm_inT 106 (by decide +kernel) (by decide +kernel)⟩
def mX11_shows : zm_Y := (cX11_shows, RX11, 14, none)
set_option maxRecDepth 100000 in
theorem calX11_shows : zm_cal yX11_shows mX11_shows 1 := ⟨zm_inT 1649 (by rfl) (by rfl), zm_inT 128 (by decide +kernel) (by decide +kernel), by decide +kernel, by decide⟩
theorem stX11_shows : Cond.instanceMethod yX11_shows ∈ zm_T ∧ Cond.selects (yX11_shows).cls yX11_shows yX11_shows ∈ zm_T := ⟨zm_inT 1648 (by decide +kernel) (by decide +kernel), zm_inT 104 (by decide +kernel) (by decide +kernel)⟩
def mX11_lateOf : zm_Y := (cX11_lateOf, RX11, 4, (some .int))
set_option maxRecDepth 100000 in
theorem calX11_lateOf : zm_cal yX11_lateOf mX11_lateOf 1 := ⟨zm_inT 1688 (by rfl) (by rfl), zm_inT 128 (by decide +kernel) (by decide +kernel), by decide +kernel, by decide⟩
theorem stX11_lateOf : Cond.instanceMethod yX11_lateOf ∈ zm_T ∧ Cond.selects (yX11_lateOf).cls yX11_lateOf yX11_lateOf ∈ zm_T := ⟨zm_inT 1687 (by decide +kernel) (by decide +kernel), zm_inT 112 (by decide +kernel) (by decide +kernel)⟩
def mX11_runIt : zm_Y := (cX11_runIt, RX11, 6, none)
set_option maxRecDepth 100000 in
theorem calX11_runIt : zm_cal yX11_runIt mX11_runIt 2 := ⟨zm_inT 1641 (by rfl) (by rfl), zm_inT 128 (by decide +kernel) (by decide +kernel), by decide +kernel, by decide⟩
theorem stX11_runIt : Cond.instanceMethod yX11_runIt ∈ zm_T ∧ Cond.selects (yX11_runIt).cls yX11_runIt yX11_runIt ∈ zm_T := ⟨zm_inT 1640 (by decide +kernel) (by decide +kernel), zm_inT 102 (by decide +kernel) (by decide +kernel)⟩
def mX11_isShut : zm_Y := (cX11_isShut, RX11, 1, (some .boolean))
set_option maxRecDepth 100000 in
theorem calX11_isShut : zm_cal yX11_isShut mX11_isShut 1 := ⟨zm_inT 1637 (by rfl) (by rfl), zm_inT 128 (by decide +kernel) (by decide +kernel), by decide +kernel, by decide⟩
theorem stX11_isShut : Cond.static yX11_isShut ∈ zm_T := zm_inT 1636 (by decide +kernel) (by decide +kernel)
def mX11_shown : zm_Y := (cX11_shown, RX11, 4, (some .int))
set_option maxRecDepth 100000 in
theorem calX11_shown : zm_cal yX11_shown mX11_shown 3 := ⟨zm_inT 1634 (by rfl) (by rfl), zm_inT 128 (by decide +kernel) (by decide +kernel), by decide +kernel, by decide⟩
theorem stX11_shown : Cond.instanceMethod yX11_shown ∈ zm_T ∧ Cond.selects (yX11_shown).cls yX11_shown yX11_shown ∈ zm_T := ⟨zm_inT 1632 (by decide +kernel) (by decide +kernel), zm_inT 1633 (by decide +kernel) (by decide +kernel)⟩
def mX11_run : zm_Y := (cX11_run, RX11, 3, (some .int))
set_option maxRecDepth 100000 in
theorem calX11_run : zm_cal yX11_run mX11_run 2 := ⟨zm_inT 1692 (by rfl) (by rfl), zm_inT 128 (by decide +kernel) (by decide +kernel), by decide +kernel, by decide⟩
theorem stX11_run : Cond.instanceMethod yX11_run ∈ zm_T ∧ Cond.selects (yX11_run).cls yX11_run yX11_run ∈ zm_T := ⟨zm_inT 1690 (by decide +kernel) (by decide +kernel), zm_inT 1691 (by decide +kernel) (by decide +kernel)⟩
def mX11_where : zm_Y := (cX11_where, RX11, 4, (some .int))
set_option maxRecDepth 100000 in
theorem calX11_where : zm_cal yX11_where mX11_where 3 := ⟨zm_inT 1697 (by rfl) (by rfl), zm_inT 128 (by decide +kernel) (by decide +kernel), by decide +kernel, by decide⟩
theorem stX11_where : Cond.instanceMethod yX11_where ∈ zm_T ∧ Cond.selects (yX11_where).cls yX11_where yX11_where ∈ zm_T := ⟨zm_inT 1695 (by decide +kernel) (by decide +kernel), zm_inT 1696 (by decide +kernel) (by decide +kernel)⟩
def mX11_printed : zm_Y := (cX11_printed, RX11, 4, (some .int))
set_option maxRecDepth 100000 in
theorem calX11_printed : zm_cal yX11_printed mX11_printed 3 := ⟨zm_inT 1701 (by rfl) (by rfl), zm_inT 128 (by decide +kernel) (by decide +kernel), by decide +kernel, by decide⟩
theorem stX11_printed : Cond.instanceMethod yX11_printed ∈ zm_T ∧ Cond.selects (yX11_printed).cls yX11_printed yX11_printed ∈ zm_T := ⟨zm_inT 1699 (by decide +kernel) (by decide +kernel), zm_inT 1700 (by decide +kernel) (by decide +kernel)⟩
def mX11_expected : zm_Y := (cX11_expected, RX11, 11, (some .long))
set_option maxRecDepth 100000 in
theorem calX11_expected : zm_cal yX11_expected mX11_expected 1 := ⟨zm_inT 1705 (by rfl) (by rfl), zm_inT 128 (by decide +kernel) (by decide +kernel), by decide +kernel, by decide⟩
theorem stX11_expected : Cond.instanceMethod yX11_expected ∈ zm_T ∧ Cond.selects (yX11_expected).cls yX11_expected yX11_expected ∈ zm_T := ⟨zm_inT 1703 (by decide +kernel) (by decide +kernel), zm_inT 1704 (by decide +kernel) (by decide +kernel)⟩
def mX11_round : zm_Y := (cX11_round, RX11, 14, (some .int))
set_option maxRecDepth 100000 in
theorem calX11_round : zm_cal yX11_round mX11_round 2 := ⟨zm_inT 1711 (by rfl) (by rfl), zm_inT 128 (by decide +kernel) (by decide +kernel), by decide +kernel, by decide⟩
theorem stX11_round : Cond.instanceMethod yX11_round ∈ zm_T ∧ Cond.selects (yX11_round).cls yX11_round yX11_round ∈ zm_T := ⟨zm_inT 1709 (by decide +kernel) (by decide +kernel), zm_inT 1710 (by decide +kernel) (by decide +kernel)⟩
def mX11_rounded : zm_Y := (cX11_rounded, RX11, 2, (some .int))
set_option maxRecDepth 100000 in
theorem calX11_rounded : zm_cal yX11_rounded mX11_rounded 1 := ⟨zm_inT 1716 (by rfl) (by rfl), zm_inT 128 (by decide +kernel) (by decide +kernel), by decide +kernel, by decide⟩
theorem stX11_rounded : Cond.instanceMethod yX11_rounded ∈ zm_T ∧ Cond.selects (yX11_rounded).cls yX11_rounded yX11_rounded ∈ zm_T := ⟨zm_inT 1714 (by decide +kernel) (by decide +kernel), zm_inT 1715 (by decide +kernel) (by decide +kernel)⟩
def mX11_report : zm_Y := (cX11_report, RX11, 4, (some .int))
set_option maxRecDepth 100000 in
theorem calX11_report : zm_cal yX11_report mX11_report 3 := ⟨zm_inT 1720 (by rfl) (by rfl), zm_inT 128 (by decide +kernel) (by decide +kernel), by decide +kernel, by decide⟩
theorem stX11_report : Cond.instanceMethod yX11_report ∈ zm_T ∧ Cond.selects (yX11_report).cls yX11_report yX11_report ∈ zm_T := ⟨zm_inT 1718 (by decide +kernel) (by decide +kernel), zm_inT 1719 (by decide +kernel) (by decide +kernel)⟩
def mX11_strike : zm_Y := (cX11_strike, RX11, 2, (some .int))
set_option maxRecDepth 100000 in
theorem calX11_strike : zm_cal yX11_strike mX11_strike 1 := ⟨zm_inT 1724 (by rfl) (by rfl), zm_inT 128 (by decide +kernel) (by decide +kernel), by decide +kernel, by decide⟩
theorem stX11_strike : Cond.instanceMethod yX11_strike ∈ zm_T ∧ Cond.selects (yX11_strike).cls yX11_strike yX11_strike ∈ zm_T := ⟨zm_inT 1722 (by decide +kernel) (by decide +kernel), zm_inT 1723 (by decide +kernel) (by decide +kernel)⟩
def mX11_know : zm_Y := (cX11_know, RX11, 3, none)
set_option maxRecDepth 100000 in
theorem calX11_know : zm_cal yX11_know mX11_know 1 := ⟨zm_inT 1732 (by rfl) (by rfl), zm_inT 128 (by decide +kernel) (by decide +kernel), by decide +kernel, by decide⟩
theorem stX11_know : Cond.instanceMethod yX11_know ∈ zm_T ∧ Cond.selects (yX11_know).cls yX11_know yX11_know ∈ zm_T := ⟨zm_inT 1731 (by decide +kernel) (by decide +kernel), zm_inT 113 (by decide +kernel) (by decide +kernel)⟩
def mX11_reported : zm_Y := (cX11_reported, RX11, 4, (some .int))
set_option maxRecDepth 100000 in
theorem calX11_reported : zm_cal yX11_reported mX11_reported 2 := ⟨zm_inT 1736 (by rfl) (by rfl), zm_inT 128 (by decide +kernel) (by decide +kernel), by decide +kernel, by decide⟩
theorem stX11_reported : Cond.instanceMethod yX11_reported ∈ zm_T ∧ Cond.selects (yX11_reported).cls yX11_reported yX11_reported ∈ zm_T := ⟨zm_inT 1735 (by decide +kernel) (by decide +kernel), zm_inT 114 (by decide +kernel) (by decide +kernel)⟩
def mX11_ends : zm_Y := (cX11_ends, RX11, 8, (some .int))
set_option maxRecDepth 100000 in
theorem calX11_ends : zm_cal yX11_ends mX11_ends 2 := ⟨zm_inT 1728 (by rfl) (by rfl), zm_inT 128 (by decide +kernel) (by decide +kernel), by decide +kernel, by decide⟩
theorem stX11_ends : Cond.instanceMethod yX11_ends ∈ zm_T ∧ Cond.selects (yX11_ends).cls yX11_ends yX11_ends ∈ zm_T := ⟨zm_inT 1726 (by decide +kernel) (by decide +kernel), zm_inT 1727 (by decide +kernel) (by decide +kernel)⟩
def mX11_fails : zm_Y := (cX11_fails, RX11, 2, (some .int))
set_option maxRecDepth 100000 in
theorem calX11_fails : zm_cal yX11_fails mX11_fails 1 := ⟨zm_inT 1744 (by rfl) (by rfl), zm_inT 128 (by decide +kernel) (by decide +kernel), by decide +kernel, by decide⟩
theorem stX11_fails : Cond.instanceMethod yX11_fails ∈ zm_T ∧ Cond.selects (yX11_fails).cls yX11_fails yX11_fails ∈ zm_T := ⟨zm_inT 1743 (by decide +kernel) (by decide +kernel), zm_inT 115 (by decide +kernel) (by decide +kernel)⟩
def mX11_look : zm_Y := (cX11_look, RX11, 3, (some .int))
set_option maxRecDepth 100000 in
theorem calX11_look : zm_cal yX11_look mX11_look 2 := ⟨zm_inT 1740 (by rfl) (by rfl), zm_inT 128 (by decide +kernel) (by decide +kernel), by decide +kernel, by decide⟩
theorem stX11_look : Cond.instanceMethod yX11_look ∈ zm_T ∧ Cond.selects (yX11_look).cls yX11_look yX11_look ∈ zm_T := ⟨zm_inT 1738 (by decide +kernel) (by decide +kernel), zm_inT 1739 (by decide +kernel) (by decide +kernel)⟩
def mX11_count : zm_Y := (cX11_count, RX11, 2, (some .int))
set_option maxRecDepth 100000 in
theorem calX11_count : zm_cal yX11_count mX11_count 1 := ⟨zm_inT 1748 (by rfl) (by rfl), zm_inT 128 (by decide +kernel) (by decide +kernel), by decide +kernel, by decide⟩
theorem stX11_count : Cond.instanceMethod yX11_count ∈ zm_T ∧ Cond.selects (yX11_count).cls yX11_count yX11_count ∈ zm_T := ⟨zm_inT 1746 (by decide +kernel) (by decide +kernel), zm_inT 1747 (by decide +kernel) (by decide +kernel)⟩
def mJ9_max_7cf53 : zm_Y := (cJ9_max_7cf53, RJ9, 2, (some .int))
set_option maxRecDepth 100000 in
theorem calJ9_max_7cf53 : zm_cal yJ9_max_7cf53 mJ9_max_7cf53 2 := ⟨zm_inT 922 (by rfl) (by rfl), zm_inT 129 (by decide +kernel) (by decide +kernel), by decide +kernel, by decide⟩
theorem stJ9_max_7cf53 : Cond.static yJ9_max_7cf53 ∈ zm_T := zm_inT 921 (by decide +kernel) (by decide +kernel)
def mJ9_max_f86c9 : zm_Y := (cJ9_max_f86c9, RJ9, 4, (some .long))
set_option maxRecDepth 100000 in
theorem calJ9_max_f86c9 : zm_cal yJ9_max_f86c9 mJ9_max_f86c9 2 := ⟨zm_inT 957 (by rfl) (by rfl), zm_inT 129 (by decide +kernel) (by decide +kernel), by decide +kernel, by decide⟩
theorem stJ9_max_f86c9 : Cond.static yJ9_max_f86c9 ∈ zm_T := zm_inT 956 (by decide +kernel) (by decide +kernel)
def mJ9_min_7cf53 : zm_Y := (cJ9_min_7cf53, RJ9, 2, (some .int))
set_option maxRecDepth 100000 in
theorem calJ9_min_7cf53 : zm_cal yJ9_min_7cf53 mJ9_min_7cf53 2 := ⟨zm_inT 584 (by rfl) (by rfl), zm_inT 129 (by decide +kernel) (by decide +kernel), by decide +kernel, by decide⟩
theorem stJ9_min_7cf53 : Cond.static yJ9_min_7cf53 ∈ zm_T := zm_inT 583 (by decide +kernel) (by decide +kernel)
def mJ9_min_f86c9 : zm_Y := (cJ9_min_f86c9, RJ9, 4, (some .long))
set_option maxRecDepth 100000 in
theorem calJ9_min_f86c9 : zm_cal yJ9_min_f86c9 mJ9_min_f86c9 2 := ⟨zm_inT 954 (by rfl) (by rfl), zm_inT 129 (by decide +kernel) (by decide +kernel), by decide +kernel, by decide⟩
theorem stJ9_min_f86c9 : Cond.static yJ9_min_f86c9 ∈ zm_T := zm_inT 953 (by decide +kernel) (by decide +kernel)
def mJ0_length_8abf5 : zm_Y := (cJ0_length_8abf5, RJ0, 1, (some .int))
set_option maxRecDepth 100000 in
theorem calJ0_length_8abf5 : zm_cal yJ0_length_8abf5 mJ0_length_8abf5 0 := ⟨zm_inT 634 (by rfl) (by rfl), zm_inT 131 (by decide +kernel) (by decide +kernel), by decide +kernel, by decide⟩
theorem stJ0_length_8abf5 : Cond.instanceMethod yJ0_length_8abf5 ∈ zm_T ∧ Cond.selects (yJ0_length_8abf5).cls yJ0_length_8abf5 yJ0_length_8abf5 ∈ zm_T := ⟨zm_inT 632 (by decide +kernel) (by decide +kernel), zm_inT 633 (by decide +kernel) (by decide +kernel)⟩
def mJ0_charAt_5068e : zm_Y := (cJ0_charAt_5068e, RJ0, 2, (some .char))
set_option maxRecDepth 100000 in
theorem calJ0_charAt_5068e : zm_cal yJ0_charAt_5068e mJ0_charAt_5068e 1 := ⟨zm_inT 644 (by rfl) (by rfl), zm_inT 131 (by decide +kernel) (by decide +kernel), by decide +kernel, by decide⟩
theorem stJ0_charAt_5068e : Cond.instanceMethod yJ0_charAt_5068e ∈ zm_T ∧ Cond.selects (yJ0_charAt_5068e).cls yJ0_charAt_5068e yJ0_charAt_5068e ∈ zm_T := ⟨zm_inT 642 (by decide +kernel) (by decide +kernel), zm_inT 643 (by decide +kernel) (by decide +kernel)⟩
def mJ0_coder_7d493 : zm_Y := (cJ0_coder_7d493, RJ0, 1, (some .byte))
set_option maxRecDepth 100000 in
theorem calJ0_coder_7d493 : zm_cal yJ0_coder_7d493 mJ0_coder_7d493 0 := ⟨zm_inT 638 (by rfl) (by rfl), zm_inT 131 (by decide +kernel) (by decide +kernel), by decide +kernel, by decide⟩
theorem stJ0_coder_7d493 : Cond.instanceMethod yJ0_coder_7d493 ∈ zm_T ∧ Cond.selects (yJ0_coder_7d493).cls yJ0_coder_7d493 yJ0_coder_7d493 ∈ zm_T := ⟨zm_inT 636 (by decide +kernel) (by decide +kernel), zm_inT 637 (by decide +kernel) (by decide +kernel)⟩
def mJ0_isLatin1_aae02 : zm_Y := (cJ0_isLatin1_aae02, RJ0, 1, (some .boolean))
set_option maxRecDepth 100000 in
theorem calJ0_isLatin1_aae02 : zm_cal yJ0_isLatin1_aae02 mJ0_isLatin1_aae02 0 := ⟨zm_inT 648 (by rfl) (by rfl), zm_inT 131 (by decide +kernel) (by decide +kernel), by decide +kernel, by decide⟩
theorem stJ0_isLatin1_aae02 : Cond.instanceMethod yJ0_isLatin1_aae02 ∈ zm_T ∧ Cond.selects (yJ0_isLatin1_aae02).cls yJ0_isLatin1_aae02 yJ0_isLatin1_aae02 ∈ zm_T := ⟨zm_inT 646 (by decide +kernel) (by decide +kernel), zm_inT 647 (by decide +kernel) (by decide +kernel)⟩
def mJ0_checkIndex_df160 : zm_Y := (cJ0_checkIndex_df160, RJ0, 2, none)
set_option maxRecDepth 100000 in
theorem calJ0_checkIndex_df160 : zm_cal yJ0_checkIndex_df160 mJ0_checkIndex_df160 2 := ⟨zm_inT 654 (by rfl) (by rfl), zm_inT 131 (by decide +kernel) (by decide +kernel), by decide +kernel, by decide⟩
theorem stJ0_checkIndex_df160 : Cond.static yJ0_checkIndex_df160 ∈ zm_T := zm_inT 653 (by decide +kernel) (by decide +kernel)
def mJ1_charAt_3b067 : zm_Y := (cJ1_charAt_3b067, RJ1, 2, (some .char))
set_option maxRecDepth 100000 in
theorem calJ1_charAt_3b067 : zm_cal yJ1_charAt_3b067 mJ1_charAt_3b067 2 := ⟨zm_inT 651 (by rfl) (by rfl), zm_inT 132 (by decide +kernel) (by decide +kernel), by decide +kernel, by decide⟩
theorem stJ1_charAt_3b067 : Cond.static yJ1_charAt_3b067 ∈ zm_T := zm_inT 650 (by decide +kernel) (by decide +kernel)
def mJ2_getChar_3b067 : zm_Y := (cJ2_getChar_3b067, RJ2, 2, (some .char))
set_option maxRecDepth 100000 in
theorem calJ2_getChar_3b067 : zm_cal yJ2_getChar_3b067 mJ2_getChar_3b067 2 := ⟨zm_inT 672 (by rfl) (by rfl), zm_inT 134 (by decide +kernel) (by decide +kernel), by decide +kernel, by decide⟩
theorem stJ2_getChar_3b067 : Cond.static yJ2_getChar_3b067 ∈ zm_T := zm_inT 671 (by decide +kernel) (by decide +kernel)
def mJ2_length_9d52b : zm_Y := (cJ2_length_9d52b, RJ2, 1, (some .int))
set_option maxRecDepth 100000 in
theorem calJ2_length_9d52b : zm_cal yJ2_length_9d52b mJ2_length_9d52b 1 := ⟨zm_inT 668 (by rfl) (by rfl), zm_inT 134 (by decide +kernel) (by decide +kernel), by decide +kernel, by decide⟩
theorem stJ2_length_9d52b : Cond.static yJ2_length_9d52b ∈ zm_T := zm_inT 667 (by decide +kernel) (by decide +kernel)
def mJ2_charAt_3b067 : zm_Y := (cJ2_charAt_3b067, RJ2, 2, (some .char))
set_option maxRecDepth 100000 in
theorem calJ2_charAt_3b067 : zm_cal yJ2_charAt_3b067 mJ2_charAt_3b067 2 := ⟨zm_inT 662 (by rfl) (by rfl), zm_inT 134 (by decide +kernel) (by decide +kernel), by decide +kernel, by decide⟩
theorem stJ2_charAt_3b067 : Cond.static yJ2_charAt_3b067 ∈ zm_T := zm_inT 661 (by decide +kernel) (by decide +kernel)
def mJ2_checkIndex_2214a : zm_Y := (cJ2_checkIndex_2214a, RJ2, 2, none)
set_option maxRecDepth 100000 in
theorem calJ2_checkIndex_2214a : zm_cal yJ2_checkIndex_2214a mJ2_checkIndex_2214a 2 := ⟨zm_inT 665 (by rfl) (by rfl), zm_inT 134 (by decide +kernel) (by decide +kernel), by decide +kernel, by decide⟩
theorem stJ2_checkIndex_2214a : Cond.static yJ2_checkIndex_2214a ∈ zm_T := zm_inT 664 (by decide +kernel) (by decide +kernel)
def mJ7_fill_53178 : zm_Y := (cJ7_fill_53178, RJ7, 4, none)
set_option maxRecDepth 100000 in
theorem calJ7_fill_53178 : zm_cal yJ7_fill_53178 mJ7_fill_53178 2 := ⟨zm_inT 160 (by rfl) (by rfl), zm_inT 119 (by decide +kernel) (by decide +kernel), by decide +kernel, by decide⟩
theorem stJ7_fill_53178 : Cond.static yJ7_fill_53178 ∈ zm_T := zm_inT 159 (by decide +kernel) (by decide +kernel)
def mJ3_checkIndex_8e157 : zm_Y := (cJ3_checkIndex_8e157, RJ3, 3, (some .int))
set_option maxRecDepth 100000 in
theorem calJ3_checkIndex_8e157 : zm_cal yJ3_checkIndex_8e157 mJ3_checkIndex_8e157 3 := ⟨zm_inT 659 (by rfl) (by rfl), zm_inT 133 (by decide +kernel) (by decide +kernel), by decide +kernel, by decide⟩
theorem stJ3_checkIndex_8e157 : Cond.static yJ3_checkIndex_8e157 ∈ zm_T := zm_inT 658 (by decide +kernel) (by decide +kernel)
