/-! ===== checks of the tables, piece 7 (printed by program) ===== -/
theorem kb_X8_reads : pwB prog mX8_reads = true := by decide +kernel
theorem kl_X8_reads : plnks prog mX8_reads = ([1483, 1150, 1047, 1492, 1048, 1049, 1373, 1043, 1168, 1373] : List Nat).filterMap (nthT lw_tbl) := by decide +kernel
theorem km_X8_reads : pmw mX8_reads = [1503, 1501, 1502, 74].filterMap (nthT lw_tbl) := by decide +kernel
theorem ku_X8_reads : (plnks prog mX8_reads ++ pmw mX8_reads).all uword = true := by decide +kernel
theorem ok_X8_reads : WFm prog mX8_reads := WFm.of2 kb_X8_reads kl_X8_reads km_X8_reads ku_X8_reads
theorem kb_X8_whose : pwB prog mX8_whose = true := by decide +kernel
theorem kl_X8_whose : plnks prog mX8_whose = ([1483, 1145, 1150, 1047, 1492, 1043, 1048, 1049, 1373, 1168, 1215, 1508, 1373] : List Nat).filterMap (nthT lw_tbl) := by decide +kernel
theorem km_X8_whose : pmw mX8_whose = [1507, 1505, 1506, 74].filterMap (nthT lw_tbl) := by decide +kernel
theorem ku_X8_whose : (plnks prog mX8_whose ++ pmw mX8_whose).all uword = true := by decide +kernel
theorem ok_X8_whose : WFm prog mX8_whose := WFm.of2 kb_X8_whose kl_X8_whose km_X8_whose ku_X8_whose
theorem kb_X8_copy : pwB prog mX8_copy = true := by decide +kernel
theorem kl_X8_copy : plnks prog mX8_copy = ([1483, 1483, 1150, 1047, 1047, 1492, 1047, 1047, 1229, 1048, 1048, 1493, 1071, 1049, 1049, 1071] : List Nat).filterMap (nthT lw_tbl) := by decide +kernel
theorem km_X8_copy : pmw mX8_copy = [1514, 1512, 1513, 74].filterMap (nthT lw_tbl) := by decide +kernel
theorem ku_X8_copy : (plnks prog mX8_copy ++ pmw mX8_copy).all uword = true := by decide +kernel
theorem ok_X8_copy : WFm prog mX8_copy := WFm.of2 kb_X8_copy kl_X8_copy km_X8_copy ku_X8_copy
theorem kb_X8_isSlot : pwB prog mX8_isSlot = true := by decide +kernel
theorem kl_X8_isSlot : plnks prog mX8_isSlot = ([1522, 1145] : List Nat).filterMap (nthT lw_tbl) := by decide +kernel
theorem km_X8_isSlot : pmw mX8_isSlot = [1521, 1520, 74].filterMap (nthT lw_tbl) := by decide +kernel
theorem ku_X8_isSlot : (plnks prog mX8_isSlot ++ pmw mX8_isSlot).all uword = true := by decide +kernel
theorem ok_X8_isSlot : WFm prog mX8_isSlot := WFm.of2 kb_X8_isSlot kl_X8_isSlot km_X8_isSlot ku_X8_isSlot
theorem kb_X8_lay : pwB prog mX8_lay = true := by decide +kernel
theorem kl_X8_lay : plnks prog mX8_lay = ([1164, 1483, 1519, 1150, 1047, 1492, 1050, 1050, 1051, 1168, 1052, 1207, 1053, 1048, 1054, 1049] : List Nat).filterMap (nthT lw_tbl) := by decide +kernel
theorem km_X8_lay : pmw mX8_lay = [1518, 1516, 1517, 74].filterMap (nthT lw_tbl) := by decide +kernel
theorem ku_X8_lay : (plnks prog mX8_lay ++ pmw mX8_lay).all uword = true := by decide +kernel
theorem ok_X8_lay : WFm prog mX8_lay := WFm.of2 kb_X8_lay kl_X8_lay km_X8_lay ku_X8_lay
theorem kb_X8_ask : pwB prog mX8_ask = true := by decide +kernel
theorem kl_X8_ask : plnks prog mX8_ask = ([1519, 1144, 1145, 1150, 1050, 1492, 1050, 1051, 1226, 1052, 1229] : List Nat).filterMap (nthT lw_tbl) := by decide +kernel
theorem km_X8_ask : pmw mX8_ask = [1526, 1524, 1525, 74].filterMap (nthT lw_tbl) := by decide +kernel
theorem ku_X8_ask : (plnks prog mX8_ask ++ pmw mX8_ask).all uword = true := by decide +kernel
theorem ok_X8_ask : WFm prog mX8_ask := WFm.of2 kb_X8_ask kl_X8_ask km_X8_ask ku_X8_ask
theorem kb_X8_item : pwB prog mX8_item = true := by decide +kernel
theorem kl_X8_item : plnks prog mX8_item = ([1519, 1150, 1050, 1050, 1492, 1229, 1053, 1145, 1493, 1054, 1373, 1229] : List Nat).filterMap (nthT lw_tbl) := by decide +kernel
theorem km_X8_item : pmw mX8_item = [1530, 1528, 1529, 74].filterMap (nthT lw_tbl) := by decide +kernel
theorem ku_X8_item : (plnks prog mX8_item ++ pmw mX8_item).all uword = true := by decide +kernel
theorem ok_X8_item : WFm prog mX8_item := WFm.of2 kb_X8_item kl_X8_item km_X8_item ku_X8_item
theorem kb_X8_rest : pwB prog mX8_rest = true := by decide +kernel
theorem kl_X8_rest : plnks prog mX8_rest = ([1519, 1150, 1050, 1050, 1492, 1229, 1535, 1051] : List Nat).filterMap (nthT lw_tbl) := by decide +kernel
theorem km_X8_rest : pmw mX8_rest = [1534, 1532, 1533, 74].filterMap (nthT lw_tbl) := by decide +kernel
theorem ku_X8_rest : (plnks prog mX8_rest ++ pmw mX8_rest).all uword = true := by decide +kernel
theorem ok_X8_rest : WFm prog mX8_rest := WFm.of2 kb_X8_rest kl_X8_rest km_X8_rest ku_X8_rest
theorem kb_X8_tell : pwB prog mX8_tell = true := by decide +kernel
theorem kl_X8_tell : plnks prog mX8_tell = ([1073, 1151, 1072, 1073, 1073, 1073, 1073] : List Nat).filterMap (nthT lw_tbl) := by decide +kernel
theorem km_X8_tell : pmw mX8_tell = [1539, 1537, 1538, 74].filterMap (nthT lw_tbl) := by decide +kernel
theorem ku_X8_tell : (plnks prog mX8_tell ++ pmw mX8_tell).all uword = true := by decide +kernel
theorem ok_X8_tell : WFm prog mX8_tell := WFm.of2 kb_X8_tell kl_X8_tell km_X8_tell ku_X8_tell
theorem kb_X8_setAside : pwB prog mX8_setAside = true := by decide +kernel
theorem kl_X8_setAside : plnks prog mX8_setAside = ([] : List Nat).filterMap (nthT lw_tbl) := by decide +kernel
theorem km_X8_setAside : pmw mX8_setAside = [1548, 1547, 63, 74].filterMap (nthT lw_tbl) := by decide +kernel
theorem ku_X8_setAside : (plnks prog mX8_setAside ++ pmw mX8_setAside).all uword = true := by decide +kernel
theorem ok_X8_setAside : WFm prog mX8_setAside := WFm.of2 kb_X8_setAside kl_X8_setAside km_X8_setAside ku_X8_setAside
theorem kb_X8_check : pwB prog mX8_check = true := by decide +kernel
theorem kl_X8_check : plnks prog mX8_check = ([1073, 1073, 1544, 1145, 1150, 1046, 1535, 1043, 1045, 1545, 1044, 1043, 1545, 1043, 1338, 1074, 1346, 1074, 1306, 1310, 1045, 1043, 1545, 1072, 1074] : List Nat).filterMap (nthT lw_tbl) := by decide +kernel
theorem km_X8_check : pmw mX8_check = [1543, 1541, 1542, 74].filterMap (nthT lw_tbl) := by decide +kernel
theorem ku_X8_check : (plnks prog mX8_check ++ pmw mX8_check).all uword = true := by decide +kernel
theorem ok_X8_check : WFm prog mX8_check := WFm.of2 kb_X8_check kl_X8_check km_X8_check ku_X8_check
theorem kb_X8_keep : pwB prog mX8_keep = true := by decide +kernel
theorem kl_X8_keep : plnks prog mX8_keep = ([1046, 1043, 1044, 1545, 1043] : List Nat).filterMap (nthT lw_tbl) := by decide +kernel
theorem km_X8_keep : pmw mX8_keep = [1552, 1550, 1551, 74].filterMap (nthT lw_tbl) := by decide +kernel
theorem ku_X8_keep : (plnks prog mX8_keep ++ pmw mX8_keep).all uword = true := by decide +kernel
theorem ok_X8_keep : WFm prog mX8_keep := WFm.of2 kb_X8_keep kl_X8_keep km_X8_keep ku_X8_keep
theorem kb_X8_back : pwB prog mX8_back = true := by decide +kernel
theorem kl_X8_back : plnks prog mX8_back = ([1046, 1535, 1044, 1043, 1545, 1043] : List Nat).filterMap (nthT lw_tbl) := by decide +kernel
theorem km_X8_back : pmw mX8_back = [1556, 1554, 1555, 74].filterMap (nthT lw_tbl) := by decide +kernel
theorem ku_X8_back : (plnks prog mX8_back ++ pmw mX8_back).all uword = true := by decide +kernel
theorem ok_X8_back : WFm prog mX8_back := WFm.of2 kb_X8_back kl_X8_back km_X8_back ku_X8_back
theorem kb_X8_count : pwB prog mX8_count = true := by decide +kernel
theorem kl_X8_count : plnks prog mX8_count = ([1043, 1043, 1306, 1310, 1043, 1073, 1058, 1043, 1150] : List Nat).filterMap (nthT lw_tbl) := by decide +kernel
theorem km_X8_count : pmw mX8_count = [1560, 1558, 1559, 74].filterMap (nthT lw_tbl) := by decide +kernel
theorem ku_X8_count : (plnks prog mX8_count ++ pmw mX8_count).all uword = true := by decide +kernel
theorem ok_X8_count : WFm prog mX8_count := WFm.of2 kb_X8_count kl_X8_count km_X8_count ku_X8_count
theorem kb_J6_bitCount_0f7a4 : pwB prog mJ6_bitCount_0f7a4 = true := by decide +kernel
theorem kl_J6_bitCount_0f7a4 : plnks prog mJ6_bitCount_0f7a4 = ([594, 595, 595, 596] : List Nat).filterMap (nthT lw_tbl) := by decide +kernel
theorem km_J6_bitCount_0f7a4 : pmw mJ6_bitCount_0f7a4 = [593, 592, 76].filterMap (nthT lw_tbl) := by decide +kernel
theorem ku_J6_bitCount_0f7a4 : (plnks prog mJ6_bitCount_0f7a4 ++ pmw mJ6_bitCount_0f7a4).all uword = true := by decide +kernel
theorem ok_J6_bitCount_0f7a4 : WFm prog mJ6_bitCount_0f7a4 := WFm.of2 kb_J6_bitCount_0f7a4 kl_J6_bitCount_0f7a4 km_J6_bitCount_0f7a4 ku_J6_bitCount_0f7a4
theorem kb_J7_fill_53178 : pwB prog mJ7_fill_53178 = true := by decide +kernel
theorem kl_J7_fill_53178 : plnks prog mJ7_fill_53178 = ([] : List Nat).filterMap (nthT lw_tbl) := by decide +kernel
theorem km_J7_fill_53178 : pmw mJ7_fill_53178 = [150, 149, 69].filterMap (nthT lw_tbl) := by decide +kernel
theorem ku_J7_fill_53178 : (plnks prog mJ7_fill_53178 ++ pmw mJ7_fill_53178).all uword = true := by decide +kernel
theorem ok_J7_fill_53178 : WFm prog mJ7_fill_53178 := WFm.of2 kb_J7_fill_53178 kl_J7_fill_53178 km_J7_fill_53178 ku_J7_fill_53178
