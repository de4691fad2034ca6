/-! ===== checks of the tables, piece 6 (printed by program) ===== -/
theorem kb_X8_isSign : pwB prog mX8_isSign = true := by decide +kernel
theorem kl_X8_isSign : plnks prog mX8_isSign = ([1061, 1063] : List Nat).filterMap (nthT lw_tbl) := by decide +kernel
theorem km_X8_isSign : pmw mX8_isSign = [1465, 1464, 61, 74].filterMap (nthT lw_tbl) := by decide +kernel
theorem ku_X8_isSign : (plnks prog mX8_isSign ++ pmw mX8_isSign).all uword = true := by decide +kernel
theorem ok_X8_isSign : WFm prog mX8_isSign := WFm.of2 kb_X8_isSign kl_X8_isSign km_X8_isSign ku_X8_isSign
theorem kb_X8_isWordAt : pwB prog mX8_isWordAt = true := by decide +kernel
theorem kl_X8_isWordAt : plnks prog mX8_isWordAt = ([1061, 1060, 1059, 1057, 1059, 1057, 1059, 1057, 1059, 1057, 1059] : List Nat).filterMap (nthT lw_tbl) := by decide +kernel
theorem km_X8_isWordAt : pmw mX8_isWordAt = [1430, 1429, 53, 74].filterMap (nthT lw_tbl) := by decide +kernel
theorem ku_X8_isWordAt : (plnks prog mX8_isWordAt ++ pmw mX8_isWordAt).all uword = true := by decide +kernel
theorem ok_X8_isWordAt : WFm prog mX8_isWordAt := WFm.of2 kb_X8_isWordAt kl_X8_isWordAt km_X8_isWordAt ku_X8_isWordAt
theorem kb_X8_key : pwB prog mX8_key = true := by decide +kernel
theorem kl_X8_key : plnks prog mX8_key = ([1427, 1427, 1427] : List Nat).filterMap (nthT lw_tbl) := by decide +kernel
theorem km_X8_key : pmw mX8_key = [1426, 1425, 52, 74].filterMap (nthT lw_tbl) := by decide +kernel
theorem ku_X8_key : (plnks prog mX8_key ++ pmw mX8_key).all uword = true := by decide +kernel
theorem ok_X8_key : WFm prog mX8_key := WFm.of2 kb_X8_key kl_X8_key km_X8_key ku_X8_key
theorem kb_X8_isName : pwB prog mX8_isName = true := by decide +kernel
theorem kl_X8_isName : plnks prog mX8_isName = ([] : List Nat).filterMap (nthT lw_tbl) := by decide +kernel
theorem km_X8_isName : pmw mX8_isName = [1461, 1460, 74].filterMap (nthT lw_tbl) := by decide +kernel
theorem ku_X8_isName : (plnks prog mX8_isName ++ pmw mX8_isName).all uword = true := by decide +kernel
theorem ok_X8_isName : WFm prog mX8_isName := WFm.of2 kb_X8_isName kl_X8_isName km_X8_isName ku_X8_isName
theorem kb_X8_step : pwB prog mX8_step = true := by decide +kernel
theorem kl_X8_step : plnks prog mX8_step = ([1043, 1067, 1066, 1043, 1067, 1066, 1066, 1066] : List Nat).filterMap (nthT lw_tbl) := by decide +kernel
theorem km_X8_step : pmw mX8_step = [1458, 1457, 60, 74].filterMap (nthT lw_tbl) := by decide +kernel
theorem ku_X8_step : (plnks prog mX8_step ++ pmw mX8_step).all uword = true := by decide +kernel
theorem ok_X8_step : WFm prog mX8_step := WFm.of2 kb_X8_step kl_X8_step km_X8_step ku_X8_step
theorem kb_X8_either : pwB prog mX8_either = true := by decide +kernel
theorem kl_X8_either : plnks prog mX8_either = ([1435, 1462, 1407, 1435, 1455] : List Nat).filterMap (nthT lw_tbl) := by decide +kernel
theorem km_X8_either : pmw mX8_either = [1434, 1433, 54, 74].filterMap (nthT lw_tbl) := by decide +kernel
theorem ku_X8_either : (plnks prog mX8_either ++ pmw mX8_either).all uword = true := by decide +kernel
theorem ok_X8_either : WFm prog mX8_either := WFm.of2 kb_X8_either kl_X8_either km_X8_either ku_X8_either
theorem kb_X8_both : pwB prog mX8_both = true := by decide +kernel
theorem kl_X8_both : plnks prog mX8_both = ([1439, 1462, 1407, 1439, 1455] : List Nat).filterMap (nthT lw_tbl) := by decide +kernel
theorem km_X8_both : pmw mX8_both = [1438, 1437, 55, 74].filterMap (nthT lw_tbl) := by decide +kernel
theorem ku_X8_both : (plnks prog mX8_both ++ pmw mX8_both).all uword = true := by decide +kernel
theorem ok_X8_both : WFm prog mX8_both := WFm.of2 kb_X8_both kl_X8_both km_X8_both ku_X8_both
theorem kb_X8_test : pwB prog mX8_test = true := by decide +kernel
theorem kl_X8_test : plnks prog mX8_test = ([1443, 1462, 1462, 1462, 1063, 1407, 1443, 1455] : List Nat).filterMap (nthT lw_tbl) := by decide +kernel
theorem km_X8_test : pmw mX8_test = [1442, 1441, 56, 74].filterMap (nthT lw_tbl) := by decide +kernel
theorem ku_X8_test : (plnks prog mX8_test ++ pmw mX8_test).all uword = true := by decide +kernel
theorem ok_X8_test : WFm prog mX8_test := WFm.of2 kb_X8_test kl_X8_test km_X8_test ku_X8_test
theorem kb_X8_sum : pwB prog mX8_sum = true := by decide +kernel
theorem kl_X8_sum : plnks prog mX8_sum = ([1447, 1462, 1462, 1063, 1407, 1447, 1455] : List Nat).filterMap (nthT lw_tbl) := by decide +kernel
theorem km_X8_sum : pmw mX8_sum = [1446, 1445, 57, 74].filterMap (nthT lw_tbl) := by decide +kernel
theorem ku_X8_sum : (plnks prog mX8_sum ++ pmw mX8_sum).all uword = true := by decide +kernel
theorem ok_X8_sum : WFm prog mX8_sum := WFm.of2 kb_X8_sum kl_X8_sum km_X8_sum ku_X8_sum
theorem kb_X8_term : pwB prog mX8_term = true := by decide +kernel
theorem kl_X8_term : plnks prog mX8_term = ([1451, 1462, 1462, 1063, 1407, 1451, 1455] : List Nat).filterMap (nthT lw_tbl) := by decide +kernel
theorem km_X8_term : pmw mX8_term = [1450, 1449, 58, 74].filterMap (nthT lw_tbl) := by decide +kernel
theorem ku_X8_term : (plnks prog mX8_term ++ pmw mX8_term).all uword = true := by decide +kernel
theorem ok_X8_term : WFm prog mX8_term := WFm.of2 kb_X8_term kl_X8_term km_X8_term ku_X8_term
theorem kb_X8_part0 : pwB prog mX8_part0 = true := by decide +kernel
theorem kl_X8_part0 : plnks prog mX8_part0 = ([1061, 1062, 1455, 1068, 1068, 1407, 1061, 1063, 1063, 1459, 1063, 1455, 1068, 1068, 1407, 1462, 1065, 1065, 1065, 1407, 1451, 1065, 1065, 1455, 1462, 1064, 1064, 1064, 1407, 1431, 1462, 1064, 1064, 1407] : List Nat).filterMap (nthT lw_tbl) := by decide +kernel
theorem km_X8_part0 : pmw mX8_part0 = [1454, 1453, 59, 74].filterMap (nthT lw_tbl) := by decide +kernel
theorem ku_X8_part0 : (plnks prog mX8_part0 ++ pmw mX8_part0).all uword = true := by decide +kernel
theorem ok_X8_part0 : WFm prog mX8_part0 := WFm.of2 kb_X8_part0 kl_X8_part0 km_X8_part0 ku_X8_part0
theorem kb_X8_parse : pwB prog mX8_parse = true := by decide +kernel
theorem kl_X8_parse : plnks prog mX8_parse = ([1060, 1061, 1064, 1065, 1066, 1068, 1043, 1043, 1189, 1067, 1407, 1423, 1407, 1431, 1061, 1058] : List Nat).filterMap (nthT lw_tbl) := by decide +kernel
theorem km_X8_parse : pmw mX8_parse = [1406, 1405, 48, 74].filterMap (nthT lw_tbl) := by decide +kernel
theorem ku_X8_parse : (plnks prog mX8_parse ++ pmw mX8_parse).all uword = true := by decide +kernel
theorem ok_X8_parse : WFm prog mX8_parse := WFm.of2 kb_X8_parse kl_X8_parse km_X8_parse ku_X8_parse
theorem kb_X8_text : pwB prog mX8_text = true := by decide +kernel
theorem kl_X8_text : plnks prog mX8_text = ([1403, 1059, 1043, 1151, 1043, 1189, 1043, 1043, 1068, 1043, 1066, 1043, 1043] : List Nat).filterMap (nthT lw_tbl) := by decide +kernel
theorem km_X8_text : pmw mX8_text = [1402, 1400, 1401, 74].filterMap (nthT lw_tbl) := by decide +kernel
theorem ku_X8_text : (plnks prog mX8_text ++ pmw mX8_text).all uword = true := by decide +kernel
theorem ok_X8_text : WFm prog mX8_text := WFm.of2 kb_X8_text kl_X8_text km_X8_text ku_X8_text
theorem kb_X8_textTold : pwB prog mX8_textTold = true := by decide +kernel
theorem kl_X8_textTold : plnks prog mX8_textTold = ([1470, 1145, 1150, 1043, 1189] : List Nat).filterMap (nthT lw_tbl) := by decide +kernel
theorem km_X8_textTold : pmw mX8_textTold = [1469, 1467, 1468, 74].filterMap (nthT lw_tbl) := by decide +kernel
theorem ku_X8_textTold : (plnks prog mX8_textTold ++ pmw mX8_textTold).all uword = true := by decide +kernel
theorem ok_X8_textTold : WFm prog mX8_textTold := WFm.of2 kb_X8_textTold kl_X8_textTold km_X8_textTold ku_X8_textTold
theorem kb_X8_counts : pwB prog mX8_counts = true := by decide +kernel
theorem kl_X8_counts : plnks prog mX8_counts = ([1043, 1043, 1189] : List Nat).filterMap (nthT lw_tbl) := by decide +kernel
theorem km_X8_counts : pmw mX8_counts = [1188, 1187, 27, 74].filterMap (nthT lw_tbl) := by decide +kernel
theorem ku_X8_counts : (plnks prog mX8_counts ++ pmw mX8_counts).all uword = true := by decide +kernel
theorem ok_X8_counts : WFm prog mX8_counts := WFm.of2 kb_X8_counts kl_X8_counts km_X8_counts ku_X8_counts
theorem kb_X8_why : pwB prog mX8_why = true := by decide +kernel
theorem kl_X8_why : plnks prog mX8_why = ([1478, 1145, 1185, 1370, 1150] : List Nat).filterMap (nthT lw_tbl) := by decide +kernel
theorem km_X8_why : pmw mX8_why = [1477, 1475, 1476, 74].filterMap (nthT lw_tbl) := by decide +kernel
theorem ku_X8_why : (plnks prog mX8_why ++ pmw mX8_why).all uword = true := by decide +kernel
theorem ok_X8_why : WFm prog mX8_why := WFm.of2 kb_X8_why kl_X8_why km_X8_why ku_X8_why
theorem kb_X8_joined : pwB prog mX8_joined = true := by decide +kernel
theorem kl_X8_joined : plnks prog mX8_joined = ([] : List Nat).filterMap (nthT lw_tbl) := by decide +kernel
theorem km_X8_joined : pmw mX8_joined = [1199, 1198, 74].filterMap (nthT lw_tbl) := by decide +kernel
theorem ku_X8_joined : (plnks prog mX8_joined ++ pmw mX8_joined).all uword = true := by decide +kernel
theorem ok_X8_joined : WFm prog mX8_joined := WFm.of2 kb_X8_joined kl_X8_joined km_X8_joined ku_X8_joined
theorem kb_X8_worked : pwB prog mX8_worked = true := by decide +kernel
theorem kl_X8_worked : plnks prog mX8_worked = ([1043, 1189, 1043, 1189, 1043, 1189, 1070, 1069, 1070, 1070, 1070, 1070, 1070, 1197, 1070] : List Nat).filterMap (nthT lw_tbl) := by decide +kernel
theorem km_X8_worked : pmw mX8_worked = [1196, 1195, 29, 74].filterMap (nthT lw_tbl) := by decide +kernel
theorem ku_X8_worked : (plnks prog mX8_worked ++ pmw mX8_worked).all uword = true := by decide +kernel
theorem ok_X8_worked : WFm prog mX8_worked := WFm.of2 kb_X8_worked kl_X8_worked km_X8_worked ku_X8_worked
theorem kb_X8_isSheet : pwB prog mX8_isSheet = true := by decide +kernel
theorem kl_X8_isSheet : plnks prog mX8_isSheet = ([1250, 1145] : List Nat).filterMap (nthT lw_tbl) := by decide +kernel
theorem km_X8_isSheet : pmw mX8_isSheet = [1485, 1484, 74].filterMap (nthT lw_tbl) := by decide +kernel
theorem ku_X8_isSheet : (plnks prog mX8_isSheet ++ pmw mX8_isSheet).all uword = true := by decide +kernel
theorem ok_X8_isSheet : WFm prog mX8_isSheet := WFm.of2 kb_X8_isSheet kl_X8_isSheet km_X8_isSheet ku_X8_isSheet
theorem kb_X8_sheet : pwB prog mX8_sheet = true := by decide +kernel
theorem kl_X8_sheet : plnks prog mX8_sheet = ([1483, 1486, 1145, 1150, 1487, 1047, 1048, 1049, 1048] : List Nat).filterMap (nthT lw_tbl) := by decide +kernel
theorem km_X8_sheet : pmw mX8_sheet = [1482, 1480, 1481, 74].filterMap (nthT lw_tbl) := by decide +kernel
theorem ku_X8_sheet : (plnks prog mX8_sheet ++ pmw mX8_sheet).all uword = true := by decide +kernel
theorem ok_X8_sheet : WFm prog mX8_sheet := WFm.of2 kb_X8_sheet kl_X8_sheet km_X8_sheet ku_X8_sheet
theorem kb_X8_mark : pwB prog mX8_mark = true := by decide +kernel
theorem kl_X8_mark : plnks prog mX8_mark = ([1483, 1150, 1047, 1492, 1048, 1145, 1493, 1047, 1373, 1229, 1047, 1373, 1494, 1495, 1145, 1150, 1049, 1047] : List Nat).filterMap (nthT lw_tbl) := by decide +kernel
theorem km_X8_mark : pmw mX8_mark = [1491, 1489, 1490, 74].filterMap (nthT lw_tbl) := by decide +kernel
theorem ku_X8_mark : (plnks prog mX8_mark ++ pmw mX8_mark).all uword = true := by decide +kernel
theorem ok_X8_mark : WFm prog mX8_mark := WFm.of2 kb_X8_mark kl_X8_mark km_X8_mark ku_X8_mark
theorem kb_X8_pour : pwB prog mX8_pour = true := by decide +kernel
theorem kl_X8_pour : plnks prog mX8_pour = ([1483, 1150, 1047, 1492, 1048, 1049, 1373, 1043, 1200, 1234] : List Nat).filterMap (nthT lw_tbl) := by decide +kernel
theorem km_X8_pour : pmw mX8_pour = [1499, 1497, 1498, 74].filterMap (nthT lw_tbl) := by decide +kernel
theorem ku_X8_pour : (plnks prog mX8_pour ++ pmw mX8_pour).all uword = true := by decide +kernel
theorem ok_X8_pour : WFm prog mX8_pour := WFm.of2 kb_X8_pour kl_X8_pour km_X8_pour ku_X8_pour
