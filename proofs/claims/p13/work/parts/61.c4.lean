/-! ===== checks of the tables, piece 4 (printed by program) ===== -/
theorem kb_X8_isIn : pwB prog mX8_isIn = true := by decide +kernel
theorem kl_X8_isIn : plnks prog mX8_isIn = ([] : List Nat).filterMap (nthT lw_tbl) := by decide +kernel
theorem km_X8_isIn : pmw mX8_isIn = [1147, 1146, 74].filterMap (nthT lw_tbl) := by decide +kernel
theorem ku_X8_isIn : (plnks prog mX8_isIn ++ pmw mX8_isIn).all uword = true := by decide +kernel
theorem ok_X8_isIn : WFm prog mX8_isIn := WFm.of2 kb_X8_isIn kl_X8_isIn km_X8_isIn ku_X8_isIn
theorem kb_X8_orNone : pwB prog mX8_orNone = true := by decide +kernel
theorem kl_X8_orNone : plnks prog mX8_orNone = ([1373] : List Nat).filterMap (nthT lw_tbl) := by decide +kernel
theorem km_X8_orNone : pmw mX8_orNone = [1372, 1371, 74].filterMap (nthT lw_tbl) := by decide +kernel
theorem ku_X8_orNone : (plnks prog mX8_orNone ++ pmw mX8_orNone).all uword = true := by decide +kernel
theorem ok_X8_orNone : WFm prog mX8_orNone := WFm.of2 kb_X8_orNone kl_X8_orNone km_X8_orNone ku_X8_orNone
theorem kb_X8_within : pwB prog mX8_within = true := by decide +kernel
theorem kl_X8_within : plnks prog mX8_within = ([] : List Nat).filterMap (nthT lw_tbl) := by decide +kernel
theorem km_X8_within : pmw mX8_within = [1202, 1201, 74].filterMap (nthT lw_tbl) := by decide +kernel
theorem ku_X8_within : (plnks prog mX8_within ++ pmw mX8_within).all uword = true := by decide +kernel
theorem ok_X8_within : WFm prog mX8_within := WFm.of2 kb_X8_within kl_X8_within km_X8_within ku_X8_within
theorem kb_X8_off : pwB prog mX8_off = true := by decide +kernel
theorem kl_X8_off : plnks prog mX8_off = ([] : List Nat).filterMap (nthT lw_tbl) := by decide +kernel
theorem km_X8_off : pmw mX8_off = [1510, 1509, 74].filterMap (nthT lw_tbl) := by decide +kernel
theorem ku_X8_off : (plnks prog mX8_off ++ pmw mX8_off).all uword = true := by decide +kernel
theorem ok_X8_off : WFm prog mX8_off := WFm.of2 kb_X8_off kl_X8_off km_X8_off ku_X8_off
theorem kb_X8_manyIn : pwB prog mX8_manyIn = true := by decide +kernel
theorem kl_X8_manyIn : plnks prog mX8_manyIn = ([] : List Nat).filterMap (nthT lw_tbl) := by decide +kernel
theorem km_X8_manyIn : pmw mX8_manyIn = [1312, 1311, 74].filterMap (nthT lw_tbl) := by decide +kernel
theorem ku_X8_manyIn : (plnks prog mX8_manyIn ++ pmw mX8_manyIn).all uword = true := by decide +kernel
theorem ok_X8_manyIn : WFm prog mX8_manyIn := WFm.of2 kb_X8_manyIn kl_X8_manyIn km_X8_manyIn ku_X8_manyIn
theorem kb_X8_becomes : pwB prog mX8_becomes = true := by decide +kernel
theorem kl_X8_becomes : plnks prog mX8_becomes = ([1043, 1043] : List Nat).filterMap (nthT lw_tbl) := by decide +kernel
theorem km_X8_becomes : pmw mX8_becomes = [1237, 1236, 33, 74].filterMap (nthT lw_tbl) := by decide +kernel
theorem ku_X8_becomes : (plnks prog mX8_becomes ++ pmw mX8_becomes).all uword = true := by decide +kernel
theorem ok_X8_becomes : WFm prog mX8_becomes := WFm.of2 kb_X8_becomes kl_X8_becomes km_X8_becomes ku_X8_becomes
theorem kb_X8_textAt : pwB prog mX8_textAt = true := by decide +kernel
theorem kl_X8_textAt : plnks prog mX8_textAt = ([] : List Nat).filterMap (nthT lw_tbl) := by decide +kernel
theorem km_X8_textAt : pmw mX8_textAt = [1192, 1191, 28, 74].filterMap (nthT lw_tbl) := by decide +kernel
theorem ku_X8_textAt : (plnks prog mX8_textAt ++ pmw mX8_textAt).all uword = true := by decide +kernel
theorem ok_X8_textAt : WFm prog mX8_textAt := WFm.of2 kb_X8_textAt kl_X8_textAt km_X8_textAt ku_X8_textAt
theorem kb_X8_of : pwB prog mX8_of = true := by decide +kernel
theorem kl_X8_of : plnks prog mX8_of = ([1043] : List Nat).filterMap (nthT lw_tbl) := by decide +kernel
theorem km_X8_of : pmw mX8_of = [1171, 1170, 23, 74].filterMap (nthT lw_tbl) := by decide +kernel
theorem ku_X8_of : (plnks prog mX8_of ++ pmw mX8_of).all uword = true := by decide +kernel
theorem ok_X8_of : WFm prog mX8_of := WFm.of2 kb_X8_of kl_X8_of km_X8_of ku_X8_of
theorem kb_X8_sets : pwB prog mX8_sets = true := by decide +kernel
theorem kl_X8_sets : plnks prog mX8_sets = ([1043] : List Nat).filterMap (nthT lw_tbl) := by decide +kernel
theorem km_X8_sets : pmw mX8_sets = [1159, 1158, 21, 74].filterMap (nthT lw_tbl) := by decide +kernel
theorem ku_X8_sets : (plnks prog mX8_sets ++ pmw mX8_sets).all uword = true := by decide +kernel
theorem ok_X8_sets : WFm prog mX8_sets := WFm.of2 kb_X8_sets kl_X8_sets km_X8_sets ku_X8_sets
theorem kb_X8_isRubbing : pwB prog mX8_isRubbing = true := by decide +kernel
theorem kl_X8_isRubbing : plnks prog mX8_isRubbing = ([1043, 1145] : List Nat).filterMap (nthT lw_tbl) := by decide +kernel
theorem km_X8_isRubbing : pmw mX8_isRubbing = [1167, 1166, 22, 74].filterMap (nthT lw_tbl) := by decide +kernel
theorem ku_X8_isRubbing : (plnks prog mX8_isRubbing ++ pmw mX8_isRubbing).all uword = true := by decide +kernel
theorem ok_X8_isRubbing : WFm prog mX8_isRubbing := WFm.of2 kb_X8_isRubbing kl_X8_isRubbing km_X8_isRubbing ku_X8_isRubbing
theorem kb_X8_isText : pwB prog mX8_isText = true := by decide +kernel
theorem kl_X8_isText : plnks prog mX8_isText = ([1043, 1145] : List Nat).filterMap (nthT lw_tbl) := by decide +kernel
theorem km_X8_isText : pmw mX8_isText = [1473, 1472, 62, 74].filterMap (nthT lw_tbl) := by decide +kernel
theorem ku_X8_isText : (plnks prog mX8_isText ++ pmw mX8_isText).all uword = true := by decide +kernel
theorem ok_X8_isText : WFm prog mX8_isText := WFm.of2 kb_X8_isText kl_X8_isText km_X8_isText ku_X8_isText
theorem kb_X8_drawn : pwB prog mX8_drawn = true := by decide +kernel
theorem kl_X8_drawn : plnks prog mX8_drawn = ([1043, 1043, 1264, 1043] : List Nat).filterMap (nthT lw_tbl) := by decide +kernel
theorem km_X8_drawn : pmw mX8_drawn = [1263, 1262, 34, 74].filterMap (nthT lw_tbl) := by decide +kernel
theorem ku_X8_drawn : (plnks prog mX8_drawn ++ pmw mX8_drawn).all uword = true := by decide +kernel
theorem ok_X8_drawn : WFm prog mX8_drawn := WFm.of2 kb_X8_drawn kl_X8_drawn km_X8_drawn ku_X8_drawn
theorem kb_X8_comes : pwB prog mX8_comes = true := by decide +kernel
theorem kl_X8_comes : plnks prog mX8_comes = ([1043, 1043, 1156, 1156, 1156, 1156, 1156, 1156] : List Nat).filterMap (nthT lw_tbl) := by decide +kernel
theorem km_X8_comes : pmw mX8_comes = [1155, 1154, 20, 74].filterMap (nthT lw_tbl) := by decide +kernel
theorem ku_X8_comes : (plnks prog mX8_comes ++ pmw mX8_comes).all uword = true := by decide +kernel
theorem ok_X8_comes : WFm prog mX8_comes := WFm.of2 kb_X8_comes kl_X8_comes km_X8_comes ku_X8_comes
theorem kb_X8_rubbing : pwB prog mX8_rubbing = true := by decide +kernel
theorem kl_X8_rubbing : plnks prog mX8_rubbing = ([1144, 1145, 1148, 1145, 1149, 1145, 1150, 1043, 1151, 1152, 1043] : List Nat).filterMap (nthT lw_tbl) := by decide +kernel
theorem km_X8_rubbing : pmw mX8_rubbing = [1143, 1141, 1142, 74].filterMap (nthT lw_tbl) := by decide +kernel
theorem ku_X8_rubbing : (plnks prog mX8_rubbing ++ pmw mX8_rubbing).all uword = true := by decide +kernel
theorem ok_X8_rubbing : WFm prog mX8_rubbing := WFm.of2 kb_X8_rubbing kl_X8_rubbing km_X8_rubbing ku_X8_rubbing
theorem kb_X8_bolder : pwB prog mX8_bolder = true := by decide +kernel
theorem kl_X8_bolder : plnks prog mX8_bolder = ([] : List Nat).filterMap (nthT lw_tbl) := by decide +kernel
theorem km_X8_bolder : pmw mX8_bolder = [1221, 1220, 74].filterMap (nthT lw_tbl) := by decide +kernel
theorem ku_X8_bolder : (plnks prog mX8_bolder ++ pmw mX8_bolder).all uword = true := by decide +kernel
theorem ok_X8_bolder : WFm prog mX8_bolder := WFm.of2 kb_X8_bolder kl_X8_bolder km_X8_bolder ku_X8_bolder
theorem kb_X8_saysAt : pwB prog mX8_saysAt = true := by decide +kernel
theorem kl_X8_saysAt : plnks prog mX8_saysAt = ([1168, 1168, 1168, 1168, 1219, 1219, 1219, 1168] : List Nat).filterMap (nthT lw_tbl) := by decide +kernel
theorem km_X8_saysAt : pmw mX8_saysAt = [1218, 1217, 32, 74].filterMap (nthT lw_tbl) := by decide +kernel
theorem ku_X8_saysAt : (plnks prog mX8_saysAt ++ pmw mX8_saysAt).all uword = true := by decide +kernel
theorem ok_X8_saysAt : WFm prog mX8_saysAt := WFm.of2 kb_X8_saysAt kl_X8_saysAt km_X8_saysAt ku_X8_saysAt
theorem kb_X8_gains : pwB prog mX8_gains = true := by decide +kernel
theorem kl_X8_gains : plnks prog mX8_gains = ([1185, 1069, 1168, 1069, 1168, 1069, 1168, 1193, 1200, 1168] : List Nat).filterMap (nthT lw_tbl) := by decide +kernel
theorem km_X8_gains : pmw mX8_gains = [1184, 1183, 26, 74].filterMap (nthT lw_tbl) := by decide +kernel
theorem ku_X8_gains : (plnks prog mX8_gains ++ pmw mX8_gains).all uword = true := by decide +kernel
theorem ok_X8_gains : WFm prog mX8_gains := WFm.of2 kb_X8_gains kl_X8_gains km_X8_gains ku_X8_gains
theorem kb_X8_loses : pwB prog mX8_loses = true := by decide +kernel
theorem kl_X8_loses : plnks prog mX8_loses = ([1168] : List Nat).filterMap (nthT lw_tbl) := by decide +kernel
theorem km_X8_loses : pmw mX8_loses = [1206, 1205, 30, 74].filterMap (nthT lw_tbl) := by decide +kernel
theorem ku_X8_loses : (plnks prog mX8_loses ++ pmw mX8_loses).all uword = true := by decide +kernel
theorem ok_X8_loses : WFm prog mX8_loses := WFm.of2 kb_X8_loses kl_X8_loses km_X8_loses ku_X8_loses
theorem kb_X8_worth : pwB prog mX8_worth = true := by decide +kernel
theorem kl_X8_worth : plnks prog mX8_worth = ([1168, 1168] : List Nat).filterMap (nthT lw_tbl) := by decide +kernel
theorem km_X8_worth : pmw mX8_worth = [1210, 1209, 31, 74].filterMap (nthT lw_tbl) := by decide +kernel
theorem ku_X8_worth : (plnks prog mX8_worth ++ pmw mX8_worth).all uword = true := by decide +kernel
theorem ok_X8_worth : WFm prog mX8_worth := WFm.of2 kb_X8_worth kl_X8_worth km_X8_worth ku_X8_worth
theorem kb_X8_coversFrom : pwB prog mX8_coversFrom = true := by decide +kernel
theorem kl_X8_coversFrom : plnks prog mX8_coversFrom = ([1168, 1180] : List Nat).filterMap (nthT lw_tbl) := by decide +kernel
theorem km_X8_coversFrom : pmw mX8_coversFrom = [1179, 1178, 25, 74].filterMap (nthT lw_tbl) := by decide +kernel
theorem ku_X8_coversFrom : (plnks prog mX8_coversFrom ++ pmw mX8_coversFrom).all uword = true := by decide +kernel
theorem ok_X8_coversFrom : WFm prog mX8_coversFrom := WFm.of2 kb_X8_coversFrom kl_X8_coversFrom km_X8_coversFrom ku_X8_coversFrom
theorem kb_X8_covers : pwB prog mX8_covers = true := by decide +kernel
theorem kl_X8_covers : plnks prog mX8_covers = ([1168, 1176] : List Nat).filterMap (nthT lw_tbl) := by decide +kernel
theorem km_X8_covers : pmw mX8_covers = [1175, 1174, 24, 74].filterMap (nthT lw_tbl) := by decide +kernel
theorem ku_X8_covers : (plnks prog mX8_covers ++ pmw mX8_covers).all uword = true := by decide +kernel
theorem ok_X8_covers : WFm prog mX8_covers := WFm.of2 kb_X8_covers kl_X8_covers km_X8_covers ku_X8_covers
theorem kb_X8_told : pwB prog mX8_told = true := by decide +kernel
theorem kl_X8_told : plnks prog mX8_told = ([1164, 1150, 1168, 1172, 1181, 1203, 1207, 1150] : List Nat).filterMap (nthT lw_tbl) := by decide +kernel
theorem km_X8_told : pmw mX8_told = [1163, 1161, 1162, 74].filterMap (nthT lw_tbl) := by decide +kernel
theorem ku_X8_told : (plnks prog mX8_told ++ pmw mX8_told).all uword = true := by decide +kernel
theorem ok_X8_told : WFm prog mX8_told := WFm.of2 kb_X8_told kl_X8_told km_X8_told ku_X8_told
theorem kb_X8_says : pwB prog mX8_says = true := by decide +kernel
theorem kl_X8_says : plnks prog mX8_says = ([1164, 1168, 1145, 1215, 1150] : List Nat).filterMap (nthT lw_tbl) := by decide +kernel
theorem km_X8_says : pmw mX8_says = [1214, 1212, 1213, 74].filterMap (nthT lw_tbl) := by decide +kernel
theorem ku_X8_says : (plnks prog mX8_says ++ pmw mX8_says).all uword = true := by decide +kernel
theorem ok_X8_says : WFm prog mX8_says := WFm.of2 kb_X8_says kl_X8_says km_X8_says ku_X8_says
theorem kb_X8_isOf : pwB prog mX8_isOf = true := by decide +kernel
theorem kl_X8_isOf : plnks prog mX8_isOf = ([] : List Nat).filterMap (nthT lw_tbl) := by decide +kernel
theorem km_X8_isOf : pmw mX8_isOf = [1228, 1227, 74].filterMap (nthT lw_tbl) := by decide +kernel
theorem ku_X8_isOf : (plnks prog mX8_isOf ++ pmw mX8_isOf).all uword = true := by decide +kernel
theorem ok_X8_isOf : WFm prog mX8_isOf := WFm.of2 kb_X8_isOf kl_X8_isOf km_X8_isOf ku_X8_isOf
theorem kb_X8_as : pwB prog mX8_as = true := by decide +kernel
theorem kl_X8_as : plnks prog mX8_as = ([1164, 1144, 1145, 1150, 1168, 1226, 1168, 1229] : List Nat).filterMap (nthT lw_tbl) := by decide +kernel
theorem km_X8_as : pmw mX8_as = [1225, 1223, 1224, 74].filterMap (nthT lw_tbl) := by decide +kernel
theorem ku_X8_as : (plnks prog mX8_as ++ pmw mX8_as).all uword = true := by decide +kernel
theorem ok_X8_as : WFm prog mX8_as := WFm.of2 kb_X8_as kl_X8_as km_X8_as ku_X8_as
theorem kb_X8_turns : pwB prog mX8_turns = true := by decide +kernel
theorem kl_X8_turns : plnks prog mX8_turns = ([1164, 1144, 1145, 1234, 1150] : List Nat).filterMap (nthT lw_tbl) := by decide +kernel
theorem km_X8_turns : pmw mX8_turns = [1233, 1231, 1232, 74].filterMap (nthT lw_tbl) := by decide +kernel
theorem ku_X8_turns : (plnks prog mX8_turns ++ pmw mX8_turns).all uword = true := by decide +kernel
theorem ok_X8_turns : WFm prog mX8_turns := WFm.of2 kb_X8_turns kl_X8_turns km_X8_turns ku_X8_turns
theorem kb_X8_mostOf : pwB prog mX8_mostOf = true := by decide +kernel
theorem kl_X8_mostOf : plnks prog mX8_mostOf = ([1180] : List Nat).filterMap (nthT lw_tbl) := by decide +kernel
theorem km_X8_mostOf : pmw mX8_mostOf = [1244, 1243, 74].filterMap (nthT lw_tbl) := by decide +kernel
theorem ku_X8_mostOf : (plnks prog mX8_mostOf ++ pmw mX8_mostOf).all uword = true := by decide +kernel
theorem ok_X8_mostOf : WFm prog mX8_mostOf := WFm.of2 kb_X8_mostOf kl_X8_mostOf km_X8_mostOf ku_X8_mostOf
theorem kb_X8_set : pwB prog mX8_set = true := by decide +kernel
theorem kl_X8_set : plnks prog mX8_set = ([1164, 1144, 1145, 1242, 1145, 1150, 1234] : List Nat).filterMap (nthT lw_tbl) := by decide +kernel
theorem km_X8_set : pmw mX8_set = [1241, 1239, 1240, 74].filterMap (nthT lw_tbl) := by decide +kernel
theorem ku_X8_set : (plnks prog mX8_set ++ pmw mX8_set).all uword = true := by decide +kernel
theorem ok_X8_set : WFm prog mX8_set := WFm.of2 kb_X8_set kl_X8_set km_X8_set ku_X8_set
theorem kb_X8_carve : pwB prog mX8_carve = true := by decide +kernel
theorem kl_X8_carve : plnks prog mX8_carve = ([1249, 1145, 1250, 1145, 1234, 1150] : List Nat).filterMap (nthT lw_tbl) := by decide +kernel
theorem km_X8_carve : pmw mX8_carve = [1248, 1246, 1247, 74].filterMap (nthT lw_tbl) := by decide +kernel
theorem ku_X8_carve : (plnks prog mX8_carve ++ pmw mX8_carve).all uword = true := by decide +kernel
theorem ok_X8_carve : WFm prog mX8_carve := WFm.of2 kb_X8_carve kl_X8_carve km_X8_carve ku_X8_carve
theorem kb_X8_carved : pwB prog mX8_carved = true := by decide +kernel
theorem kl_X8_carved : plnks prog mX8_carved = ([1249, 1145, 1043, 1150] : List Nat).filterMap (nthT lw_tbl) := by decide +kernel
theorem km_X8_carved : pmw mX8_carved = [1254, 1252, 1253, 74].filterMap (nthT lw_tbl) := by decide +kernel
theorem ku_X8_carved : (plnks prog mX8_carved ++ pmw mX8_carved).all uword = true := by decide +kernel
theorem ok_X8_carved : WFm prog mX8_carved := WFm.of2 kb_X8_carved kl_X8_carved km_X8_carved ku_X8_carved
theorem kb_X8_deal : pwB prog mX8_deal = true := by decide +kernel
theorem kl_X8_deal : plnks prog mX8_deal = ([1259, 1145, 1150, 1043, 1260, 1260, 1265, 1260, 1152] : List Nat).filterMap (nthT lw_tbl) := by decide +kernel
theorem km_X8_deal : pmw mX8_deal = [1258, 1256, 1257, 74].filterMap (nthT lw_tbl) := by decide +kernel
theorem ku_X8_deal : (plnks prog mX8_deal ++ pmw mX8_deal).all uword = true := by decide +kernel
theorem ok_X8_deal : WFm prog mX8_deal := WFm.of2 kb_X8_deal kl_X8_deal km_X8_deal ku_X8_deal
theorem kb_X8_seed : pwB prog mX8_seed = true := by decide +kernel
theorem kl_X8_seed : plnks prog mX8_seed = ([1234] : List Nat).filterMap (nthT lw_tbl) := by decide +kernel
theorem km_X8_seed : pmw mX8_seed = [1269, 1267, 1268, 74].filterMap (nthT lw_tbl) := by decide +kernel
theorem ku_X8_seed : (plnks prog mX8_seed ++ pmw mX8_seed).all uword = true := by decide +kernel
theorem ok_X8_seed : WFm prog mX8_seed := WFm.of2 kb_X8_seed kl_X8_seed km_X8_seed ku_X8_seed
theorem kb_X8_falseOf : pwB prog mX8_falseOf = true := by decide +kernel
theorem kl_X8_falseOf : plnks prog mX8_falseOf = ([1168, 1215, 1043] : List Nat).filterMap (nthT lw_tbl) := by decide +kernel
theorem km_X8_falseOf : pmw mX8_falseOf = [1277, 1276, 35, 74].filterMap (nthT lw_tbl) := by decide +kernel
theorem ku_X8_falseOf : (plnks prog mX8_falseOf ++ pmw mX8_falseOf).all uword = true := by decide +kernel
theorem ok_X8_falseOf : WFm prog mX8_falseOf := WFm.of2 kb_X8_falseOf kl_X8_falseOf km_X8_falseOf ku_X8_falseOf
theorem kb_X8_falseAt : pwB prog mX8_falseAt = true := by decide +kernel
theorem kl_X8_falseAt : plnks prog mX8_falseAt = ([1164, 1249, 1145, 1274, 1150] : List Nat).filterMap (nthT lw_tbl) := by decide +kernel
theorem km_X8_falseAt : pmw mX8_falseAt = [1273, 1271, 1272, 74].filterMap (nthT lw_tbl) := by decide +kernel
theorem ku_X8_falseAt : (plnks prog mX8_falseAt ++ pmw mX8_falseAt).all uword = true := by decide +kernel
theorem ok_X8_falseAt : WFm prog mX8_falseAt := WFm.of2 kb_X8_falseAt kl_X8_falseAt km_X8_falseAt ku_X8_falseAt
theorem kb_X8_fits : pwB prog mX8_fits = true := by decide +kernel
theorem kl_X8_fits : plnks prog mX8_fits = ([1164, 1145, 1150, 1168, 1274, 1274, 1274] : List Nat).filterMap (nthT lw_tbl) := by decide +kernel
theorem km_X8_fits : pmw mX8_fits = [1281, 1279, 1280, 74].filterMap (nthT lw_tbl) := by decide +kernel
theorem ku_X8_fits : (plnks prog mX8_fits ++ pmw mX8_fits).all uword = true := by decide +kernel
theorem ok_X8_fits : WFm prog mX8_fits := WFm.of2 kb_X8_fits kl_X8_fits km_X8_fits ku_X8_fits
theorem kb_X8_joinBy : pwB prog mX8_joinBy = true := by decide +kernel
theorem kl_X8_joinBy : plnks prog mX8_joinBy = ([1168, 1168, 1215, 1215] : List Nat).filterMap (nthT lw_tbl) := by decide +kernel
theorem km_X8_joinBy : pmw mX8_joinBy = [1289, 1288, 36, 74].filterMap (nthT lw_tbl) := by decide +kernel
theorem ku_X8_joinBy : (plnks prog mX8_joinBy ++ pmw mX8_joinBy).all uword = true := by decide +kernel
theorem ok_X8_joinBy : WFm prog mX8_joinBy := WFm.of2 kb_X8_joinBy kl_X8_joinBy km_X8_joinBy ku_X8_joinBy
theorem kb_X8_join : pwB prog mX8_join = true := by decide +kernel
theorem kl_X8_join : plnks prog mX8_join = ([1164, 1164, 1145, 1150, 1168, 1286, 1286, 1286] : List Nat).filterMap (nthT lw_tbl) := by decide +kernel
theorem km_X8_join : pmw mX8_join = [1285, 1283, 1284, 74].filterMap (nthT lw_tbl) := by decide +kernel
theorem ku_X8_join : (plnks prog mX8_join ++ pmw mX8_join).all uword = true := by decide +kernel
theorem ok_X8_join : WFm prog mX8_join := WFm.of2 kb_X8_join kl_X8_join km_X8_join ku_X8_join
theorem kb_X8_doClash : pwB prog mX8_doClash = true := by decide +kernel
theorem kl_X8_doClash : plnks prog mX8_doClash = ([1172, 1172, 1168, 1215, 1168, 1215] : List Nat).filterMap (nthT lw_tbl) := by decide +kernel
theorem km_X8_doClash : pmw mX8_doClash = [1297, 1296, 37, 74].filterMap (nthT lw_tbl) := by decide +kernel
theorem ku_X8_doClash : (plnks prog mX8_doClash ++ pmw mX8_doClash).all uword = true := by decide +kernel
theorem ok_X8_doClash : WFm prog mX8_doClash := WFm.of2 kb_X8_doClash kl_X8_doClash km_X8_doClash ku_X8_doClash
