/-! ===== checks of the tables, piece 5 (printed by program) ===== -/
theorem kb_X8_clash : pwB prog mX8_clash = true := by decide +kernel
theorem kl_X8_clash : plnks prog mX8_clash = ([1164, 1164, 1150, 1294] : List Nat).filterMap (nthT lw_tbl) := by decide +kernel
theorem km_X8_clash : pmw mX8_clash = [1293, 1291, 1292, 74].filterMap (nthT lw_tbl) := by decide +kernel
theorem ku_X8_clash : (plnks prog mX8_clash ++ pmw mX8_clash).all uword = true := by decide +kernel
theorem ok_X8_clash : WFm prog mX8_clash := WFm.of2 kb_X8_clash kl_X8_clash km_X8_clash ku_X8_clash
theorem kb_X8_laidOnes : pwB prog mX8_laidOnes = true := by decide +kernel
theorem kl_X8_laidOnes : plnks prog mX8_laidOnes = ([1043, 1168] : List Nat).filterMap (nthT lw_tbl) := by decide +kernel
theorem km_X8_laidOnes : pmw mX8_laidOnes = [1309, 1308, 39, 74].filterMap (nthT lw_tbl) := by decide +kernel
theorem ku_X8_laidOnes : (plnks prog mX8_laidOnes ++ pmw mX8_laidOnes).all uword = true := by decide +kernel
theorem ok_X8_laidOnes : WFm prog mX8_laidOnes := WFm.of2 kb_X8_laidOnes kl_X8_laidOnes km_X8_laidOnes ku_X8_laidOnes
theorem kb_X8_coveredBy : pwB prog mX8_coveredBy = true := by decide +kernel
theorem kl_X8_coveredBy : plnks prog mX8_coveredBy = ([1043, 1172] : List Nat).filterMap (nthT lw_tbl) := by decide +kernel
theorem km_X8_coveredBy : pmw mX8_coveredBy = [1324, 1323, 41, 74].filterMap (nthT lw_tbl) := by decide +kernel
theorem ku_X8_coveredBy : (plnks prog mX8_coveredBy ++ pmw mX8_coveredBy).all uword = true := by decide +kernel
theorem ok_X8_coveredBy : WFm prog mX8_coveredBy := WFm.of2 kb_X8_coveredBy kl_X8_coveredBy km_X8_coveredBy ku_X8_coveredBy
theorem kb_X8_findClashing : pwB prog mX8_findClashing = true := by decide +kernel
theorem kl_X8_findClashing : plnks prog mX8_findClashing = ([1043, 1055, 1043, 1055, 1294] : List Nat).filterMap (nthT lw_tbl) := by decide +kernel
theorem km_X8_findClashing : pmw mX8_findClashing = [1305, 1304, 38, 74].filterMap (nthT lw_tbl) := by decide +kernel
theorem ku_X8_findClashing : (plnks prog mX8_findClashing ++ pmw mX8_findClashing).all uword = true := by decide +kernel
theorem ok_X8_findClashing : WFm prog mX8_findClashing := WFm.of2 kb_X8_findClashing kl_X8_findClashing km_X8_findClashing ku_X8_findClashing
theorem kb_X8_areAtPeace : pwB prog mX8_areAtPeace = true := by decide +kernel
theorem kl_X8_areAtPeace : plnks prog mX8_areAtPeace = ([1043, 1055] : List Nat).filterMap (nthT lw_tbl) := by decide +kernel
theorem km_X8_areAtPeace : pmw mX8_areAtPeace = [1316, 1315, 40, 74].filterMap (nthT lw_tbl) := by decide +kernel
theorem ku_X8_areAtPeace : (plnks prog mX8_areAtPeace ++ pmw mX8_areAtPeace).all uword = true := by decide +kernel
theorem ok_X8_areAtPeace : WFm prog mX8_areAtPeace := WFm.of2 kb_X8_areAtPeace kl_X8_areAtPeace km_X8_areAtPeace ku_X8_areAtPeace
theorem kb_X8_undone : pwB prog mX8_undone = true := by decide +kernel
theorem kl_X8_undone : plnks prog mX8_undone = ([1302, 1306, 1310, 1310, 1313] : List Nat).filterMap (nthT lw_tbl) := by decide +kernel
theorem km_X8_undone : pmw mX8_undone = [1301, 1299, 1300, 74].filterMap (nthT lw_tbl) := by decide +kernel
theorem ku_X8_undone : (plnks prog mX8_undone ++ pmw mX8_undone).all uword = true := by decide +kernel
theorem ok_X8_undone : WFm prog mX8_undone := WFm.of2 kb_X8_undone kl_X8_undone km_X8_undone ku_X8_undone
theorem kb_X8_borne : pwB prog mX8_borne = true := by decide +kernel
theorem kl_X8_borne : plnks prog mX8_borne = ([1306, 1321, 1310, 1310, 1321] : List Nat).filterMap (nthT lw_tbl) := by decide +kernel
theorem km_X8_borne : pmw mX8_borne = [1320, 1318, 1319, 74].filterMap (nthT lw_tbl) := by decide +kernel
theorem ku_X8_borne : (plnks prog mX8_borne ++ pmw mX8_borne).all uword = true := by decide +kernel
theorem ok_X8_borne : WFm prog mX8_borne := WFm.of2 kb_X8_borne kl_X8_borne km_X8_borne ku_X8_borne
theorem kb_X8_otherwiseAt : pwB prog mX8_otherwiseAt = true := by decide +kernel
theorem kl_X8_otherwiseAt : plnks prog mX8_otherwiseAt = ([1043, 1172, 1168, 1215, 1043] : List Nat).filterMap (nthT lw_tbl) := by decide +kernel
theorem km_X8_otherwiseAt : pmw mX8_otherwiseAt = [1332, 1331, 42, 74].filterMap (nthT lw_tbl) := by decide +kernel
theorem ku_X8_otherwiseAt : (plnks prog mX8_otherwiseAt ++ pmw mX8_otherwiseAt).all uword = true := by decide +kernel
theorem ok_X8_otherwiseAt : WFm prog mX8_otherwiseAt := WFm.of2 kb_X8_otherwiseAt kl_X8_otherwiseAt km_X8_otherwiseAt ku_X8_otherwiseAt
theorem kb_X8_look : pwB prog mX8_look = true := by decide +kernel
theorem kl_X8_look : plnks prog mX8_look = ([1145, 1150, 1329, 1329, 1329] : List Nat).filterMap (nthT lw_tbl) := by decide +kernel
theorem km_X8_look : pmw mX8_look = [1328, 1326, 1327, 74].filterMap (nthT lw_tbl) := by decide +kernel
theorem ku_X8_look : (plnks prog mX8_look ++ pmw mX8_look).all uword = true := by decide +kernel
theorem ok_X8_look : WFm prog mX8_look := WFm.of2 kb_X8_look kl_X8_look km_X8_look ku_X8_look
theorem kb_X8_goesOn : pwB prog mX8_goesOn = true := by decide +kernel
theorem kl_X8_goesOn : plnks prog mX8_goesOn = ([1260, 1043, 1172, 1168, 1215, 1043, 1168, 1181, 1203, 1200, 1156, 1156, 1043, 1043] : List Nat).filterMap (nthT lw_tbl) := by decide +kernel
theorem km_X8_goesOn : pmw mX8_goesOn = [1341, 1340, 43, 74].filterMap (nthT lw_tbl) := by decide +kernel
theorem ku_X8_goesOn : (plnks prog mX8_goesOn ++ pmw mX8_goesOn).all uword = true := by decide +kernel
theorem ok_X8_goesOn : WFm prog mX8_goesOn := WFm.of2 kb_X8_goesOn kl_X8_goesOn km_X8_goesOn ku_X8_goesOn
theorem kb_X8_goesOnMany : pwB prog mX8_goesOnMany = true := by decide +kernel
theorem kl_X8_goesOnMany : plnks prog mX8_goesOnMany = ([1338] : List Nat).filterMap (nthT lw_tbl) := by decide +kernel
theorem km_X8_goesOnMany : pmw mX8_goesOnMany = [1361, 1360, 46, 74].filterMap (nthT lw_tbl) := by decide +kernel
theorem ku_X8_goesOnMany : (plnks prog mX8_goesOnMany ++ pmw mX8_goesOnMany).all uword = true := by decide +kernel
theorem ok_X8_goesOnMany : WFm prog mX8_goesOnMany := WFm.of2 kb_X8_goesOnMany kl_X8_goesOnMany km_X8_goesOnMany ku_X8_goesOnMany
theorem kb_X8_tides : pwB prog mX8_tides = true := by decide +kernel
theorem kl_X8_tides : plnks prog mX8_tides = ([1337, 1145, 1150, 1043, 1043, 1338, 1043] : List Nat).filterMap (nthT lw_tbl) := by decide +kernel
theorem km_X8_tides : pmw mX8_tides = [1336, 1334, 1335, 74].filterMap (nthT lw_tbl) := by decide +kernel
theorem ku_X8_tides : (plnks prog mX8_tides ++ pmw mX8_tides).all uword = true := by decide +kernel
theorem ok_X8_tides : WFm prog mX8_tides := WFm.of2 kb_X8_tides kl_X8_tides km_X8_tides ku_X8_tides
theorem kb_X8_allTrust : pwB prog mX8_allTrust = true := by decide +kernel
theorem kl_X8_allTrust : plnks prog mX8_allTrust = ([1043, 1168] : List Nat).filterMap (nthT lw_tbl) := by decide +kernel
theorem km_X8_allTrust : pmw mX8_allTrust = [1349, 1348, 44, 74].filterMap (nthT lw_tbl) := by decide +kernel
theorem ku_X8_allTrust : (plnks prog mX8_allTrust ++ pmw mX8_allTrust).all uword = true := by decide +kernel
theorem ok_X8_allTrust : WFm prog mX8_allTrust := WFm.of2 kb_X8_allTrust kl_X8_allTrust km_X8_allTrust ku_X8_allTrust
theorem kb_X8_book : pwB prog mX8_book = true := by decide +kernel
theorem kl_X8_book : plnks prog mX8_book = ([1043, 1346, 1306, 1180, 1306, 1321, 1150] : List Nat).filterMap (nthT lw_tbl) := by decide +kernel
theorem km_X8_book : pmw mX8_book = [1345, 1343, 1344, 74].filterMap (nthT lw_tbl) := by decide +kernel
theorem ku_X8_book : (plnks prog mX8_book ++ pmw mX8_book).all uword = true := by decide +kernel
theorem ok_X8_book : WFm prog mX8_book := WFm.of2 kb_X8_book kl_X8_book km_X8_book ku_X8_book
theorem kb_X8_laysBy : pwB prog mX8_laysBy = true := by decide +kernel
theorem kl_X8_laysBy : plnks prog mX8_laysBy = ([1056, 1043] : List Nat).filterMap (nthT lw_tbl) := by decide +kernel
theorem km_X8_laysBy : pmw mX8_laysBy = [1357, 1356, 45, 74].filterMap (nthT lw_tbl) := by decide +kernel
theorem ku_X8_laysBy : (plnks prog mX8_laysBy ++ pmw mX8_laysBy).all uword = true := by decide +kernel
theorem ok_X8_laysBy : WFm prog mX8_laysBy := WFm.of2 kb_X8_laysBy kl_X8_laysBy km_X8_laysBy ku_X8_laysBy
theorem kb_X8_laysBack : pwB prog mX8_laysBack = true := by decide +kernel
theorem kl_X8_laysBack : plnks prog mX8_laysBack = ([1043, 1056] : List Nat).filterMap (nthT lw_tbl) := by decide +kernel
theorem km_X8_laysBack : pmw mX8_laysBack = [1365, 1364, 47, 74].filterMap (nthT lw_tbl) := by decide +kernel
theorem ku_X8_laysBack : (plnks prog mX8_laysBack ++ pmw mX8_laysBack).all uword = true := by decide +kernel
theorem ok_X8_laysBack : WFm prog mX8_laysBack := WFm.of2 kb_X8_laysBack kl_X8_laysBack km_X8_laysBack ku_X8_laysBack
theorem kb_X8_behind : pwB prog mX8_behind = true := by decide +kernel
theorem kl_X8_behind : plnks prog mX8_behind = ([1337, 1145, 1043, 1145, 1150, 1354, 1358, 1346, 1306, 1043, 1168, 1362] : List Nat).filterMap (nthT lw_tbl) := by decide +kernel
theorem km_X8_behind : pmw mX8_behind = [1353, 1351, 1352, 74].filterMap (nthT lw_tbl) := by decide +kernel
theorem ku_X8_behind : (plnks prog mX8_behind ++ pmw mX8_behind).all uword = true := by decide +kernel
theorem ok_X8_behind : WFm prog mX8_behind := WFm.of2 kb_X8_behind kl_X8_behind km_X8_behind ku_X8_behind
theorem kb_X8_lasts : pwB prog mX8_lasts = true := by decide +kernel
theorem kl_X8_lasts : plnks prog mX8_lasts = ([1354, 1306, 1338, 1362, 1370] : List Nat).filterMap (nthT lw_tbl) := by decide +kernel
theorem km_X8_lasts : pmw mX8_lasts = [1369, 1367, 1368, 74].filterMap (nthT lw_tbl) := by decide +kernel
theorem ku_X8_lasts : (plnks prog mX8_lasts ++ pmw mX8_lasts).all uword = true := by decide +kernel
theorem ok_X8_lasts : WFm prog mX8_lasts := WFm.of2 kb_X8_lasts kl_X8_lasts km_X8_lasts ku_X8_lasts
theorem kb_X8_best : pwB prog mX8_best = true := by decide +kernel
theorem kl_X8_best : plnks prog mX8_best = ([1164, 1378, 1145, 1145, 1150, 1354, 1156, 1358, 1168, 1362] : List Nat).filterMap (nthT lw_tbl) := by decide +kernel
theorem km_X8_best : pmw mX8_best = [1377, 1375, 1376, 74].filterMap (nthT lw_tbl) := by decide +kernel
theorem ku_X8_best : (plnks prog mX8_best ++ pmw mX8_best).all uword = true := by decide +kernel
theorem ok_X8_best : WFm prog mX8_best := WFm.of2 kb_X8_best kl_X8_best km_X8_best ku_X8_best
theorem kb_X8_taught : pwB prog mX8_taught = true := by decide +kernel
theorem kl_X8_taught : plnks prog mX8_taught = ([1378, 1145, 1145, 1150, 1354, 1043, 1043, 1358, 1346, 1362] : List Nat).filterMap (nthT lw_tbl) := by decide +kernel
theorem km_X8_taught : pmw mX8_taught = [1382, 1380, 1381, 74].filterMap (nthT lw_tbl) := by decide +kernel
theorem ku_X8_taught : (plnks prog mX8_taught ++ pmw mX8_taught).all uword = true := by decide +kernel
theorem ok_X8_taught : WFm prog mX8_taught := WFm.of2 kb_X8_taught kl_X8_taught km_X8_taught ku_X8_taught
theorem kb_X8_fee : pwB prog mX8_fee = true := by decide +kernel
theorem kl_X8_fee : plnks prog mX8_fee = ([1185, 1043, 1069, 1043, 1069, 1043, 1193] : List Nat).filterMap (nthT lw_tbl) := by decide +kernel
theorem km_X8_fee : pmw mX8_fee = [1386, 1384, 1385, 74].filterMap (nthT lw_tbl) := by decide +kernel
theorem ku_X8_fee : (plnks prog mX8_fee ++ pmw mX8_fee).all uword = true := by decide +kernel
theorem ok_X8_fee : WFm prog mX8_fee := WFm.of2 kb_X8_fee kl_X8_fee km_X8_fee ku_X8_fee
theorem kb_X8_fine : pwB prog mX8_fine = true := by decide +kernel
theorem kl_X8_fine : plnks prog mX8_fine = ([1164, 1150, 1185, 1168, 1069, 1168, 1069, 1168, 1193] : List Nat).filterMap (nthT lw_tbl) := by decide +kernel
theorem km_X8_fine : pmw mX8_fine = [1390, 1388, 1389, 74].filterMap (nthT lw_tbl) := by decide +kernel
theorem ku_X8_fine : (plnks prog mX8_fine ++ pmw mX8_fine).all uword = true := by decide +kernel
theorem ok_X8_fine : WFm prog mX8_fine := WFm.of2 kb_X8_fine kl_X8_fine km_X8_fine ku_X8_fine
theorem kb_X8_feed : pwB prog mX8_feed = true := by decide +kernel
theorem kl_X8_feed : plnks prog mX8_feed = ([1058, 1151, 1057, 1058, 1058, 1058, 1058] : List Nat).filterMap (nthT lw_tbl) := by decide +kernel
theorem km_X8_feed : pmw mX8_feed = [1394, 1392, 1393, 74].filterMap (nthT lw_tbl) := by decide +kernel
theorem ku_X8_feed : (plnks prog mX8_feed ++ pmw mX8_feed).all uword = true := by decide +kernel
theorem ok_X8_feed : WFm prog mX8_feed := WFm.of2 kb_X8_feed kl_X8_feed km_X8_feed ku_X8_feed
theorem kb_X8_trim : pwB prog mX8_trim = true := by decide +kernel
theorem kl_X8_trim : plnks prog mX8_trim = ([1058, 1145, 1150, 1058] : List Nat).filterMap (nthT lw_tbl) := by decide +kernel
theorem km_X8_trim : pmw mX8_trim = [1398, 1396, 1397, 74].filterMap (nthT lw_tbl) := by decide +kernel
theorem ku_X8_trim : (plnks prog mX8_trim ++ pmw mX8_trim).all uword = true := by decide +kernel
theorem ok_X8_trim : WFm prog mX8_trim := WFm.of2 kb_X8_trim kl_X8_trim km_X8_trim ku_X8_trim
theorem kb_X8_isLetter : pwB prog mX8_isLetter = true := by decide +kernel
theorem kl_X8_isLetter : plnks prog mX8_isLetter = ([1058, 1057, 1415, 1416, 1145] : List Nat).filterMap (nthT lw_tbl) := by decide +kernel
theorem km_X8_isLetter : pmw mX8_isLetter = [1414, 1413, 50, 74].filterMap (nthT lw_tbl) := by decide +kernel
theorem ku_X8_isLetter : (plnks prog mX8_isLetter ++ pmw mX8_isLetter).all uword = true := by decide +kernel
theorem ok_X8_isLetter : WFm prog mX8_isLetter := WFm.of2 kb_X8_isLetter kl_X8_isLetter km_X8_isLetter ku_X8_isLetter
theorem kb_X8_isDigit : pwB prog mX8_isDigit = true := by decide +kernel
theorem kl_X8_isDigit : plnks prog mX8_isDigit = ([1058, 1057, 1421, 1422, 1145] : List Nat).filterMap (nthT lw_tbl) := by decide +kernel
theorem km_X8_isDigit : pmw mX8_isDigit = [1420, 1419, 51, 74].filterMap (nthT lw_tbl) := by decide +kernel
theorem ku_X8_isDigit : (plnks prog mX8_isDigit ++ pmw mX8_isDigit).all uword = true := by decide +kernel
theorem ok_X8_isDigit : WFm prog mX8_isDigit := WFm.of2 kb_X8_isDigit kl_X8_isDigit km_X8_isDigit ku_X8_isDigit
theorem kb_X8_nextToken : pwB prog mX8_nextToken = true := by decide +kernel
theorem kl_X8_nextToken : plnks prog mX8_nextToken = ([1060, 1061, 1061, 1060, 1060, 1058, 1057, 1060, 1060, 1060, 1060, 1060, 1059, 1059, 1058, 1061, 1059, 1411, 1060, 1411, 1060, 1060, 1061, 1060, 1059, 1057, 1059, 1063, 1059, 1417, 1062, 1060, 1417, 1060, 1059, 1062, 1057, 1060, 1062, 1062, 1060, 1060, 1060, 1059, 1061, 1061, 1057, 1059, 1063, 1060, 1060] : List Nat).filterMap (nthT lw_tbl) := by decide +kernel
theorem km_X8_nextToken : pmw mX8_nextToken = [1410, 1409, 49, 74].filterMap (nthT lw_tbl) := by decide +kernel
theorem ku_X8_nextToken : (plnks prog mX8_nextToken ++ pmw mX8_nextToken).all uword = true := by decide +kernel
theorem ok_X8_nextToken : WFm prog mX8_nextToken := WFm.of2 kb_X8_nextToken kl_X8_nextToken km_X8_nextToken ku_X8_nextToken
