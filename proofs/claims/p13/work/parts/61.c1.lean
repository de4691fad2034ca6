/-! ===== checks of the tables, piece 1 (printed by program) ===== -/
theorem kb_X3_at : pwB prog mX3_at = true := by decide +kernel
theorem kl_X3_at : plnks prog mX3_at = ([707, 272, 272, 711] : List Nat).filterMap (nthT lw_tbl) := by decide +kernel
theorem km_X3_at : pmw mX3_at = [706, 704, 705, 72].filterMap (nthT lw_tbl) := by decide +kernel
theorem ku_X3_at : (plnks prog mX3_at ++ pmw mX3_at).all uword = true := by decide +kernel
theorem ok_X3_at : WFm prog mX3_at := WFm.of2 kb_X3_at kl_X3_at km_X3_at ku_X3_at
theorem kb_X3_put : pwB prog mX3_put = true := by decide +kernel
theorem kl_X3_put : plnks prog mX3_put = ([707, 272, 272] : List Nat).filterMap (nthT lw_tbl) := by decide +kernel
theorem km_X3_put : pmw mX3_put = [969, 967, 968, 72].filterMap (nthT lw_tbl) := by decide +kernel
theorem ku_X3_put : (plnks prog mX3_put ++ pmw mX3_put).all uword = true := by decide +kernel
theorem ok_X3_put : WFm prog mX3_put := WFm.of2 kb_X3_put kl_X3_put km_X3_put ku_X3_put
theorem kb_X3_takeFrom : pwB prog mX3_takeFrom = true := by decide +kernel
theorem kl_X3_takeFrom : plnks prog mX3_takeFrom = ([272, 272, 1003, 664, 663, 77, 274, 274, 276, 276] : List Nat).filterMap (nthT lw_tbl) := by decide +kernel
theorem km_X3_takeFrom : pmw mX3_takeFrom = [1002, 1000, 1001, 72].filterMap (nthT lw_tbl) := by decide +kernel
theorem ku_X3_takeFrom : (plnks prog mX3_takeFrom ++ pmw mX3_takeFrom).all uword = true := by decide +kernel
theorem ok_X3_takeFrom : WFm prog mX3_takeFrom := WFm.of2 kb_X3_takeFrom kl_X3_takeFrom km_X3_takeFrom ku_X3_takeFrom
theorem kb_X4_init : pwB prog mX4_init = true := by decide +kernel
theorem kl_X4_init : plnks prog mX4_init = ([155, 89, 90, 159, 164, 167] : List Nat).filterMap (nthT lw_tbl) := by decide +kernel
theorem km_X4_init : pmw mX4_init = [154, 153, 70].filterMap (nthT lw_tbl) := by decide +kernel
theorem ku_X4_init : (plnks prog mX4_init ++ pmw mX4_init).all uword = true := by decide +kernel
theorem ok_X4_init : WFm prog mX4_init := WFm.of2 kb_X4_init kl_X4_init km_X4_init ku_X4_init
theorem kb_X4_begin : pwB prog mX4_begin = true := by decide +kernel
theorem kl_X4_begin : plnks prog mX4_begin = ([156, 158, 159, 163, 164, 167] : List Nat).filterMap (nthT lw_tbl) := by decide +kernel
theorem km_X4_begin : pmw mX4_begin = [368, 366, 367, 70].filterMap (nthT lw_tbl) := by decide +kernel
theorem ku_X4_begin : (plnks prog mX4_begin ++ pmw mX4_begin).all uword = true := by decide +kernel
theorem ok_X4_begin : WFm prog mX4_begin := WFm.of2 kb_X4_begin kl_X4_begin km_X4_begin ku_X4_begin
theorem kb_X4_takeFrom : pwB prog mX4_takeFrom = true := by decide +kernel
theorem kl_X4_takeFrom : plnks prog mX4_takeFrom = ([156, 156, 158, 158, 159, 159, 163, 163, 164, 164, 167, 167] : List Nat).filterMap (nthT lw_tbl) := by decide +kernel
theorem km_X4_takeFrom : pmw mX4_takeFrom = [668, 666, 667, 70].filterMap (nthT lw_tbl) := by decide +kernel
theorem ku_X4_takeFrom : (plnks prog mX4_takeFrom ++ pmw mX4_takeFrom).all uword = true := by decide +kernel
theorem ok_X4_takeFrom : WFm prog mX4_takeFrom := WFm.of2 kb_X4_takeFrom kl_X4_takeFrom km_X4_takeFrom ku_X4_takeFrom
theorem kb_X4_value : pwB prog mX4_value = true := by decide +kernel
theorem kl_X4_value : plnks prog mX4_value = ([158, 159, 163, 164, 167] : List Nat).filterMap (nthT lw_tbl) := by decide +kernel
theorem km_X4_value : pmw mX4_value = [462, 460, 461, 70].filterMap (nthT lw_tbl) := by decide +kernel
theorem ku_X4_value : (plnks prog mX4_value ++ pmw mX4_value).all uword = true := by decide +kernel
theorem ok_X4_value : WFm prog mX4_value := WFm.of2 kb_X4_value kl_X4_value km_X4_value ku_X4_value
theorem kb_X4_become : pwB prog mX4_become = true := by decide +kernel
theorem kl_X4_become : plnks prog mX4_become = ([158, 159, 163, 164, 167] : List Nat).filterMap (nthT lw_tbl) := by decide +kernel
theorem km_X4_become : pmw mX4_become = [511, 509, 510, 70].filterMap (nthT lw_tbl) := by decide +kernel
theorem ku_X4_become : (plnks prog mX4_become ++ pmw mX4_become).all uword = true := by decide +kernel
theorem ok_X4_become : WFm prog mX4_become := WFm.of2 kb_X4_become kl_X4_become km_X4_become ku_X4_become
theorem kb_X4_isOf : pwB prog mX4_isOf = true := by decide +kernel
theorem kl_X4_isOf : plnks prog mX4_isOf = ([] : List Nat).filterMap (nthT lw_tbl) := by decide +kernel
theorem km_X4_isOf : pmw mX4_isOf = [490, 488, 489, 70].filterMap (nthT lw_tbl) := by decide +kernel
theorem ku_X4_isOf : (plnks prog mX4_isOf ++ pmw mX4_isOf).all uword = true := by decide +kernel
theorem ok_X4_isOf : WFm prog mX4_isOf := WFm.of2 kb_X4_isOf kl_X4_isOf km_X4_isOf ku_X4_isOf
theorem kb_X4_isLaid : pwB prog mX4_isLaid = true := by decide +kernel
theorem kl_X4_isLaid : plnks prog mX4_isLaid = ([164] : List Nat).filterMap (nthT lw_tbl) := by decide +kernel
theorem km_X4_isLaid : pmw mX4_isLaid = [386, 384, 385, 70].filterMap (nthT lw_tbl) := by decide +kernel
theorem ku_X4_isLaid : (plnks prog mX4_isLaid ++ pmw mX4_isLaid).all uword = true := by decide +kernel
theorem ok_X4_isLaid : WFm prog mX4_isLaid := WFm.of2 kb_X4_isLaid kl_X4_isLaid km_X4_isLaid ku_X4_isLaid
theorem kb_X4_covers : pwB prog mX4_covers = true := by decide +kernel
theorem kl_X4_covers : plnks prog mX4_covers = ([383, 387, 164, 164, 159] : List Nat).filterMap (nthT lw_tbl) := by decide +kernel
theorem km_X4_covers : pmw mX4_covers = [382, 380, 381, 70].filterMap (nthT lw_tbl) := by decide +kernel
theorem ku_X4_covers : (plnks prog mX4_covers ++ pmw mX4_covers).all uword = true := by decide +kernel
theorem ok_X4_covers : WFm prog mX4_covers := WFm.of2 kb_X4_covers kl_X4_covers km_X4_covers ku_X4_covers
theorem kb_X4_covered : pwB prog mX4_covered = true := by decide +kernel
theorem kl_X4_covered : plnks prog mX4_covered = ([379] : List Nat).filterMap (nthT lw_tbl) := by decide +kernel
theorem km_X4_covered : pmw mX4_covered = [378, 376, 377, 70].filterMap (nthT lw_tbl) := by decide +kernel
theorem ku_X4_covered : (plnks prog mX4_covered ++ pmw mX4_covered).all uword = true := by decide +kernel
theorem ok_X4_covered : WFm prog mX4_covered := WFm.of2 kb_X4_covered kl_X4_covered km_X4_covered ku_X4_covered
theorem kb_X4_sayAt : pwB prog mX4_sayAt = true := by decide +kernel
theorem kl_X4_sayAt : plnks prog mX4_sayAt = ([159, 156, 471, 475, 471, 475, 475, 471, 479, 159, 471, 479, 471] : List Nat).filterMap (nthT lw_tbl) := by decide +kernel
theorem km_X4_sayAt : pmw mX4_sayAt = [470, 468, 469, 70].filterMap (nthT lw_tbl) := by decide +kernel
theorem ku_X4_sayAt : (plnks prog mX4_sayAt ++ pmw mX4_sayAt).all uword = true := by decide +kernel
theorem ok_X4_sayAt : WFm prog mX4_sayAt := WFm.of2 kb_X4_sayAt kl_X4_sayAt km_X4_sayAt ku_X4_sayAt
theorem kb_X4_rubbedAt : pwB prog mX4_rubbedAt = true := by decide +kernel
theorem kl_X4_rubbedAt : plnks prog mX4_rubbedAt = ([163, 159, 158] : List Nat).filterMap (nthT lw_tbl) := by decide +kernel
theorem km_X4_rubbedAt : pmw mX4_rubbedAt = [474, 473, 2, 70].filterMap (nthT lw_tbl) := by decide +kernel
theorem ku_X4_rubbedAt : (plnks prog mX4_rubbedAt ++ pmw mX4_rubbedAt).all uword = true := by decide +kernel
theorem ok_X4_rubbedAt : WFm prog mX4_rubbedAt := WFm.of2 kb_X4_rubbedAt kl_X4_rubbedAt km_X4_rubbedAt ku_X4_rubbedAt
theorem kb_X4_bolder : pwB prog mX4_bolder = true := by decide +kernel
theorem kl_X4_bolder : plnks prog mX4_bolder = ([478, 439, 75, 440] : List Nat).filterMap (nthT lw_tbl) := by decide +kernel
theorem km_X4_bolder : pmw mX4_bolder = [477, 476, 70].filterMap (nthT lw_tbl) := by decide +kernel
theorem ku_X4_bolder : (plnks prog mX4_bolder ++ pmw mX4_bolder).all uword = true := by decide +kernel
theorem ok_X4_bolder : WFm prog mX4_bolder := WFm.of2 kb_X4_bolder kl_X4_bolder km_X4_bolder ku_X4_bolder
theorem kb_X4_fainter : pwB prog mX4_fainter = true := by decide +kernel
theorem kl_X4_fainter : plnks prog mX4_fainter = ([482, 442, 75, 443] : List Nat).filterMap (nthT lw_tbl) := by decide +kernel
theorem km_X4_fainter : pmw mX4_fainter = [481, 480, 70].filterMap (nthT lw_tbl) := by decide +kernel
theorem ku_X4_fainter : (plnks prog mX4_fainter ++ pmw mX4_fainter).all uword = true := by decide +kernel
theorem ok_X4_fainter : WFm prog mX4_fainter := WFm.of2 kb_X4_fainter kl_X4_fainter km_X4_fainter ku_X4_fainter
theorem kb_X4_gainOver : pwB prog mX4_gainOver = true := by decide +kernel
theorem kl_X4_gainOver : plnks prog mX4_gainOver = ([156] : List Nat).filterMap (nthT lw_tbl) := by decide +kernel
theorem km_X4_gainOver : pmw mX4_gainOver = [447, 445, 446, 70].filterMap (nthT lw_tbl) := by decide +kernel
theorem ku_X4_gainOver : (plnks prog mX4_gainOver ++ pmw mX4_gainOver).all uword = true := by decide +kernel
theorem ok_X4_gainOver : WFm prog mX4_gainOver := WFm.of2 kb_X4_gainOver kl_X4_gainOver km_X4_gainOver ku_X4_gainOver
theorem kb_X4_loss : pwB prog mX4_loss = true := by decide +kernel
theorem kl_X4_loss : plnks prog mX4_loss = ([156] : List Nat).filterMap (nthT lw_tbl) := by decide +kernel
theorem km_X4_loss : pmw mX4_loss = [451, 449, 450, 70].filterMap (nthT lw_tbl) := by decide +kernel
theorem ku_X4_loss : (plnks prog mX4_loss ++ pmw mX4_loss).all uword = true := by decide +kernel
theorem ok_X4_loss : WFm prog mX4_loss := WFm.of2 kb_X4_loss kl_X4_loss km_X4_loss ku_X4_loss
theorem kb_X4_worth : pwB prog mX4_worth = true := by decide +kernel
theorem kl_X4_worth : plnks prog mX4_worth = ([156, 167, 167, 167, 167, 167] : List Nat).filterMap (nthT lw_tbl) := by decide +kernel
theorem km_X4_worth : pmw mX4_worth = [455, 453, 454, 70].filterMap (nthT lw_tbl) := by decide +kernel
theorem ku_X4_worth : (plnks prog mX4_worth ++ pmw mX4_worth).all uword = true := by decide +kernel
theorem ok_X4_worth : WFm prog mX4_worth := WFm.of2 kb_X4_worth kl_X4_worth km_X4_worth ku_X4_worth
theorem kb_X4_joined : pwB prog mX4_joined = true := by decide +kernel
theorem kl_X4_joined : plnks prog mX4_joined = ([159, 159, 565, 565] : List Nat).filterMap (nthT lw_tbl) := by decide +kernel
theorem km_X4_joined : pmw mX4_joined = [564, 562, 563, 70].filterMap (nthT lw_tbl) := by decide +kernel
theorem ku_X4_joined : (plnks prog mX4_joined ++ pmw mX4_joined).all uword = true := by decide +kernel
theorem ok_X4_joined : WFm prog mX4_joined := WFm.of2 kb_X4_joined kl_X4_joined km_X4_joined ku_X4_joined
theorem kb_X4_clashes : pwB prog mX4_clashes = true := by decide +kernel
theorem kl_X4_clashes : plnks prog mX4_clashes = ([379, 379, 164, 565, 164, 565] : List Nat).filterMap (nthT lw_tbl) := by decide +kernel
theorem km_X4_clashes : pmw mX4_clashes = [573, 571, 572, 70].filterMap (nthT lw_tbl) := by decide +kernel
theorem ku_X4_clashes : (plnks prog mX4_clashes ++ pmw mX4_clashes).all uword = true := by decide +kernel
theorem ok_X4_clashes : WFm prog mX4_clashes := WFm.of2 kb_X4_clashes kl_X4_clashes km_X4_clashes ku_X4_clashes
theorem kb_X5_init : pwB prog mX5_init = true := by decide +kernel
theorem kl_X5_init : plnks prog mX5_init = ([289, 89, 90, 290, 151, 70, 291, 294, 292, 267, 72, 293, 296, 298] : List Nat).filterMap (nthT lw_tbl) := by decide +kernel
theorem km_X5_init : pmw mX5_init = [288, 287, 73].filterMap (nthT lw_tbl) := by decide +kernel
theorem ku_X5_init : (plnks prog mX5_init ++ pmw mX5_init).all uword = true := by decide +kernel
theorem ok_X5_init : WFm prog mX5_init := WFm.of2 kb_X5_init kl_X5_init km_X5_init ku_X5_init
theorem kb_X6_init : pwB prog mX6_init = true := by decide +kernel
theorem kl_X6_init : plnks prog mX6_init = ([144, 89, 90, 123, 185, 145, 146, 186, 123, 187, 123, 188, 199, 184, 188, 147, 148, 186, 186, 145, 151, 70, 152] : List Nat).filterMap (nthT lw_tbl) := by decide +kernel
theorem km_X6_init : pmw mX6_init = [143, 142, 68].filterMap (nthT lw_tbl) := by decide +kernel
theorem ku_X6_init : (plnks prog mX6_init ++ pmw mX6_init).all uword = true := by decide +kernel
theorem ok_X6_init : WFm prog mX6_init := WFm.of2 kb_X6_init kl_X6_init km_X6_init ku_X6_init
theorem kb_X6_takeFrom : pwB prog mX6_takeFrom = true := by decide +kernel
theorem kl_X6_takeFrom : plnks prog mX6_takeFrom = ([185, 185, 662, 664, 663, 77, 188, 188, 662, 664, 663, 77, 189, 189, 191, 191, 193, 193, 196, 196, 199, 199, 189, 361, 361, 665] : List Nat).filterMap (nthT lw_tbl) := by decide +kernel
theorem km_X6_takeFrom : pmw mX6_takeFrom = [661, 659, 660, 68].filterMap (nthT lw_tbl) := by decide +kernel
theorem ku_X6_takeFrom : (plnks prog mX6_takeFrom ++ pmw mX6_takeFrom).all uword = true := by decide +kernel
theorem ok_X6_takeFrom : WFm prog mX6_takeFrom := WFm.of2 kb_X6_takeFrom kl_X6_takeFrom km_X6_takeFrom ku_X6_takeFrom
theorem kb_X6_hasRoom : pwB prog mX6_hasRoom = true := by decide +kernel
theorem kl_X6_hasRoom : plnks prog mX6_hasRoom = ([189] : List Nat).filterMap (nthT lw_tbl) := by decide +kernel
theorem km_X6_hasRoom : pmw mX6_hasRoom = [356, 354, 355, 68].filterMap (nthT lw_tbl) := by decide +kernel
theorem ku_X6_hasRoom : (plnks prog mX6_hasRoom ++ pmw mX6_hasRoom).all uword = true := by decide +kernel
theorem ok_X6_hasRoom : WFm prog mX6_hasRoom := WFm.of2 kb_X6_hasRoom kl_X6_hasRoom km_X6_hasRoom ku_X6_hasRoom
theorem kb_X6_add : pwB prog mX6_add = true := by decide +kernel
theorem kl_X6_add : plnks prog mX6_add = ([189, 189, 189, 361, 365] : List Nat).filterMap (nthT lw_tbl) := by decide +kernel
theorem km_X6_add : pmw mX6_add = [360, 358, 359, 68].filterMap (nthT lw_tbl) := by decide +kernel
theorem ku_X6_add : (plnks prog mX6_add ++ pmw mX6_add).all uword = true := by decide +kernel
theorem ok_X6_add : WFm prog mX6_add := WFm.of2 kb_X6_add kl_X6_add km_X6_add ku_X6_add
theorem kb_X6_one : pwB prog mX6_one = true := by decide +kernel
theorem kl_X6_one : plnks prog mX6_one = ([189, 186, 186] : List Nat).filterMap (nthT lw_tbl) := by decide +kernel
theorem km_X6_one : pmw mX6_one = [364, 362, 363, 68].filterMap (nthT lw_tbl) := by decide +kernel
theorem ku_X6_one : (plnks prog mX6_one ++ pmw mX6_one).all uword = true := by decide +kernel
theorem ok_X6_one : WFm prog mX6_one := WFm.of2 kb_X6_one kl_X6_one km_X6_one ku_X6_one
theorem kb_X6_trustOf : pwB prog mX6_trustOf = true := by decide +kernel
theorem kl_X6_trustOf : plnks prog mX6_trustOf = ([361, 168] : List Nat).filterMap (nthT lw_tbl) := by decide +kernel
theorem km_X6_trustOf : pmw mX6_trustOf = [646, 644, 645, 68].filterMap (nthT lw_tbl) := by decide +kernel
theorem ku_X6_trustOf : (plnks prog mX6_trustOf ++ pmw mX6_trustOf).all uword = true := by decide +kernel
theorem ok_X6_trustOf : WFm prog mX6_trustOf := WFm.of2 kb_X6_trustOf kl_X6_trustOf km_X6_trustOf ku_X6_trustOf
theorem kb_X6_layOne : pwB prog mX6_layOne = true := by decide +kernel
theorem kl_X6_layOne : plnks prog mX6_layOne = ([361, 166] : List Nat).filterMap (nthT lw_tbl) := by decide +kernel
theorem km_X6_layOne : pmw mX6_layOne = [682, 680, 681, 68].filterMap (nthT lw_tbl) := by decide +kernel
theorem ku_X6_layOne : (plnks prog mX6_layOne ++ pmw mX6_layOne).all uword = true := by decide +kernel
theorem ok_X6_layOne : WFm prog mX6_layOne := WFm.of2 kb_X6_layOne kl_X6_layOne km_X6_layOne ku_X6_layOne
theorem kb_X6_markAt : pwB prog mX6_markAt = true := by decide +kernel
theorem kl_X6_markAt : plnks prog mX6_markAt = ([185, 185] : List Nat).filterMap (nthT lw_tbl) := by decide +kernel
theorem km_X6_markAt : pmw mX6_markAt = [520, 518, 519, 68].filterMap (nthT lw_tbl) := by decide +kernel
theorem ku_X6_markAt : (plnks prog mX6_markAt ++ pmw mX6_markAt).all uword = true := by decide +kernel
theorem ok_X6_markAt : WFm prog mX6_markAt := WFm.of2 kb_X6_markAt kl_X6_markAt km_X6_markAt ku_X6_markAt
theorem kb_X6_carveAt : pwB prog mX6_carveAt = true := by decide +kernel
theorem kl_X6_carveAt : plnks prog mX6_carveAt = ([185, 185] : List Nat).filterMap (nthT lw_tbl) := by decide +kernel
theorem km_X6_carveAt : pmw mX6_carveAt = [524, 522, 523, 68].filterMap (nthT lw_tbl) := by decide +kernel
theorem ku_X6_carveAt : (plnks prog mX6_carveAt ++ pmw mX6_carveAt).all uword = true := by decide +kernel
theorem ok_X6_carveAt : WFm prog mX6_carveAt := WFm.of2 kb_X6_carveAt kl_X6_carveAt km_X6_carveAt ku_X6_carveAt
theorem kb_X6_draw : pwB prog mX6_draw = true := by decide +kernel
theorem kl_X6_draw : plnks prog mX6_draw = ([199, 537, 199, 199] : List Nat).filterMap (nthT lw_tbl) := by decide +kernel
theorem km_X6_draw : pmw mX6_draw = [536, 534, 535, 68].filterMap (nthT lw_tbl) := by decide +kernel
theorem ku_X6_draw : (plnks prog mX6_draw ++ pmw mX6_draw).all uword = true := by decide +kernel
theorem ok_X6_draw : WFm prog mX6_draw := WFm.of2 kb_X6_draw kl_X6_draw km_X6_draw ku_X6_draw
theorem kb_X6_falsehood : pwB prog mX6_falsehood = true := by decide +kernel
theorem kl_X6_falsehood : plnks prog mX6_falsehood = ([162, 551, 552] : List Nat).filterMap (nthT lw_tbl) := by decide +kernel
theorem km_X6_falsehood : pmw mX6_falsehood = [550, 548, 549, 68].filterMap (nthT lw_tbl) := by decide +kernel
theorem ku_X6_falsehood : (plnks prog mX6_falsehood ++ pmw mX6_falsehood).all uword = true := by decide +kernel
theorem ok_X6_falsehood : WFm prog mX6_falsehood := WFm.of2 kb_X6_falsehood kl_X6_falsehood km_X6_falsehood ku_X6_falsehood
theorem kb_X6_trustOfAll : pwB prog mX6_trustOfAll = true := by decide +kernel
theorem kl_X6_trustOfAll : plnks prog mX6_trustOfAll = ([189, 643] : List Nat).filterMap (nthT lw_tbl) := by decide +kernel
theorem km_X6_trustOfAll : pmw mX6_trustOfAll = [642, 640, 641, 68].filterMap (nthT lw_tbl) := by decide +kernel
theorem ku_X6_trustOfAll : (plnks prog mX6_trustOfAll ++ pmw mX6_trustOfAll).all uword = true := by decide +kernel
theorem ok_X6_trustOfAll : WFm prog mX6_trustOfAll := WFm.of2 kb_X6_trustOfAll kl_X6_trustOfAll km_X6_trustOfAll ku_X6_trustOfAll
theorem kb_X6_laidSet : pwB prog mX6_laidSet = true := by decide +kernel
theorem kl_X6_laidSet : plnks prog mX6_laidSet = ([189, 361, 587] : List Nat).filterMap (nthT lw_tbl) := by decide +kernel
theorem km_X6_laidSet : pmw mX6_laidSet = [586, 584, 585, 68].filterMap (nthT lw_tbl) := by decide +kernel
theorem ku_X6_laidSet : (plnks prog mX6_laidSet ++ pmw mX6_laidSet).all uword = true := by decide +kernel
theorem ok_X6_laidSet : WFm prog mX6_laidSet := WFm.of2 kb_X6_laidSet kl_X6_laidSet km_X6_laidSet ku_X6_laidSet
theorem kb_X6_coveredBy : pwB prog mX6_coveredBy = true := by decide +kernel
theorem kl_X6_coveredBy : plnks prog mX6_coveredBy = ([189, 361, 609] : List Nat).filterMap (nthT lw_tbl) := by decide +kernel
theorem km_X6_coveredBy : pmw mX6_coveredBy = [608, 606, 607, 68].filterMap (nthT lw_tbl) := by decide +kernel
theorem ku_X6_coveredBy : (plnks prog mX6_coveredBy ++ pmw mX6_coveredBy).all uword = true := by decide +kernel
theorem ok_X6_coveredBy : WFm prog mX6_coveredBy := WFm.of2 kb_X6_coveredBy kl_X6_coveredBy km_X6_coveredBy ku_X6_coveredBy
theorem kb_X6_open : pwB prog mX6_open = true := by decide +kernel
theorem kl_X6_open : plnks prog mX6_open = ([651, 652, 653] : List Nat).filterMap (nthT lw_tbl) := by decide +kernel
theorem km_X6_open : pmw mX6_open = [650, 648, 649, 68].filterMap (nthT lw_tbl) := by decide +kernel
theorem ku_X6_open : (plnks prog mX6_open ++ pmw mX6_open).all uword = true := by decide +kernel
theorem ok_X6_open : WFm prog mX6_open := WFm.of2 kb_X6_open kl_X6_open km_X6_open ku_X6_open
theorem kb_X6_noteClashes : pwB prog mX6_noteClashes = true := by decide +kernel
theorem kl_X6_noteClashes : plnks prog mX6_noteClashes = ([189, 187, 187, 361, 189, 361, 582, 187] : List Nat).filterMap (nthT lw_tbl) := by decide +kernel
theorem km_X6_noteClashes : pmw mX6_noteClashes = [581, 579, 580, 68].filterMap (nthT lw_tbl) := by decide +kernel
theorem ku_X6_noteClashes : (plnks prog mX6_noteClashes ++ pmw mX6_noteClashes).all uword = true := by decide +kernel
theorem ok_X6_noteClashes : WFm prog mX6_noteClashes := WFm.of2 kb_X6_noteClashes kl_X6_noteClashes km_X6_noteClashes ku_X6_noteClashes
theorem kb_X6_anyClash : pwB prog mX6_anyClash = true := by decide +kernel
theorem kl_X6_anyClash : plnks prog mX6_anyClash = ([189, 187, 187] : List Nat).filterMap (nthT lw_tbl) := by decide +kernel
theorem km_X6_anyClash : pmw mX6_anyClash = [600, 598, 599, 68].filterMap (nthT lw_tbl) := by decide +kernel
theorem ku_X6_anyClash : (plnks prog mX6_anyClash ++ pmw mX6_anyClash).all uword = true := by decide +kernel
theorem ok_X6_anyClash : WFm prog mX6_anyClash := WFm.of2 kb_X6_anyClash kl_X6_anyClash km_X6_anyClash ku_X6_anyClash
theorem kb_X6_deniers : pwB prog mX6_deniers = true := by decide +kernel
theorem kl_X6_deniers : plnks prog mX6_deniers = ([189, 361, 618, 166, 551, 552] : List Nat).filterMap (nthT lw_tbl) := by decide +kernel
theorem km_X6_deniers : pmw mX6_deniers = [617, 615, 616, 68].filterMap (nthT lw_tbl) := by decide +kernel
theorem ku_X6_deniers : (plnks prog mX6_deniers ++ pmw mX6_deniers).all uword = true := by decide +kernel
theorem ok_X6_deniers : WFm prog mX6_deniers := WFm.of2 kb_X6_deniers kl_X6_deniers km_X6_deniers ku_X6_deniers
theorem kb_X6_flow : pwB prog mX6_flow = true := by decide +kernel
theorem kl_X6_flow : plnks prog mX6_flow = ([627, 189, 361, 618, 628, 193, 193] : List Nat).filterMap (nthT lw_tbl) := by decide +kernel
theorem km_X6_flow : pmw mX6_flow = [626, 624, 625, 68].filterMap (nthT lw_tbl) := by decide +kernel
theorem ku_X6_flow : (plnks prog mX6_flow ++ pmw mX6_flow).all uword = true := by decide +kernel
theorem ok_X6_flow : WFm prog mX6_flow := WFm.of2 kb_X6_flow kl_X6_flow km_X6_flow ku_X6_flow
