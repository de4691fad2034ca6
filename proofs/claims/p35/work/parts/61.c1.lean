/-! ===== checks of the tables, piece 1 (printed by program) ===== -/
theorem kb_X3_at : pwB prog mX3_at = true := by decide +kernel
theorem kx_X3_at : cEqL (plnks prog mX3_at ++ pmw mX3_at) (([5, 1, 1, 6, 4, 2, 3, 0] : List Nat).filterMap (nthT (pkT lw_tbl 72 [199, 431, 0, 0, 0, 3]))) = true := by decide +kernel
theorem ku_X3_at : (plnks prog mX3_at ++ pmw mX3_at).all uword = true := by decide +kernel
theorem ok_X3_at : WFm prog mX3_at := WFm.of3 kb_X3_at kx_X3_at ku_X3_at
theorem kb_X3_put : pwB prog mX3_put = true := by decide +kernel
theorem kx_X3_put : cEqL (plnks prog mX3_put ++ pmw mX3_put) (([2, 1, 1, 5, 3, 4, 0] : List Nat).filterMap (nthT (pkT lw_tbl 72 [199, 434, 259, 0, 0]))) = true := by decide +kernel
theorem ku_X3_put : (plnks prog mX3_put ++ pmw mX3_put).all uword = true := by decide +kernel
theorem ok_X3_put : WFm prog mX3_put := WFm.of3 kb_X3_put kx_X3_put ku_X3_put
theorem kb_X3_takeFrom : pwB prog mX3_takeFrom = true := by decide +kernel
theorem kx_X3_takeFrom : cEqL (plnks prog mX3_takeFrom ++ pmw mX3_takeFrom) (([2, 2, 10, 6, 5, 1, 3, 3, 4, 4, 9, 7, 8, 0] : List Nat).filterMap (nthT (pkT lw_tbl 72 [4, 194, 1, 1, 386, 0, 335, 0, 0, 0]))) = true := by decide +kernel
theorem ku_X3_takeFrom : (plnks prog mX3_takeFrom ++ pmw mX3_takeFrom).all uword = true := by decide +kernel
theorem ok_X3_takeFrom : WFm prog mX3_takeFrom := WFm.of3 kb_X3_takeFrom kx_X3_takeFrom ku_X3_takeFrom
theorem kb_X4_init : pwB prog mX4_init = true := by decide +kernel
theorem kx_X4_init : cEqL (plnks prog mX4_init ++ pmw mX4_init) (([5, 1, 2, 6, 7, 8, 4, 3, 0] : List Nat).filterMap (nthT (pkT lw_tbl 70 [18, 0, 62, 0, 0, 3, 4, 2]))) = true := by decide +kernel
theorem ku_X4_init : (plnks prog mX4_init ++ pmw mX4_init).all uword = true := by decide +kernel
theorem ok_X4_init : WFm prog mX4_init := WFm.of3 kb_X4_init kx_X4_init ku_X4_init
theorem kb_X4_begin : pwB prog mX4_begin = true := by decide +kernel
theorem kx_X4_begin : cEqL (plnks prog mX4_begin ++ pmw mX4_begin) (([1, 2, 3, 4, 5, 6, 9, 7, 8, 0] : List Nat).filterMap (nthT (pkT lw_tbl 70 [85, 1, 0, 3, 0, 2, 198, 0, 0]))) = true := by decide +kernel
theorem ku_X4_begin : (plnks prog mX4_begin ++ pmw mX4_begin).all uword = true := by decide +kernel
theorem ok_X4_begin : WFm prog mX4_begin := WFm.of3 kb_X4_begin kx_X4_begin ku_X4_begin
theorem kb_X4_takeFrom : pwB prog mX4_takeFrom = true := by decide +kernel
theorem kx_X4_takeFrom : cEqL (plnks prog mX4_takeFrom ++ pmw mX4_takeFrom) (([1, 1, 2, 2, 3, 3, 4, 4, 5, 5, 6, 6, 9, 7, 8, 0] : List Nat).filterMap (nthT (pkT lw_tbl 70 [85, 1, 0, 3, 0, 2, 498, 0, 0]))) = true := by decide +kernel
theorem ku_X4_takeFrom : (plnks prog mX4_takeFrom ++ pmw mX4_takeFrom).all uword = true := by decide +kernel
theorem ok_X4_takeFrom : WFm prog mX4_takeFrom := WFm.of3 kb_X4_takeFrom kx_X4_takeFrom ku_X4_takeFrom
theorem kb_X4_value : pwB prog mX4_value = true := by decide +kernel
theorem kx_X4_value : cEqL (plnks prog mX4_value ++ pmw mX4_value) (([1, 2, 3, 4, 5, 8, 6, 7, 0] : List Nat).filterMap (nthT (pkT lw_tbl 70 [87, 0, 3, 0, 2, 292, 0, 0]))) = true := by decide +kernel
theorem ku_X4_value : (plnks prog mX4_value ++ pmw mX4_value).all uword = true := by decide +kernel
theorem ok_X4_value : WFm prog mX4_value := WFm.of3 kb_X4_value kx_X4_value ku_X4_value
theorem kb_X4_become : pwB prog mX4_become = true := by decide +kernel
theorem kx_X4_become : cEqL (plnks prog mX4_become ++ pmw mX4_become) (([1, 2, 3, 4, 5, 8, 6, 7, 0] : List Nat).filterMap (nthT (pkT lw_tbl 70 [87, 0, 3, 0, 2, 341, 0, 0]))) = true := by decide +kernel
theorem ku_X4_become : (plnks prog mX4_become ++ pmw mX4_become).all uword = true := by decide +kernel
theorem ok_X4_become : WFm prog mX4_become := WFm.of3 kb_X4_become kx_X4_become ku_X4_become
theorem kb_X4_isOf : pwB prog mX4_isOf = true := by decide +kernel
theorem kx_X4_isOf : cEqL (plnks prog mX4_isOf ++ pmw mX4_isOf) (([3, 1, 2, 0] : List Nat).filterMap (nthT (pkT lw_tbl 70 [417, 0, 0]))) = true := by decide +kernel
theorem ku_X4_isOf : (plnks prog mX4_isOf ++ pmw mX4_isOf).all uword = true := by decide +kernel
theorem ok_X4_isOf : WFm prog mX4_isOf := WFm.of3 kb_X4_isOf kx_X4_isOf ku_X4_isOf
theorem kb_X4_isLaid : pwB prog mX4_isLaid = true := by decide +kernel
theorem kx_X4_isLaid : cEqL (plnks prog mX4_isLaid ++ pmw mX4_isLaid) (([1, 4, 2, 3, 0] : List Nat).filterMap (nthT (pkT lw_tbl 70 [93, 219, 0, 0]))) = true := by decide +kernel
theorem ku_X4_isLaid : (plnks prog mX4_isLaid ++ pmw mX4_isLaid).all uword = true := by decide +kernel
theorem ok_X4_isLaid : WFm prog mX4_isLaid := WFm.of3 kb_X4_isLaid kx_X4_isLaid ku_X4_isLaid
theorem kb_X4_covers : pwB prog mX4_covers = true := by decide +kernel
theorem kx_X4_covers : cEqL (plnks prog mX4_covers ++ pmw mX4_covers) (([6, 7, 2, 2, 1, 5, 3, 4, 0] : List Nat).filterMap (nthT (pkT lw_tbl 70 [88, 4, 215, 0, 0, 0, 3]))) = true := by decide +kernel
theorem ku_X4_covers : (plnks prog mX4_covers ++ pmw mX4_covers).all uword = true := by decide +kernel
theorem ok_X4_covers : WFm prog mX4_covers := WFm.of3 kb_X4_covers kx_X4_covers ku_X4_covers
theorem kb_X4_covered : pwB prog mX4_covered = true := by decide +kernel
theorem kx_X4_covered : cEqL (plnks prog mX4_covered ++ pmw mX4_covered) (([4, 3, 1, 2, 0] : List Nat).filterMap (nthT (pkT lw_tbl 70 [305, 0, 0, 0]))) = true := by decide +kernel
theorem ku_X4_covered : (plnks prog mX4_covered ++ pmw mX4_covered).all uword = true := by decide +kernel
theorem ok_X4_covered : WFm prog mX4_covered := WFm.of3 kb_X4_covered kx_X4_covered ku_X4_covered
theorem kb_X4_sayAt : pwB prog mX4_sayAt = true := by decide +kernel
theorem kx_X4_sayAt : cEqL (plnks prog mX4_sayAt ++ pmw mX4_sayAt) (([2, 1, 6, 7, 6, 7, 7, 6, 8, 2, 6, 8, 6, 5, 3, 4, 0] : List Nat).filterMap (nthT (pkT lw_tbl 70 [85, 2, 308, 0, 0, 0, 3, 3]))) = true := by decide +kernel
theorem ku_X4_sayAt : (plnks prog mX4_sayAt ++ pmw mX4_sayAt).all uword = true := by decide +kernel
theorem ok_X4_sayAt : WFm prog mX4_sayAt := WFm.of3 kb_X4_sayAt kx_X4_sayAt ku_X4_sayAt
theorem kb_X4_rubbedAt : pwB prog mX4_rubbedAt = true := by decide +kernel
theorem kx_X4_rubbedAt : cEqL (plnks prog mX4_rubbedAt ++ pmw mX4_rubbedAt) (([4, 3, 2, 6, 5, 0, 1] : List Nat).filterMap (nthT (pkT lw_tbl 2 [67, 87, 0, 3, 309, 0]))) = true := by decide +kernel
theorem ku_X4_rubbedAt : (plnks prog mX4_rubbedAt ++ pmw mX4_rubbedAt).all uword = true := by decide +kernel
theorem ok_X4_rubbedAt : WFm prog mX4_rubbedAt := WFm.of3 kb_X4_rubbedAt kx_X4_rubbedAt ku_X4_rubbedAt
theorem kb_X4_bolder : pwB prog mX4_bolder = true := by decide +kernel
theorem kx_X4_bolder : cEqL (plnks prog mX4_bolder ++ pmw mX4_bolder) (([6, 2, 1, 3, 5, 4, 0] : List Nat).filterMap (nthT (pkT lw_tbl 70 [4, 363, 0, 35, 0, 0]))) = true := by decide +kernel
theorem ku_X4_bolder : (plnks prog mX4_bolder ++ pmw mX4_bolder).all uword = true := by decide +kernel
theorem ok_X4_bolder : WFm prog mX4_bolder := WFm.of3 kb_X4_bolder kx_X4_bolder ku_X4_bolder
theorem kb_X4_fainter : pwB prog mX4_fainter = true := by decide +kernel
theorem kx_X4_fainter : cEqL (plnks prog mX4_fainter ++ pmw mX4_fainter) (([6, 2, 1, 3, 5, 4, 0] : List Nat).filterMap (nthT (pkT lw_tbl 70 [4, 366, 0, 36, 0, 0]))) = true := by decide +kernel
theorem ku_X4_fainter : (plnks prog mX4_fainter ++ pmw mX4_fainter).all uword = true := by decide +kernel
theorem ok_X4_fainter : WFm prog mX4_fainter := WFm.of3 kb_X4_fainter kx_X4_fainter ku_X4_fainter
theorem kb_X4_gainOver : pwB prog mX4_gainOver = true := by decide +kernel
theorem kx_X4_gainOver : cEqL (plnks prog mX4_gainOver ++ pmw mX4_gainOver) (([1, 4, 2, 3, 0] : List Nat).filterMap (nthT (pkT lw_tbl 70 [85, 288, 0, 0]))) = true := by decide +kernel
theorem ku_X4_gainOver : (plnks prog mX4_gainOver ++ pmw mX4_gainOver).all uword = true := by decide +kernel
theorem ok_X4_gainOver : WFm prog mX4_gainOver := WFm.of3 kb_X4_gainOver kx_X4_gainOver ku_X4_gainOver
theorem kb_X4_loss : pwB prog mX4_loss = true := by decide +kernel
theorem kx_X4_loss : cEqL (plnks prog mX4_loss ++ pmw mX4_loss) (([1, 4, 2, 3, 0] : List Nat).filterMap (nthT (pkT lw_tbl 70 [85, 292, 0, 0]))) = true := by decide +kernel
theorem ku_X4_loss : (plnks prog mX4_loss ++ pmw mX4_loss).all uword = true := by decide +kernel
theorem ok_X4_loss : WFm prog mX4_loss := WFm.of3 kb_X4_loss kx_X4_loss ku_X4_loss
theorem kb_X4_worth : pwB prog mX4_worth = true := by decide +kernel
theorem kx_X4_worth : cEqL (plnks prog mX4_worth ++ pmw mX4_worth) (([1, 2, 2, 2, 2, 2, 5, 3, 4, 0] : List Nat).filterMap (nthT (pkT lw_tbl 70 [85, 10, 285, 0, 0]))) = true := by decide +kernel
theorem ku_X4_worth : (plnks prog mX4_worth ++ pmw mX4_worth).all uword = true := by decide +kernel
theorem ok_X4_worth : WFm prog mX4_worth := WFm.of3 kb_X4_worth kx_X4_worth ku_X4_worth
theorem kb_X4_joined : pwB prog mX4_joined = true := by decide +kernel
theorem kx_X4_joined : cEqL (plnks prog mX4_joined ++ pmw mX4_joined) (([1, 1, 5, 5, 4, 2, 3, 0] : List Nat).filterMap (nthT (pkT lw_tbl 70 [88, 402, 0, 0, 0]))) = true := by decide +kernel
theorem ku_X4_joined : (plnks prog mX4_joined ++ pmw mX4_joined).all uword = true := by decide +kernel
theorem ok_X4_joined : WFm prog mX4_joined := WFm.of3 kb_X4_joined kx_X4_joined ku_X4_joined
theorem kb_X4_clashes : pwB prog mX4_clashes = true := by decide +kernel
theorem kx_X4_clashes : cEqL (plnks prog mX4_clashes ++ pmw mX4_clashes) (([2, 2, 1, 3, 1, 3, 6, 4, 5, 0] : List Nat).filterMap (nthT (pkT lw_tbl 70 [93, 214, 185, 5, 0, 0]))) = true := by decide +kernel
theorem ku_X4_clashes : (plnks prog mX4_clashes ++ pmw mX4_clashes).all uword = true := by decide +kernel
theorem ok_X4_clashes : WFm prog mX4_clashes := WFm.of3 kb_X4_clashes kx_X4_clashes ku_X4_clashes
theorem kb_X5_init : pwB prog mX5_init = true := by decide +kernel
theorem kx_X5_init : cEqL (plnks prog mX5_init ++ pmw mX5_init) (([9, 3, 4, 10, 5, 0, 11, 14, 12, 6, 1, 13, 15, 16, 8, 7, 2] : List Nat).filterMap (nthT (pkT lw_tbl 70 [1, 0, 15, 0, 60, 115, 19, 0, 0, 0, 0, 0, 0, 0, 1, 1]))) = true := by decide +kernel
theorem ku_X5_init : (plnks prog mX5_init ++ pmw mX5_init).all uword = true := by decide +kernel
theorem ok_X5_init : WFm prog mX5_init := WFm.of3 kb_X5_init kx_X5_init ku_X5_init
theorem kb_X6_init : pwB prog mX6_init = true := by decide +kernel
theorem kx_X6_init : cEqL (plnks prog mX6_init ++ pmw mX6_init) (([7, 2, 3, 4, 15, 8, 9, 16, 4, 17, 4, 18, 19, 14, 18, 10, 11, 16, 16, 8, 12, 1, 13, 6, 5, 0] : List Nat).filterMap (nthT (pkT lw_tbl 68 [1, 18, 0, 32, 18, 0, 0, 0, 0, 0, 0, 2, 0, 31, 0, 0, 0, 0, 10]))) = true := by decide +kernel
theorem ku_X6_init : (plnks prog mX6_init ++ pmw mX6_init).all uword = true := by decide +kernel
theorem ok_X6_init : WFm prog mX6_init := WFm.of3 kb_X6_init kx_X6_init ku_X6_init
theorem kb_X6_takeFrom : pwB prog mX6_takeFrom = true := by decide +kernel
theorem kx_X6_takeFrom : cEqL (plnks prog mX6_takeFrom ++ pmw mX6_takeFrom) (([2, 2, 13, 15, 14, 1, 3, 3, 13, 15, 14, 1, 4, 4, 5, 5, 6, 6, 7, 7, 8, 8, 4, 9, 9, 16, 12, 10, 11, 0] : List Nat).filterMap (nthT (pkT lw_tbl 68 [8, 107, 2, 0, 1, 1, 2, 2, 161, 297, 0, 0, 0, 0, 0, 0]))) = true := by decide +kernel
theorem ku_X6_takeFrom : (plnks prog mX6_takeFrom ++ pmw mX6_takeFrom).all uword = true := by decide +kernel
theorem ok_X6_takeFrom : WFm prog mX6_takeFrom := WFm.of3 kb_X6_takeFrom kx_X6_takeFrom ku_X6_takeFrom
theorem kb_X6_hasRoom : pwB prog mX6_hasRoom = true := by decide +kernel
theorem kx_X6_hasRoom : cEqL (plnks prog mX6_hasRoom ++ pmw mX6_hasRoom) (([1, 4, 2, 3, 0] : List Nat).filterMap (nthT (pkT lw_tbl 68 [120, 164, 0, 0]))) = true := by decide +kernel
theorem ku_X6_hasRoom : (plnks prog mX6_hasRoom ++ pmw mX6_hasRoom).all uword = true := by decide +kernel
theorem ok_X6_hasRoom : WFm prog mX6_hasRoom := WFm.of3 kb_X6_hasRoom kx_X6_hasRoom ku_X6_hasRoom
theorem kb_X6_add : pwB prog mX6_add = true := by decide +kernel
theorem kx_X6_add : cEqL (plnks prog mX6_add ++ pmw mX6_add) (([1, 1, 1, 5, 6, 4, 2, 3, 0] : List Nat).filterMap (nthT (pkT lw_tbl 68 [120, 168, 0, 0, 0, 3]))) = true := by decide +kernel
theorem ku_X6_add : (plnks prog mX6_add ++ pmw mX6_add).all uword = true := by decide +kernel
theorem ok_X6_add : WFm prog mX6_add := WFm.of3 kb_X6_add kx_X6_add ku_X6_add
theorem kb_X6_one : pwB prog mX6_one = true := by decide +kernel
theorem kx_X6_one : cEqL (plnks prog mX6_one ++ pmw mX6_one) (([2, 1, 1, 5, 3, 4, 0] : List Nat).filterMap (nthT (pkT lw_tbl 68 [117, 2, 172, 0, 0]))) = true := by decide +kernel
theorem ku_X6_one : (plnks prog mX6_one ++ pmw mX6_one).all uword = true := by decide +kernel
theorem ok_X6_one : WFm prog mX6_one := WFm.of3 kb_X6_one kx_X6_one ku_X6_one
theorem kb_X6_trustOf : pwB prog mX6_trustOf = true := by decide +kernel
theorem kx_X6_trustOf : cEqL (plnks prog mX6_trustOf ++ pmw mX6_trustOf) (([2, 1, 5, 3, 4, 0] : List Nat).filterMap (nthT (pkT lw_tbl 68 [99, 192, 282, 0, 0]))) = true := by decide +kernel
theorem ku_X6_trustOf : (plnks prog mX6_trustOf ++ pmw mX6_trustOf).all uword = true := by decide +kernel
theorem ok_X6_trustOf : WFm prog mX6_trustOf := WFm.of3 kb_X6_trustOf kx_X6_trustOf ku_X6_trustOf
theorem kb_X6_layOne : pwB prog mX6_layOne = true := by decide +kernel
theorem kx_X6_layOne : cEqL (plnks prog mX6_layOne ++ pmw mX6_layOne) (([2, 1, 5, 3, 4, 0] : List Nat).filterMap (nthT (pkT lw_tbl 68 [97, 194, 318, 0, 0]))) = true := by decide +kernel
theorem ku_X6_layOne : (plnks prog mX6_layOne ++ pmw mX6_layOne).all uword = true := by decide +kernel
theorem ok_X6_layOne : WFm prog mX6_layOne := WFm.of3 kb_X6_layOne kx_X6_layOne ku_X6_layOne
theorem kb_X6_markAt : pwB prog mX6_markAt = true := by decide +kernel
theorem kx_X6_markAt : cEqL (plnks prog mX6_markAt ++ pmw mX6_markAt) (([1, 1, 4, 2, 3, 0] : List Nat).filterMap (nthT (pkT lw_tbl 68 [116, 332, 0, 0]))) = true := by decide +kernel
theorem ku_X6_markAt : (plnks prog mX6_markAt ++ pmw mX6_markAt).all uword = true := by decide +kernel
theorem ok_X6_markAt : WFm prog mX6_markAt := WFm.of3 kb_X6_markAt kx_X6_markAt ku_X6_markAt
theorem kb_X6_carveAt : pwB prog mX6_carveAt = true := by decide +kernel
theorem kx_X6_carveAt : cEqL (plnks prog mX6_carveAt ++ pmw mX6_carveAt) (([1, 1, 4, 2, 3, 0] : List Nat).filterMap (nthT (pkT lw_tbl 68 [116, 336, 0, 0]))) = true := by decide +kernel
theorem ku_X6_carveAt : (plnks prog mX6_carveAt ++ pmw mX6_carveAt).all uword = true := by decide +kernel
theorem ok_X6_carveAt : WFm prog mX6_carveAt := WFm.of3 kb_X6_carveAt kx_X6_carveAt ku_X6_carveAt
theorem kb_X6_draw : pwB prog mX6_draw = true := by decide +kernel
theorem kx_X6_draw : cEqL (plnks prog mX6_draw ++ pmw mX6_draw) (([1, 5, 1, 1, 4, 2, 3, 0] : List Nat).filterMap (nthT (pkT lw_tbl 68 [130, 334, 0, 0, 0]))) = true := by decide +kernel
theorem ku_X6_draw : (plnks prog mX6_draw ++ pmw mX6_draw).all uword = true := by decide +kernel
theorem ok_X6_draw : WFm prog mX6_draw := WFm.of3 kb_X6_draw kx_X6_draw ku_X6_draw
theorem kb_X6_falsehood : pwB prog mX6_falsehood = true := by decide +kernel
theorem kx_X6_falsehood : cEqL (plnks prog mX6_falsehood ++ pmw mX6_falsehood) (([1, 5, 6, 4, 2, 3, 0] : List Nat).filterMap (nthT (pkT lw_tbl 68 [93, 385, 0, 0, 0, 0]))) = true := by decide +kernel
theorem ku_X6_falsehood : (plnks prog mX6_falsehood ++ pmw mX6_falsehood).all uword = true := by decide +kernel
theorem ok_X6_falsehood : WFm prog mX6_falsehood := WFm.of3 kb_X6_falsehood kx_X6_falsehood ku_X6_falsehood
theorem kb_X6_trustOfAll : pwB prog mX6_trustOfAll = true := by decide +kernel
theorem kx_X6_trustOfAll : cEqL (plnks prog mX6_trustOfAll ++ pmw mX6_trustOfAll) (([1, 5, 4, 2, 3, 0] : List Nat).filterMap (nthT (pkT lw_tbl 68 [120, 450, 0, 0, 0]))) = true := by decide +kernel
theorem ku_X6_trustOfAll : (plnks prog mX6_trustOfAll ++ pmw mX6_trustOfAll).all uword = true := by decide +kernel
theorem ok_X6_trustOfAll : WFm prog mX6_trustOfAll := WFm.of3 kb_X6_trustOfAll kx_X6_trustOfAll ku_X6_trustOfAll
theorem kb_X6_laidSet : pwB prog mX6_laidSet = true := by decide +kernel
theorem kx_X6_laidSet : cEqL (plnks prog mX6_laidSet ++ pmw mX6_laidSet) (([1, 2, 6, 5, 3, 4, 0] : List Nat).filterMap (nthT (pkT lw_tbl 68 [120, 171, 222, 0, 0, 0]))) = true := by decide +kernel
theorem ku_X6_laidSet : (plnks prog mX6_laidSet ++ pmw mX6_laidSet).all uword = true := by decide +kernel
theorem ok_X6_laidSet : WFm prog mX6_laidSet := WFm.of3 kb_X6_laidSet kx_X6_laidSet ku_X6_laidSet
theorem kb_X6_coveredBy : pwB prog mX6_coveredBy = true := by decide +kernel
theorem kx_X6_coveredBy : cEqL (plnks prog mX6_coveredBy ++ pmw mX6_coveredBy) (([1, 2, 6, 5, 3, 4, 0] : List Nat).filterMap (nthT (pkT lw_tbl 68 [120, 171, 244, 0, 0, 0]))) = true := by decide +kernel
theorem ku_X6_coveredBy : (plnks prog mX6_coveredBy ++ pmw mX6_coveredBy).all uword = true := by decide +kernel
theorem ok_X6_coveredBy : WFm prog mX6_coveredBy := WFm.of3 kb_X6_coveredBy kx_X6_coveredBy ku_X6_coveredBy
theorem kb_X6_open : pwB prog mX6_open = true := by decide +kernel
theorem kx_X6_open : cEqL (plnks prog mX6_open ++ pmw mX6_open) (([4, 5, 6, 3, 1, 2, 0] : List Nat).filterMap (nthT (pkT lw_tbl 68 [579, 0, 0, 0, 0, 0]))) = true := by decide +kernel
theorem ku_X6_open : (plnks prog mX6_open ++ pmw mX6_open).all uword = true := by decide +kernel
theorem ok_X6_open : WFm prog mX6_open := WFm.of3 kb_X6_open kx_X6_open ku_X6_open
theorem kb_X6_noteClashes : pwB prog mX6_noteClashes = true := by decide +kernel
theorem kx_X6_noteClashes : cEqL (plnks prog mX6_noteClashes ++ pmw mX6_noteClashes) (([2, 1, 1, 3, 2, 3, 7, 1, 6, 4, 5, 0] : List Nat).filterMap (nthT (pkT lw_tbl 68 [118, 1, 171, 217, 0, 0, 0]))) = true := by decide +kernel
theorem ku_X6_noteClashes : (plnks prog mX6_noteClashes ++ pmw mX6_noteClashes).all uword = true := by decide +kernel
theorem ok_X6_noteClashes : WFm prog mX6_noteClashes := WFm.of3 kb_X6_noteClashes kx_X6_noteClashes ku_X6_noteClashes
theorem kb_X6_anyClash : pwB prog mX6_anyClash = true := by decide +kernel
theorem kx_X6_anyClash : cEqL (plnks prog mX6_anyClash ++ pmw mX6_anyClash) (([2, 1, 1, 5, 3, 4, 0] : List Nat).filterMap (nthT (pkT lw_tbl 68 [118, 1, 408, 0, 0]))) = true := by decide +kernel
theorem ku_X6_anyClash : (plnks prog mX6_anyClash ++ pmw mX6_anyClash).all uword = true := by decide +kernel
theorem ok_X6_anyClash : WFm prog mX6_anyClash := WFm.of3 kb_X6_anyClash kx_X6_anyClash ku_X6_anyClash
theorem kb_X6_deniers : pwB prog mX6_deniers = true := by decide +kernel
theorem kx_X6_deniers : cEqL (plnks prog mX6_deniers ++ pmw mX6_deniers) (([2, 3, 9, 1, 4, 5, 8, 6, 7, 0] : List Nat).filterMap (nthT (pkT lw_tbl 68 [97, 22, 171, 189, 0, 62, 0, 0, 0]))) = true := by decide +kernel
theorem ku_X6_deniers : (plnks prog mX6_deniers ++ pmw mX6_deniers).all uword = true := by decide +kernel
theorem ok_X6_deniers : WFm prog mX6_deniers := WFm.of3 kb_X6_deniers kx_X6_deniers ku_X6_deniers
theorem kb_X6_flow : pwB prog mX6_flow = true := by decide +kernel
theorem kx_X6_flow : cEqL (plnks prog mX6_flow ++ pmw mX6_flow) (([8, 1, 3, 4, 9, 2, 2, 7, 5, 6, 0] : List Nat).filterMap (nthT (pkT lw_tbl 68 [120, 3, 167, 256, 5, 0, 0, 0, 0]))) = true := by decide +kernel
theorem ku_X6_flow : (plnks prog mX6_flow ++ pmw mX6_flow).all uword = true := by decide +kernel
theorem ok_X6_flow : WFm prog mX6_flow := WFm.of3 kb_X6_flow kx_X6_flow ku_X6_flow
