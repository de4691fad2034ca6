/-! ===== checks of the tables, piece 1 (printed by program) ===== -/
theorem kb_X3_at : pmB mX3_at = true := by decide +kernel
theorem kd_X3_at : dz_dchk (m_b mX3_at) (m_code mX3_at) (m_b mX3_at).data.toList 0 = true := by decide +kernel
theorem ke_X3_at : pwA3 prog mX3_at (m_code mX3_at) = true := by decide +kernel
theorem kx_X3_at : cEqL (plnks prog mX3_at ++ pmw mX3_at) (([5, 1, 1, 6, 4, 2, 3, 0] : List Nat).filterMap (nthT (pkT lw_tbl 72 [199, 431, 0, 0, 0, 3]))) = true := by decide +kernel
theorem ku_X3_at : (plnks prog mX3_at ++ pmw mX3_at).all uword = true := by decide +kernel
theorem ok_X3_at : WFm prog mX3_at := WFm.of4 kb_X3_at kd_X3_at ke_X3_at kx_X3_at ku_X3_at
theorem kb_X3_put : pmB mX3_put = true := by decide +kernel
theorem kd_X3_put : dz_dchk (m_b mX3_put) (m_code mX3_put) (m_b mX3_put).data.toList 0 = true := by decide +kernel
theorem ke_X3_put : pwA3 prog mX3_put (m_code mX3_put) = true := by decide +kernel
theorem kx_X3_put : cEqL (plnks prog mX3_put ++ pmw mX3_put) (([2, 1, 1, 5, 3, 4, 0] : List Nat).filterMap (nthT (pkT lw_tbl 72 [199, 434, 259, 0, 0]))) = true := by decide +kernel
theorem ku_X3_put : (plnks prog mX3_put ++ pmw mX3_put).all uword = true := by decide +kernel
theorem ok_X3_put : WFm prog mX3_put := WFm.of4 kb_X3_put kd_X3_put ke_X3_put kx_X3_put ku_X3_put
theorem kb_X3_takeFrom : pmB mX3_takeFrom = true := by decide +kernel
theorem kd_X3_takeFrom : dz_dchk (m_b mX3_takeFrom) (m_code mX3_takeFrom) (m_b mX3_takeFrom).data.toList 0 = true := by decide +kernel
theorem ke_X3_takeFrom : pwA3 prog mX3_takeFrom (m_code mX3_takeFrom) = true := by decide +kernel
theorem kx_X3_takeFrom : cEqL (plnks prog mX3_takeFrom ++ pmw mX3_takeFrom) (([2, 2, 10, 6, 5, 1, 3, 3, 4, 4, 9, 7, 8, 0] : List Nat).filterMap (nthT (pkT lw_tbl 72 [4, 194, 1, 1, 386, 0, 335, 0, 0, 0]))) = true := by decide +kernel
theorem ku_X3_takeFrom : (plnks prog mX3_takeFrom ++ pmw mX3_takeFrom).all uword = true := by decide +kernel
theorem ok_X3_takeFrom : WFm prog mX3_takeFrom := WFm.of4 kb_X3_takeFrom kd_X3_takeFrom ke_X3_takeFrom kx_X3_takeFrom ku_X3_takeFrom
theorem kb_X4_init : pmB mX4_init = true := by decide +kernel
theorem kd_X4_init : dz_dchk (m_b mX4_init) (m_code mX4_init) (m_b mX4_init).data.toList 0 = true := by decide +kernel
theorem ke_X4_init : pwA3 prog mX4_init (m_code mX4_init) = true := by decide +kernel
theorem kx_X4_init : cEqL (plnks prog mX4_init ++ pmw mX4_init) (([5, 1, 2, 6, 7, 8, 4, 3, 0] : List Nat).filterMap (nthT (pkT lw_tbl 70 [18, 0, 62, 0, 0, 3, 4, 2]))) = true := by decide +kernel
theorem ku_X4_init : (plnks prog mX4_init ++ pmw mX4_init).all uword = true := by decide +kernel
theorem ok_X4_init : WFm prog mX4_init := WFm.of4 kb_X4_init kd_X4_init ke_X4_init kx_X4_init ku_X4_init
theorem kb_X4_begin : pmB mX4_begin = true := by decide +kernel
theorem kd_X4_begin : dz_dchk (m_b mX4_begin) (m_code mX4_begin) (m_b mX4_begin).data.toList 0 = true := by decide +kernel
theorem ke_X4_begin : pwA3 prog mX4_begin (m_code mX4_begin) = true := by decide +kernel
theorem kx_X4_begin : cEqL (plnks prog mX4_begin ++ pmw mX4_begin) (([1, 2, 3, 4, 5, 6, 9, 7, 8, 0] : List Nat).filterMap (nthT (pkT lw_tbl 70 [85, 1, 0, 3, 0, 2, 198, 0, 0]))) = true := by decide +kernel
theorem ku_X4_begin : (plnks prog mX4_begin ++ pmw mX4_begin).all uword = true := by decide +kernel
theorem ok_X4_begin : WFm prog mX4_begin := WFm.of4 kb_X4_begin kd_X4_begin ke_X4_begin kx_X4_begin ku_X4_begin
theorem kb_X4_takeFrom : pmB mX4_takeFrom = true := by decide +kernel
theorem kd_X4_takeFrom : dz_dchk (m_b mX4_takeFrom) (m_code mX4_takeFrom) (m_b mX4_takeFrom).data.toList 0 = true := by decide +kernel
theorem ke_X4_takeFrom : pwA3 prog mX4_takeFrom (m_code mX4_takeFrom) = true := by decide +kernel
theorem kx_X4_takeFrom : cEqL (plnks prog mX4_takeFrom ++ pmw mX4_takeFrom) (([1, 1, 2, 2, 3, 3, 4, 4, 5, 5, 6, 6, 9, 7, 8, 0] : List Nat).filterMap (nthT (pkT lw_tbl 70 [85, 1, 0, 3, 0, 2, 498, 0, 0]))) = true := by decide +kernel
theorem ku_X4_takeFrom : (plnks prog mX4_takeFrom ++ pmw mX4_takeFrom).all uword = true := by decide +kernel
theorem ok_X4_takeFrom : WFm prog mX4_takeFrom := WFm.of4 kb_X4_takeFrom kd_X4_takeFrom ke_X4_takeFrom kx_X4_takeFrom ku_X4_takeFrom
theorem kb_X4_value : pmB mX4_value = true := by decide +kernel
theorem kd_X4_value : dz_dchk (m_b mX4_value) (m_code mX4_value) (m_b mX4_value).data.toList 0 = true := by decide +kernel
theorem ke_X4_value : pwA3 prog mX4_value (m_code mX4_value) = true := by decide +kernel
theorem kx_X4_value : cEqL (plnks prog mX4_value ++ pmw mX4_value) (([1, 2, 3, 4, 5, 8, 6, 7, 0] : List Nat).filterMap (nthT (pkT lw_tbl 70 [87, 0, 3, 0, 2, 292, 0, 0]))) = true := by decide +kernel
theorem ku_X4_value : (plnks prog mX4_value ++ pmw mX4_value).all uword = true := by decide +kernel
theorem ok_X4_value : WFm prog mX4_value := WFm.of4 kb_X4_value kd_X4_value ke_X4_value kx_X4_value ku_X4_value
theorem kb_X4_become : pmB mX4_become = true := by decide +kernel
theorem kd_X4_become : dz_dchk (m_b mX4_become) (m_code mX4_become) (m_b mX4_become).data.toList 0 = true := by decide +kernel
theorem ke_X4_become : pwA3 prog mX4_become (m_code mX4_become) = true := by decide +kernel
theorem kx_X4_become : cEqL (plnks prog mX4_become ++ pmw mX4_become) (([1, 2, 3, 4, 5, 8, 6, 7, 0] : List Nat).filterMap (nthT (pkT lw_tbl 70 [87, 0, 3, 0, 2, 341, 0, 0]))) = true := by decide +kernel
theorem ku_X4_become : (plnks prog mX4_become ++ pmw mX4_become).all uword = true := by decide +kernel
theorem ok_X4_become : WFm prog mX4_become := WFm.of4 kb_X4_become kd_X4_become ke_X4_become kx_X4_become ku_X4_become
theorem kb_X4_isOf : pmB mX4_isOf = true := by decide +kernel
theorem kd_X4_isOf : dz_dchk (m_b mX4_isOf) (m_code mX4_isOf) (m_b mX4_isOf).data.toList 0 = true := by decide +kernel
theorem ke_X4_isOf : pwA3 prog mX4_isOf (m_code mX4_isOf) = true := by decide +kernel
theorem kx_X4_isOf : cEqL (plnks prog mX4_isOf ++ pmw mX4_isOf) (([3, 1, 2, 0] : List Nat).filterMap (nthT (pkT lw_tbl 70 [417, 0, 0]))) = true := by decide +kernel
theorem ku_X4_isOf : (plnks prog mX4_isOf ++ pmw mX4_isOf).all uword = true := by decide +kernel
theorem ok_X4_isOf : WFm prog mX4_isOf := WFm.of4 kb_X4_isOf kd_X4_isOf ke_X4_isOf kx_X4_isOf ku_X4_isOf
theorem kb_X4_isLaid : pmB mX4_isLaid = true := by decide +kernel
theorem kd_X4_isLaid : dz_dchk (m_b mX4_isLaid) (m_code mX4_isLaid) (m_b mX4_isLaid).data.toList 0 = true := by decide +kernel
theorem ke_X4_isLaid : pwA3 prog mX4_isLaid (m_code mX4_isLaid) = true := by decide +kernel
theorem kx_X4_isLaid : cEqL (plnks prog mX4_isLaid ++ pmw mX4_isLaid) (([1, 4, 2, 3, 0] : List Nat).filterMap (nthT (pkT lw_tbl 70 [93, 219, 0, 0]))) = true := by decide +kernel
theorem ku_X4_isLaid : (plnks prog mX4_isLaid ++ pmw mX4_isLaid).all uword = true := by decide +kernel
theorem ok_X4_isLaid : WFm prog mX4_isLaid := WFm.of4 kb_X4_isLaid kd_X4_isLaid ke_X4_isLaid kx_X4_isLaid ku_X4_isLaid
theorem kb_X4_covers : pmB mX4_covers = true := by decide +kernel
theorem kd_X4_covers : dz_dchk (m_b mX4_covers) (m_code mX4_covers) (m_b mX4_covers).data.toList 0 = true := by decide +kernel
theorem ke_X4_covers : pwA3 prog mX4_covers (m_code mX4_covers) = true := by decide +kernel
theorem kx_X4_covers : cEqL (plnks prog mX4_covers ++ pmw mX4_covers) (([6, 7, 2, 2, 1, 5, 3, 4, 0] : List Nat).filterMap (nthT (pkT lw_tbl 70 [88, 4, 215, 0, 0, 0, 3]))) = true := by decide +kernel
theorem ku_X4_covers : (plnks prog mX4_covers ++ pmw mX4_covers).all uword = true := by decide +kernel
theorem ok_X4_covers : WFm prog mX4_covers := WFm.of4 kb_X4_covers kd_X4_covers ke_X4_covers kx_X4_covers ku_X4_covers
theorem kb_X4_covered : pmB mX4_covered = true := by decide +kernel
theorem kd_X4_covered : dz_dchk (m_b mX4_covered) (m_code mX4_covered) (m_b mX4_covered).data.toList 0 = true := by decide +kernel
theorem ke_X4_covered : pwA3 prog mX4_covered (m_code mX4_covered) = true := by decide +kernel
theorem kx_X4_covered : cEqL (plnks prog mX4_covered ++ pmw mX4_covered) (([4, 3, 1, 2, 0] : List Nat).filterMap (nthT (pkT lw_tbl 70 [305, 0, 0, 0]))) = true := by decide +kernel
theorem ku_X4_covered : (plnks prog mX4_covered ++ pmw mX4_covered).all uword = true := by decide +kernel
theorem ok_X4_covered : WFm prog mX4_covered := WFm.of4 kb_X4_covered kd_X4_covered ke_X4_covered kx_X4_covered ku_X4_covered
theorem kb_X4_sayAt : pmB mX4_sayAt = true := by decide +kernel
theorem kd_X4_sayAt : dz_dchk (m_b mX4_sayAt) (m_code mX4_sayAt) (m_b mX4_sayAt).data.toList 0 = true := by decide +kernel
theorem ke_X4_sayAt : pwA3 prog mX4_sayAt (m_code mX4_sayAt) = true := by decide +kernel
theorem kx_X4_sayAt : cEqL (plnks prog mX4_sayAt ++ pmw mX4_sayAt) (([2, 1, 6, 7, 6, 7, 7, 6, 8, 2, 6, 8, 6, 5, 3, 4, 0] : List Nat).filterMap (nthT (pkT lw_tbl 70 [85, 2, 308, 0, 0, 0, 3, 3]))) = true := by decide +kernel
theorem ku_X4_sayAt : (plnks prog mX4_sayAt ++ pmw mX4_sayAt).all uword = true := by decide +kernel
theorem ok_X4_sayAt : WFm prog mX4_sayAt := WFm.of4 kb_X4_sayAt kd_X4_sayAt ke_X4_sayAt kx_X4_sayAt ku_X4_sayAt
theorem kb_X4_rubbedAt : pmB mX4_rubbedAt = true := by decide +kernel
theorem kd_X4_rubbedAt : dz_dchk (m_b mX4_rubbedAt) (m_code mX4_rubbedAt) (m_b mX4_rubbedAt).data.toList 0 = true := by decide +kernel
theorem ke_X4_rubbedAt : pwA3 prog mX4_rubbedAt (m_code mX4_rubbedAt) = true := by decide +kernel
theorem kx_X4_rubbedAt : cEqL (plnks prog mX4_rubbedAt ++ pmw mX4_rubbedAt) (([4, 3, 2, 6, 5, 0, 1] : List Nat).filterMap (nthT (pkT lw_tbl 2 [67, 87, 0, 3, 309, 0]))) = true := by decide +kernel
theorem ku_X4_rubbedAt : (plnks prog mX4_rubbedAt ++ pmw mX4_rubbedAt).all uword = true := by decide +kernel
theorem ok_X4_rubbedAt : WFm prog mX4_rubbedAt := WFm.of4 kb_X4_rubbedAt kd_X4_rubbedAt ke_X4_rubbedAt kx_X4_rubbedAt ku_X4_rubbedAt
theorem kb_X4_bolder : pmB mX4_bolder = true := by decide +kernel
theorem kd_X4_bolder : dz_dchk (m_b mX4_bolder) (m_code mX4_bolder) (m_b mX4_bolder).data.toList 0 = true := by decide +kernel
theorem ke_X4_bolder : pwA3 prog mX4_bolder (m_code mX4_bolder) = true := by decide +kernel
theorem kx_X4_bolder : cEqL (plnks prog mX4_bolder ++ pmw mX4_bolder) (([6, 2, 1, 3, 5, 4, 0] : List Nat).filterMap (nthT (pkT lw_tbl 70 [4, 363, 0, 35, 0, 0]))) = true := by decide +kernel
theorem ku_X4_bolder : (plnks prog mX4_bolder ++ pmw mX4_bolder).all uword = true := by decide +kernel
theorem ok_X4_bolder : WFm prog mX4_bolder := WFm.of4 kb_X4_bolder kd_X4_bolder ke_X4_bolder kx_X4_bolder ku_X4_bolder
theorem kb_X4_fainter : pmB mX4_fainter = true := by decide +kernel
theorem kd_X4_fainter : dz_dchk (m_b mX4_fainter) (m_code mX4_fainter) (m_b mX4_fainter).data.toList 0 = true := by decide +kernel
theorem ke_X4_fainter : pwA3 prog mX4_fainter (m_code mX4_fainter) = true := by decide +kernel
theorem kx_X4_fainter : cEqL (plnks prog mX4_fainter ++ pmw mX4_fainter) (([6, 2, 1, 3, 5, 4, 0] : List Nat).filterMap (nthT (pkT lw_tbl 70 [4, 366, 0, 36, 0, 0]))) = true := by decide +kernel
theorem ku_X4_fainter : (plnks prog mX4_fainter ++ pmw mX4_fainter).all uword = true := by decide +kernel
theorem ok_X4_fainter : WFm prog mX4_fainter := WFm.of4 kb_X4_fainter kd_X4_fainter ke_X4_fainter kx_X4_fainter ku_X4_fainter
theorem kb_X4_gainOver : pmB mX4_gainOver = true := by decide +kernel
theorem kd_X4_gainOver : dz_dchk (m_b mX4_gainOver) (m_code mX4_gainOver) (m_b mX4_gainOver).data.toList 0 = true := by decide +kernel
theorem ke_X4_gainOver : pwA3 prog mX4_gainOver (m_code mX4_gainOver) = true := by decide +kernel
theorem kx_X4_gainOver : cEqL (plnks prog mX4_gainOver ++ pmw mX4_gainOver) (([1, 4, 2, 3, 0] : List Nat).filterMap (nthT (pkT lw_tbl 70 [85, 288, 0, 0]))) = true := by decide +kernel
theorem ku_X4_gainOver : (plnks prog mX4_gainOver ++ pmw mX4_gainOver).all uword = true := by decide +kernel
theorem ok_X4_gainOver : WFm prog mX4_gainOver := WFm.of4 kb_X4_gainOver kd_X4_gainOver ke_X4_gainOver kx_X4_gainOver ku_X4_gainOver
theorem kb_X4_loss : pmB mX4_loss = true := by decide +kernel
theorem kd_X4_loss : dz_dchk (m_b mX4_loss) (m_code mX4_loss) (m_b mX4_loss).data.toList 0 = true := by decide +kernel
theorem ke_X4_loss : pwA3 prog mX4_loss (m_code mX4_loss) = true := by decide +kernel
theorem kx_X4_loss : cEqL (plnks prog mX4_loss ++ pmw mX4_loss) (([1, 4, 2, 3, 0] : List Nat).filterMap (nthT (pkT lw_tbl 70 [85, 292, 0, 0]))) = true := by decide +kernel
theorem ku_X4_loss : (plnks prog mX4_loss ++ pmw mX4_loss).all uword = true := by decide +kernel
theorem ok_X4_loss : WFm prog mX4_loss := WFm.of4 kb_X4_loss kd_X4_loss ke_X4_loss kx_X4_loss ku_X4_loss
theorem kb_X4_worth : pmB mX4_worth = true := by decide +kernel
theorem kd_X4_worth : dz_dchk (m_b mX4_worth) (m_code mX4_worth) (m_b mX4_worth).data.toList 0 = true := by decide +kernel
theorem ke_X4_worth : pwA3 prog mX4_worth (m_code mX4_worth) = true := by decide +kernel
theorem kx_X4_worth : cEqL (plnks prog mX4_worth ++ pmw mX4_worth) (([1, 2, 2, 2, 2, 2, 5, 3, 4, 0] : List Nat).filterMap (nthT (pkT lw_tbl 70 [85, 10, 285, 0, 0]))) = true := by decide +kernel
theorem ku_X4_worth : (plnks prog mX4_worth ++ pmw mX4_worth).all uword = true := by decide +kernel
theorem ok_X4_worth : WFm prog mX4_worth := WFm.of4 kb_X4_worth kd_X4_worth ke_X4_worth kx_X4_worth ku_X4_worth
theorem kb_X4_joined : pmB mX4_joined = true := by decide +kernel
theorem kd_X4_joined : dz_dchk (m_b mX4_joined) (m_code mX4_joined) (m_b mX4_joined).data.toList 0 = true := by decide +kernel
theorem ke_X4_joined : pwA3 prog mX4_joined (m_code mX4_joined) = true := by decide +kernel
theorem kx_X4_joined : cEqL (plnks prog mX4_joined ++ pmw mX4_joined) (([1, 1, 5, 5, 4, 2, 3, 0] : List Nat).filterMap (nthT (pkT lw_tbl 70 [88, 402, 0, 0, 0]))) = true := by decide +kernel
theorem ku_X4_joined : (plnks prog mX4_joined ++ pmw mX4_joined).all uword = true := by decide +kernel
theorem ok_X4_joined : WFm prog mX4_joined := WFm.of4 kb_X4_joined kd_X4_joined ke_X4_joined kx_X4_joined ku_X4_joined
theorem kb_X4_clashes : pmB mX4_clashes = true := by decide +kernel
theorem kd_X4_clashes : dz_dchk (m_b mX4_clashes) (m_code mX4_clashes) (m_b mX4_clashes).data.toList 0 = true := by decide +kernel
theorem ke_X4_clashes : pwA3 prog mX4_clashes (m_code mX4_clashes) = true := by decide +kernel
theorem kx_X4_clashes : cEqL (plnks prog mX4_clashes ++ pmw mX4_clashes) (([2, 2, 1, 3, 1, 3, 6, 4, 5, 0] : List Nat).filterMap (nthT (pkT lw_tbl 70 [93, 214, 185, 5, 0, 0]))) = true := by decide +kernel
theorem ku_X4_clashes : (plnks prog mX4_clashes ++ pmw mX4_clashes).all uword = true := by decide +kernel
theorem ok_X4_clashes : WFm prog mX4_clashes := WFm.of4 kb_X4_clashes kd_X4_clashes ke_X4_clashes kx_X4_clashes ku_X4_clashes
theorem kb_X5_init : pmB mX5_init = true := by decide +kernel
theorem kd_X5_init : dz_dchk (m_b mX5_init) (m_code mX5_init) (m_b mX5_init).data.toList 0 = true := by decide +kernel
theorem ke_X5_init : pwA3 prog mX5_init (m_code mX5_init) = true := by decide +kernel
theorem kx_X5_init : cEqL (plnks prog mX5_init ++ pmw mX5_init) (([9, 3, 4, 10, 5, 0, 11, 14, 12, 6, 1, 13, 15, 16, 8, 7, 2] : List Nat).filterMap (nthT (pkT lw_tbl 70 [1, 0, 15, 0, 60, 115, 19, 0, 0, 0, 0, 0, 0, 0, 1, 1]))) = true := by decide +kernel
theorem ku_X5_init : (plnks prog mX5_init ++ pmw mX5_init).all uword = true := by decide +kernel
theorem ok_X5_init : WFm prog mX5_init := WFm.of4 kb_X5_init kd_X5_init ke_X5_init kx_X5_init ku_X5_init
theorem kb_X6_init : pmB mX6_init = true := by decide +kernel
theorem kd_X6_init : dz_dchk (m_b mX6_init) (m_code mX6_init) (m_b mX6_init).data.toList 0 = true := by decide +kernel
theorem ke_X6_init : pwA3 prog mX6_init (m_code mX6_init) = true := by decide +kernel
theorem kx_X6_init : cEqL (plnks prog mX6_init ++ pmw mX6_init) (([7, 2, 3, 4, 15, 8, 9, 16, 4, 17, 4, 18, 19, 14, 18, 10, 11, 16, 16, 8, 12, 1, 13, 6, 5, 0] : List Nat).filterMap (nthT (pkT lw_tbl 68 [1, 18, 0, 32, 18, 0, 0, 0, 0, 0, 0, 2, 0, 31, 0, 0, 0, 0, 10]))) = true := by decide +kernel
theorem ku_X6_init : (plnks prog mX6_init ++ pmw mX6_init).all uword = true := by decide +kernel
theorem ok_X6_init : WFm prog mX6_init := WFm.of4 kb_X6_init kd_X6_init ke_X6_init kx_X6_init ku_X6_init
theorem kb_X6_takeFrom : pmB mX6_takeFrom = true := by decide +kernel
theorem kd_X6_takeFrom : dz_dchk (m_b mX6_takeFrom) (m_code mX6_takeFrom) (m_b mX6_takeFrom).data.toList 0 = true := by decide +kernel
theorem ke_X6_takeFrom : pwA3 prog mX6_takeFrom (m_code mX6_takeFrom) = true := by decide +kernel
theorem kx_X6_takeFrom : cEqL (plnks prog mX6_takeFrom ++ pmw mX6_takeFrom) (([2, 2, 13, 15, 14, 1, 3, 3, 13, 15, 14, 1, 4, 4, 5, 5, 6, 6, 7, 7, 8, 8, 4, 9, 9, 16, 12, 10, 11, 0] : List Nat).filterMap (nthT (pkT lw_tbl 68 [8, 107, 2, 0, 1, 1, 2, 2, 161, 297, 0, 0, 0, 0, 0, 0]))) = true := by decide +kernel
theorem ku_X6_takeFrom : (plnks prog mX6_takeFrom ++ pmw mX6_takeFrom).all uword = true := by decide +kernel
theorem ok_X6_takeFrom : WFm prog mX6_takeFrom := WFm.of4 kb_X6_takeFrom kd_X6_takeFrom ke_X6_takeFrom kx_X6_takeFrom ku_X6_takeFrom
theorem kb_X6_hasRoom : pmB mX6_hasRoom = true := by decide +kernel
theorem kd_X6_hasRoom : dz_dchk (m_b mX6_hasRoom) (m_code mX6_hasRoom) (m_b mX6_hasRoom).data.toList 0 = true := by decide +kernel
theorem ke_X6_hasRoom : pwA3 prog mX6_hasRoom (m_code mX6_hasRoom) = true := by decide +kernel
theorem kx_X6_hasRoom : cEqL (plnks prog mX6_hasRoom ++ pmw mX6_hasRoom) (([1, 4, 2, 3, 0] : List Nat).filterMap (nthT (pkT lw_tbl 68 [120, 164, 0, 0]))) = true := by decide +kernel
theorem ku_X6_hasRoom : (plnks prog mX6_hasRoom ++ pmw mX6_hasRoom).all uword = true := by decide +kernel
theorem ok_X6_hasRoom : WFm prog mX6_hasRoom := WFm.of4 kb_X6_hasRoom kd_X6_hasRoom ke_X6_hasRoom kx_X6_hasRoom ku_X6_hasRoom
theorem kb_X6_add : pmB mX6_add = true := by decide +kernel
theorem kd_X6_add : dz_dchk (m_b mX6_add) (m_code mX6_add) (m_b mX6_add).data.toList 0 = true := by decide +kernel
theorem ke_X6_add : pwA3 prog mX6_add (m_code mX6_add) = true := by decide +kernel
theorem kx_X6_add : cEqL (plnks prog mX6_add ++ pmw mX6_add) (([1, 1, 1, 5, 6, 4, 2, 3, 0] : List Nat).filterMap (nthT (pkT lw_tbl 68 [120, 168, 0, 0, 0, 3]))) = true := by decide +kernel
theorem ku_X6_add : (plnks prog mX6_add ++ pmw mX6_add).all uword = true := by decide +kernel
theorem ok_X6_add : WFm prog mX6_add := WFm.of4 kb_X6_add kd_X6_add ke_X6_add kx_X6_add ku_X6_add
theorem kb_X6_one : pmB mX6_one = true := by decide +kernel
theorem kd_X6_one : dz_dchk (m_b mX6_one) (m_code mX6_one) (m_b mX6_one).data.toList 0 = true := by decide +kernel
theorem ke_X6_one : pwA3 prog mX6_one (m_code mX6_one) = true := by decide +kernel
theorem kx_X6_one : cEqL (plnks prog mX6_one ++ pmw mX6_one) (([2, 1, 1, 5, 3, 4, 0] : List Nat).filterMap (nthT (pkT lw_tbl 68 [117, 2, 172, 0, 0]))) = true := by decide +kernel
theorem ku_X6_one : (plnks prog mX6_one ++ pmw mX6_one).all uword = true := by decide +kernel
theorem ok_X6_one : WFm prog mX6_one := WFm.of4 kb_X6_one kd_X6_one ke_X6_one kx_X6_one ku_X6_one
theorem kb_X6_trustOf : pmB mX6_trustOf = true := by decide +kernel
theorem kd_X6_trustOf : dz_dchk (m_b mX6_trustOf) (m_code mX6_trustOf) (m_b mX6_trustOf).data.toList 0 = true := by decide +kernel
theorem ke_X6_trustOf : pwA3 prog mX6_trustOf (m_code mX6_trustOf) = true := by decide +kernel
theorem kx_X6_trustOf : cEqL (plnks prog mX6_trustOf ++ pmw mX6_trustOf) (([2, 1, 5, 3, 4, 0] : List Nat).filterMap (nthT (pkT lw_tbl 68 [99, 192, 282, 0, 0]))) = true := by decide +kernel
theorem ku_X6_trustOf : (plnks prog mX6_trustOf ++ pmw mX6_trustOf).all uword = true := by decide +kernel
theorem ok_X6_trustOf : WFm prog mX6_trustOf := WFm.of4 kb_X6_trustOf kd_X6_trustOf ke_X6_trustOf kx_X6_trustOf ku_X6_trustOf
theorem kb_X6_layOne : pmB mX6_layOne = true := by decide +kernel
theorem kd_X6_layOne : dz_dchk (m_b mX6_layOne) (m_code mX6_layOne) (m_b mX6_layOne).data.toList 0 = true := by decide +kernel
theorem ke_X6_layOne : pwA3 prog mX6_layOne (m_code mX6_layOne) = true := by decide +kernel
theorem kx_X6_layOne : cEqL (plnks prog mX6_layOne ++ pmw mX6_layOne) (([2, 1, 5, 3, 4, 0] : List Nat).filterMap (nthT (pkT lw_tbl 68 [97, 194, 318, 0, 0]))) = true := by decide +kernel
theorem ku_X6_layOne : (plnks prog mX6_layOne ++ pmw mX6_layOne).all uword = true := by decide +kernel
theorem ok_X6_layOne : WFm prog mX6_layOne := WFm.of4 kb_X6_layOne kd_X6_layOne ke_X6_layOne kx_X6_layOne ku_X6_layOne
theorem kb_X6_markAt : pmB mX6_markAt = true := by decide +kernel
theorem kd_X6_markAt : dz_dchk (m_b mX6_markAt) (m_code mX6_markAt) (m_b mX6_markAt).data.toList 0 = true := by decide +kernel
theorem ke_X6_markAt : pwA3 prog mX6_markAt (m_code mX6_markAt) = true := by decide +kernel
theorem kx_X6_markAt : cEqL (plnks prog mX6_markAt ++ pmw mX6_markAt) (([1, 1, 4, 2, 3, 0] : List Nat).filterMap (nthT (pkT lw_tbl 68 [116, 332, 0, 0]))) = true := by decide +kernel
theorem ku_X6_markAt : (plnks prog mX6_markAt ++ pmw mX6_markAt).all uword = true := by decide +kernel
theorem ok_X6_markAt : WFm prog mX6_markAt := WFm.of4 kb_X6_markAt kd_X6_markAt ke_X6_markAt kx_X6_markAt ku_X6_markAt
theorem kb_X6_carveAt : pmB mX6_carveAt = true := by decide +kernel
theorem kd_X6_carveAt : dz_dchk (m_b mX6_carveAt) (m_code mX6_carveAt) (m_b mX6_carveAt).data.toList 0 = true := by decide +kernel
theorem ke_X6_carveAt : pwA3 prog mX6_carveAt (m_code mX6_carveAt) = true := by decide +kernel
theorem kx_X6_carveAt : cEqL (plnks prog mX6_carveAt ++ pmw mX6_carveAt) (([1, 1, 4, 2, 3, 0] : List Nat).filterMap (nthT (pkT lw_tbl 68 [116, 336, 0, 0]))) = true := by decide +kernel
theorem ku_X6_carveAt : (plnks prog mX6_carveAt ++ pmw mX6_carveAt).all uword = true := by decide +kernel
theorem ok_X6_carveAt : WFm prog mX6_carveAt := WFm.of4 kb_X6_carveAt kd_X6_carveAt ke_X6_carveAt kx_X6_carveAt ku_X6_carveAt
theorem kb_X6_draw : pmB mX6_draw = true := by decide +kernel
theorem kd_X6_draw : dz_dchk (m_b mX6_draw) (m_code mX6_draw) (m_b mX6_draw).data.toList 0 = true := by decide +kernel
theorem ke_X6_draw : pwA3 prog mX6_draw (m_code mX6_draw) = true := by decide +kernel
theorem kx_X6_draw : cEqL (plnks prog mX6_draw ++ pmw mX6_draw) (([1, 5, 1, 1, 4, 2, 3, 0] : List Nat).filterMap (nthT (pkT lw_tbl 68 [130, 334, 0, 0, 0]))) = true := by decide +kernel
theorem ku_X6_draw : (plnks prog mX6_draw ++ pmw mX6_draw).all uword = true := by decide +kernel
theorem ok_X6_draw : WFm prog mX6_draw := WFm.of4 kb_X6_draw kd_X6_draw ke_X6_draw kx_X6_draw ku_X6_draw
theorem kb_X6_falsehood : pmB mX6_falsehood = true := by decide +kernel
theorem kd_X6_falsehood : dz_dchk (m_b mX6_falsehood) (m_code mX6_falsehood) (m_b mX6_falsehood).data.toList 0 = true := by decide +kernel
theorem ke_X6_falsehood : pwA3 prog mX6_falsehood (m_code mX6_falsehood) = true := by decide +kernel
theorem kx_X6_falsehood : cEqL (plnks prog mX6_falsehood ++ pmw mX6_falsehood) (([1, 5, 6, 4, 2, 3, 0] : List Nat).filterMap (nthT (pkT lw_tbl 68 [93, 385, 0, 0, 0, 0]))) = true := by decide +kernel
theorem ku_X6_falsehood : (plnks prog mX6_falsehood ++ pmw mX6_falsehood).all uword = true := by decide +kernel
theorem ok_X6_falsehood : WFm prog mX6_falsehood := WFm.of4 kb_X6_falsehood kd_X6_falsehood ke_X6_falsehood kx_X6_falsehood ku_X6_falsehood
theorem kb_X6_trustOfAll : pmB mX6_trustOfAll = true := by decide +kernel
theorem kd_X6_trustOfAll : dz_dchk (m_b mX6_trustOfAll) (m_code mX6_trustOfAll) (m_b mX6_trustOfAll).data.toList 0 = true := by decide +kernel
theorem ke_X6_trustOfAll : pwA3 prog mX6_trustOfAll (m_code mX6_trustOfAll) = true := by decide +kernel
theorem kx_X6_trustOfAll : cEqL (plnks prog mX6_trustOfAll ++ pmw mX6_trustOfAll) (([1, 5, 4, 2, 3, 0] : List Nat).filterMap (nthT (pkT lw_tbl 68 [120, 450, 0, 0, 0]))) = true := by decide +kernel
theorem ku_X6_trustOfAll : (plnks prog mX6_trustOfAll ++ pmw mX6_trustOfAll).all uword = true := by decide +kernel
theorem ok_X6_trustOfAll : WFm prog mX6_trustOfAll := WFm.of4 kb_X6_trustOfAll kd_X6_trustOfAll ke_X6_trustOfAll kx_X6_trustOfAll ku_X6_trustOfAll
theorem kb_X6_laidSet : pmB mX6_laidSet = true := by decide +kernel
theorem kd_X6_laidSet : dz_dchk (m_b mX6_laidSet) (m_code mX6_laidSet) (m_b mX6_laidSet).data.toList 0 = true := by decide +kernel
theorem ke_X6_laidSet : pwA3 prog mX6_laidSet (m_code mX6_laidSet) = true := by decide +kernel
theorem kx_X6_laidSet : cEqL (plnks prog mX6_laidSet ++ pmw mX6_laidSet) (([1, 2, 6, 5, 3, 4, 0] : List Nat).filterMap (nthT (pkT lw_tbl 68 [120, 171, 222, 0, 0, 0]))) = true := by decide +kernel
theorem ku_X6_laidSet : (plnks prog mX6_laidSet ++ pmw mX6_laidSet).all uword = true := by decide +kernel
theorem ok_X6_laidSet : WFm prog mX6_laidSet := WFm.of4 kb_X6_laidSet kd_X6_laidSet ke_X6_laidSet kx_X6_laidSet ku_X6_laidSet
theorem kb_X6_coveredBy : pmB mX6_coveredBy = true := by decide +kernel
theorem kd_X6_coveredBy : dz_dchk (m_b mX6_coveredBy) (m_code mX6_coveredBy) (m_b mX6_coveredBy).data.toList 0 = true := by decide +kernel
theorem ke_X6_coveredBy : pwA3 prog mX6_coveredBy (m_code mX6_coveredBy) = true := by decide +kernel
theorem kx_X6_coveredBy : cEqL (plnks prog mX6_coveredBy ++ pmw mX6_coveredBy) (([1, 2, 6, 5, 3, 4, 0] : List Nat).filterMap (nthT (pkT lw_tbl 68 [120, 171, 244, 0, 0, 0]))) = true := by decide +kernel
theorem ku_X6_coveredBy : (plnks prog mX6_coveredBy ++ pmw mX6_coveredBy).all uword = true := by decide +kernel
theorem ok_X6_coveredBy : WFm prog mX6_coveredBy := WFm.of4 kb_X6_coveredBy kd_X6_coveredBy ke_X6_coveredBy kx_X6_coveredBy ku_X6_coveredBy
theorem kb_X6_open : pmB mX6_open = true := by decide +kernel
theorem kd_X6_open : dz_dchk (m_b mX6_open) (m_code mX6_open) (m_b mX6_open).data.toList 0 = true := by decide +kernel
theorem ke_X6_open : pwA3 prog mX6_open (m_code mX6_open) = true := by decide +kernel
theorem kx_X6_open : cEqL (plnks prog mX6_open ++ pmw mX6_open) (([4, 5, 6, 3, 1, 2, 0] : List Nat).filterMap (nthT (pkT lw_tbl 68 [579, 0, 0, 0, 0, 0]))) = true := by decide +kernel
theorem ku_X6_open : (plnks prog mX6_open ++ pmw mX6_open).all uword = true := by decide +kernel
theorem ok_X6_open : WFm prog mX6_open := WFm.of4 kb_X6_open kd_X6_open ke_X6_open kx_X6_open ku_X6_open
theorem kb_X6_noteClashes : pmB mX6_noteClashes = true := by decide +kernel
theorem kd_X6_noteClashes : dz_dchk (m_b mX6_noteClashes) (m_code mX6_noteClashes) (m_b mX6_noteClashes).data.toList 0 = true := by decide +kernel
theorem ke_X6_noteClashes : pwA3 prog mX6_noteClashes (m_code mX6_noteClashes) = true := by decide +kernel
theorem kx_X6_noteClashes : cEqL (plnks prog mX6_noteClashes ++ pmw mX6_noteClashes) (([2, 1, 1, 3, 2, 3, 7, 1, 6, 4, 5, 0] : List Nat).filterMap (nthT (pkT lw_tbl 68 [118, 1, 171, 217, 0, 0, 0]))) = true := by decide +kernel
theorem ku_X6_noteClashes : (plnks prog mX6_noteClashes ++ pmw mX6_noteClashes).all uword = true := by decide +kernel
theorem ok_X6_noteClashes : WFm prog mX6_noteClashes := WFm.of4 kb_X6_noteClashes kd_X6_noteClashes ke_X6_noteClashes kx_X6_noteClashes ku_X6_noteClashes
theorem kb_X6_anyClash : pmB mX6_anyClash = true := by decide +kernel
theorem kd_X6_anyClash : dz_dchk (m_b mX6_anyClash) (m_code mX6_anyClash) (m_b mX6_anyClash).data.toList 0 = true := by decide +kernel
theorem ke_X6_anyClash : pwA3 prog mX6_anyClash (m_code mX6_anyClash) = true := by decide +kernel
theorem kx_X6_anyClash : cEqL (plnks prog mX6_anyClash ++ pmw mX6_anyClash) (([2, 1, 1, 5, 3, 4, 0] : List Nat).filterMap (nthT (pkT lw_tbl 68 [118, 1, 408, 0, 0]))) = true := by decide +kernel
theorem ku_X6_anyClash : (plnks prog mX6_anyClash ++ pmw mX6_anyClash).all uword = true := by decide +kernel
theorem ok_X6_anyClash : WFm prog mX6_anyClash := WFm.of4 kb_X6_anyClash kd_X6_anyClash ke_X6_anyClash kx_X6_anyClash ku_X6_anyClash
theorem kb_X6_deniers : pmB mX6_deniers = true := by decide +kernel
theorem kd_X6_deniers : dz_dchk (m_b mX6_deniers) (m_code mX6_deniers) (m_b mX6_deniers).data.toList 0 = true := by decide +kernel
theorem ke_X6_deniers : pwA3 prog mX6_deniers (m_code mX6_deniers) = true := by decide +kernel
theorem kx_X6_deniers : cEqL (plnks prog mX6_deniers ++ pmw mX6_deniers) (([2, 3, 9, 1, 4, 5, 8, 6, 7, 0] : List Nat).filterMap (nthT (pkT lw_tbl 68 [97, 22, 171, 189, 0, 62, 0, 0, 0]))) = true := by decide +kernel
theorem ku_X6_deniers : (plnks prog mX6_deniers ++ pmw mX6_deniers).all uword = true := by decide +kernel
theorem ok_X6_deniers : WFm prog mX6_deniers := WFm.of4 kb_X6_deniers kd_X6_deniers ke_X6_deniers kx_X6_deniers ku_X6_deniers
theorem kb_X6_flow : pmB mX6_flow = true := by decide +kernel
theorem kd_X6_flow : dz_dchk (m_b mX6_flow) (m_code mX6_flow) (m_b mX6_flow).data.toList 0 = true := by decide +kernel
theorem ke_X6_flow : pwA3 prog mX6_flow (m_code mX6_flow) = true := by decide +kernel
theorem kx_X6_flow : cEqL (plnks prog mX6_flow ++ pmw mX6_flow) (([8, 1, 3, 4, 9, 2, 2, 7, 5, 6, 0] : List Nat).filterMap (nthT (pkT lw_tbl 68 [120, 3, 167, 256, 5, 0, 0, 0, 0]))) = true := by decide +kernel
theorem ku_X6_flow : (plnks prog mX6_flow ++ pmw mX6_flow).all uword = true := by decide +kernel
theorem ok_X6_flow : WFm prog mX6_flow := WFm.of4 kb_X6_flow kd_X6_flow ke_X6_flow kx_X6_flow ku_X6_flow
