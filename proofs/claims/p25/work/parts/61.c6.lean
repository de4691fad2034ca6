/-! ===== checks of the tables, piece 6 (printed by program) ===== -/
theorem kb_X8_isSign : pmB mX8_isSign = true := by decide +kernel
theorem kd_X8_isSign : dz_dchk (m_b mX8_isSign) (m_code mX8_isSign) (m_b mX8_isSign).data.toList 0 = true := by decide +kernel
theorem ke_X8_isSign : pwA3 prog mX8_isSign (m_code mX8_isSign) = true := by decide +kernel
theorem kx_X8_isSign : cEqL (plnks prog mX8_isSign ++ pmw mX8_isSign) (([2, 3, 5, 4, 0, 1] : List Nat).filterMap (nthT (pkT lw_tbl 61 [12, 986, 1, 400, 0]))) = true := by decide +kernel
theorem ku_X8_isSign : (plnks prog mX8_isSign ++ pmw mX8_isSign).all uword = true := by decide +kernel
theorem ok_X8_isSign : WFm prog mX8_isSign := WFm.of4 kb_X8_isSign kd_X8_isSign ke_X8_isSign kx_X8_isSign ku_X8_isSign
theorem kb_X8_isWordAt : pmB mX8_isWordAt = true := by decide +kernel
theorem kd_X8_isWordAt : dz_dchk (m_b mX8_isWordAt) (m_code mX8_isWordAt) (m_b mX8_isWordAt).data.toList 0 = true := by decide +kernel
theorem ke_X8_isWordAt : pwA3 prog mX8_isWordAt (m_code mX8_isWordAt) = true := by decide +kernel
theorem kx_X8_isWordAt : cEqL (plnks prog mX8_isWordAt ++ pmw mX8_isWordAt) (([5, 4, 3, 2, 3, 2, 3, 2, 3, 2, 3, 7, 6, 0, 1] : List Nat).filterMap (nthT (pkT lw_tbl 53 [20, 982, 1, 0, 0, 367, 0]))) = true := by decide +kernel
theorem ku_X8_isWordAt : (plnks prog mX8_isWordAt ++ pmw mX8_isWordAt).all uword = true := by decide +kernel
theorem ok_X8_isWordAt : WFm prog mX8_isWordAt := WFm.of4 kb_X8_isWordAt kd_X8_isWordAt ke_X8_isWordAt kx_X8_isWordAt ku_X8_isWordAt
theorem kb_X8_key : pmB mX8_key = true := by decide +kernel
theorem kd_X8_key : dz_dchk (m_b mX8_key) (m_code mX8_key) (m_b mX8_key).data.toList 0 = true := by decide +kernel
theorem ke_X8_key : pwA3 prog mX8_key (m_code mX8_key) = true := by decide +kernel
theorem kx_X8_key : cEqL (plnks prog mX8_key ++ pmw mX8_key) (([4, 4, 4, 3, 2, 0, 1] : List Nat).filterMap (nthT (pkT lw_tbl 52 [21, 1350, 0, 0]))) = true := by decide +kernel
theorem ku_X8_key : (plnks prog mX8_key ++ pmw mX8_key).all uword = true := by decide +kernel
theorem ok_X8_key : WFm prog mX8_key := WFm.of4 kb_X8_key kd_X8_key ke_X8_key kx_X8_key ku_X8_key
theorem kb_X8_isName : pmB mX8_isName = true := by decide +kernel
theorem kd_X8_isName : dz_dchk (m_b mX8_isName) (m_code mX8_isName) (m_b mX8_isName).data.toList 0 = true := by decide +kernel
theorem ke_X8_isName : pwA3 prog mX8_isName (m_code mX8_isName) = true := by decide +kernel
theorem kx_X8_isName : cEqL (plnks prog mX8_isName ++ pmw mX8_isName) (([2, 1, 0] : List Nat).filterMap (nthT (pkT lw_tbl 74 [1385, 0]))) = true := by decide +kernel
theorem ku_X8_isName : (plnks prog mX8_isName ++ pmw mX8_isName).all uword = true := by decide +kernel
theorem ok_X8_isName : WFm prog mX8_isName := WFm.of4 kb_X8_isName kd_X8_isName ke_X8_isName kx_X8_isName ku_X8_isName
theorem kb_X8_step : pmB mX8_step = true := by decide +kernel
theorem kd_X8_step : dz_dchk (m_b mX8_step) (m_code mX8_step) (m_b mX8_step).data.toList 0 = true := by decide +kernel
theorem ke_X8_step : pwA3 prog mX8_step (m_code mX8_step) = true := by decide +kernel
theorem kx_X8_step : cEqL (plnks prog mX8_step ++ pmw mX8_step) (([2, 4, 3, 2, 4, 3, 3, 3, 6, 5, 0, 1] : List Nat).filterMap (nthT (pkT lw_tbl 60 [13, 968, 22, 0, 389, 0]))) = true := by decide +kernel
theorem ku_X8_step : (plnks prog mX8_step ++ pmw mX8_step).all uword = true := by decide +kernel
theorem ok_X8_step : WFm prog mX8_step := WFm.of4 kb_X8_step kd_X8_step ke_X8_step kx_X8_step ku_X8_step
theorem kb_X8_either : pmB mX8_either = true := by decide +kernel
theorem kd_X8_either : dz_dchk (m_b mX8_either) (m_code mX8_either) (m_b mX8_either).data.toList 0 = true := by decide +kernel
theorem ke_X8_either : pwA3 prog mX8_either (m_code mX8_either) = true := by decide +kernel
theorem kx_X8_either : cEqL (plnks prog mX8_either ++ pmw mX8_either) (([5, 7, 2, 5, 6, 4, 3, 0, 1] : List Nat).filterMap (nthT (pkT lw_tbl 54 [19, 1332, 25, 0, 0, 19, 6]))) = true := by decide +kernel
theorem ku_X8_either : (plnks prog mX8_either ++ pmw mX8_either).all uword = true := by decide +kernel
theorem ok_X8_either : WFm prog mX8_either := WFm.of4 kb_X8_either kd_X8_either ke_X8_either kx_X8_either ku_X8_either
theorem kb_X8_both : pmB mX8_both = true := by decide +kernel
theorem kd_X8_both : dz_dchk (m_b mX8_both) (m_code mX8_both) (m_b mX8_both).data.toList 0 = true := by decide +kernel
theorem ke_X8_both : pwA3 prog mX8_both (m_code mX8_both) = true := by decide +kernel
theorem kx_X8_both : cEqL (plnks prog mX8_both ++ pmw mX8_both) (([5, 7, 2, 5, 6, 4, 3, 0, 1] : List Nat).filterMap (nthT (pkT lw_tbl 55 [18, 1332, 29, 0, 0, 15, 6]))) = true := by decide +kernel
theorem ku_X8_both : (plnks prog mX8_both ++ pmw mX8_both).all uword = true := by decide +kernel
theorem ok_X8_both : WFm prog mX8_both := WFm.of4 kb_X8_both kd_X8_both ke_X8_both kx_X8_both ku_X8_both
theorem kb_X8_test : pmB mX8_test = true := by decide +kernel
theorem kd_X8_test : dz_dchk (m_b mX8_test) (m_code mX8_test) (m_b mX8_test).data.toList 0 = true := by decide +kernel
theorem ke_X8_test : pwA3 prog mX8_test (m_code mX8_test) = true := by decide +kernel
theorem kx_X8_test : cEqL (plnks prog mX8_test ++ pmw mX8_test) (([6, 8, 8, 8, 2, 3, 6, 7, 5, 4, 0, 1] : List Nat).filterMap (nthT (pkT lw_tbl 56 [17, 988, 343, 33, 0, 0, 11, 6]))) = true := by decide +kernel
theorem ku_X8_test : (plnks prog mX8_test ++ pmw mX8_test).all uword = true := by decide +kernel
theorem ok_X8_test : WFm prog mX8_test := WFm.of4 kb_X8_test kd_X8_test ke_X8_test kx_X8_test ku_X8_test
theorem kb_X8_sum : pmB mX8_sum = true := by decide +kernel
theorem kd_X8_sum : dz_dchk (m_b mX8_sum) (m_code mX8_sum) (m_b mX8_sum).data.toList 0 = true := by decide +kernel
theorem ke_X8_sum : pwA3 prog mX8_sum (m_code mX8_sum) = true := by decide +kernel
theorem kx_X8_sum : cEqL (plnks prog mX8_sum ++ pmw mX8_sum) (([6, 8, 8, 2, 3, 6, 7, 5, 4, 0, 1] : List Nat).filterMap (nthT (pkT lw_tbl 57 [16, 988, 343, 37, 0, 0, 7, 6]))) = true := by decide +kernel
theorem ku_X8_sum : (plnks prog mX8_sum ++ pmw mX8_sum).all uword = true := by decide +kernel
theorem ok_X8_sum : WFm prog mX8_sum := WFm.of4 kb_X8_sum kd_X8_sum ke_X8_sum kx_X8_sum ku_X8_sum
theorem kb_X8_term : pmB mX8_term = true := by decide +kernel
theorem kd_X8_term : dz_dchk (m_b mX8_term) (m_code mX8_term) (m_b mX8_term).data.toList 0 = true := by decide +kernel
theorem ke_X8_term : pwA3 prog mX8_term (m_code mX8_term) = true := by decide +kernel
theorem kx_X8_term : cEqL (plnks prog mX8_term ++ pmw mX8_term) (([6, 8, 8, 2, 3, 6, 7, 5, 4, 0, 1] : List Nat).filterMap (nthT (pkT lw_tbl 58 [15, 988, 343, 41, 0, 0, 3, 6]))) = true := by decide +kernel
theorem ku_X8_term : (plnks prog mX8_term ++ pmw mX8_term).all uword = true := by decide +kernel
theorem ok_X8_term : WFm prog mX8_term := WFm.of4 kb_X8_term kd_X8_term ke_X8_term kx_X8_term ku_X8_term
theorem kb_X8_part0 : pmB mX8_part0 = true := by decide +kernel
theorem kd_X8_part0 : dz_dchk (m_b mX8_part0) (m_code mX8_part0) (m_b mX8_part0).data.toList 0 = true := by decide +kernel
theorem ke_X8_part0 : pwA3 prog mX8_part0 (m_code mX8_part0) = true := by decide +kernel
theorem kx_X8_part0 : cEqL (plnks prog mX8_part0 ++ pmw mX8_part0) (([2, 3, 13, 7, 7, 8, 2, 4, 4, 14, 4, 13, 7, 7, 8, 15, 6, 6, 6, 8, 10, 6, 6, 13, 15, 5, 5, 5, 8, 9, 15, 5, 5, 8, 12, 11, 0, 1] : List Nat).filterMap (nthT (pkT lw_tbl 59 [14, 986, 0, 0, 0, 0, 2, 338, 23, 19, 1, 0, 0, 3, 2]))) = true := by decide +kernel
theorem ku_X8_part0 : (plnks prog mX8_part0 ++ pmw mX8_part0).all uword = true := by decide +kernel
theorem ok_X8_part0 : WFm prog mX8_part0 := WFm.of4 kb_X8_part0 kd_X8_part0 ke_X8_part0 kx_X8_part0 ku_X8_part0
theorem kb_X8_parse : pmB mX8_parse = true := by decide +kernel
theorem kd_X8_parse : dz_dchk (m_b mX8_parse) (m_code mX8_parse) (m_b mX8_parse).data.toList 0 = true := by decide +kernel
theorem ke_X8_parse : pwA3 prog mX8_parse (m_code mX8_parse) = true := by decide +kernel
theorem kx_X8_parse : cEqL (plnks prog mX8_parse ++ pmw mX8_parse) (([4, 5, 6, 7, 8, 10, 2, 2, 11, 9, 14, 15, 14, 16, 5, 3, 13, 12, 0, 1] : List Nat).filterMap (nthT (pkT lw_tbl 48 [25, 968, 14, 1, 0, 2, 0, 0, 0, 0, 120, 215, 0, 0, 15, 7]))) = true := by decide +kernel
theorem ku_X8_parse : (plnks prog mX8_parse ++ pmw mX8_parse).all uword = true := by decide +kernel
theorem ok_X8_parse : WFm prog mX8_parse := WFm.of4 kb_X8_parse kd_X8_parse ke_X8_parse kx_X8_parse ku_X8_parse
theorem kb_X8_text : pmB mX8_text = true := by decide +kernel
theorem kd_X8_text : dz_dchk (m_b mX8_text) (m_code mX8_text) (m_b mX8_text).data.toList 0 = true := by decide +kernel
theorem ke_X8_text : pwA3 prog mX8_text (m_code mX8_text) = true := by decide +kernel
theorem kx_X8_text : cEqL (plnks prog mX8_text ++ pmw mX8_text) (([10, 2, 1, 5, 1, 6, 1, 1, 4, 1, 3, 1, 1, 9, 7, 8, 0] : List Nat).filterMap (nthT (pkT lw_tbl 74 [968, 15, 6, 1, 82, 37, 210, 0, 0, 0]))) = true := by decide +kernel
theorem ku_X8_text : (plnks prog mX8_text ++ pmw mX8_text).all uword = true := by decide +kernel
theorem ok_X8_text : WFm prog mX8_text := WFm.of4 kb_X8_text kd_X8_text ke_X8_text kx_X8_text ku_X8_text
theorem kb_X8_textTold : pmB mX8_textTold = true := by decide +kernel
theorem kd_X8_textTold : dz_dchk (m_b mX8_textTold) (m_code mX8_textTold) (m_b mX8_textTold).data.toList 0 = true := by decide +kernel
theorem ke_X8_textTold : pwA3 prog mX8_textTold (m_code mX8_textTold) = true := by decide +kernel
theorem kx_X8_textTold : cEqL (plnks prog mX8_textTold ++ pmw mX8_textTold) (([8, 2, 3, 1, 4, 7, 5, 6, 0] : List Nat).filterMap (nthT (pkT lw_tbl 74 [968, 101, 4, 38, 277, 0, 0, 0]))) = true := by decide +kernel
theorem ku_X8_textTold : (plnks prog mX8_textTold ++ pmw mX8_textTold).all uword = true := by decide +kernel
theorem ok_X8_textTold : WFm prog mX8_textTold := WFm.of4 kb_X8_textTold kd_X8_textTold ke_X8_textTold kx_X8_textTold ku_X8_textTold
theorem kb_X8_counts : pmB mX8_counts = true := by decide +kernel
theorem kd_X8_counts : dz_dchk (m_b mX8_counts) (m_code mX8_counts) (m_b mX8_counts).data.toList 0 = true := by decide +kernel
theorem ke_X8_counts : pwA3 prog mX8_counts (m_code mX8_counts) = true := by decide +kernel
theorem kx_X8_counts : cEqL (plnks prog mX8_counts ++ pmw mX8_counts) (([2, 2, 5, 4, 3, 0, 1] : List Nat).filterMap (nthT (pkT lw_tbl 27 [46, 968, 143, 0, 0]))) = true := by decide +kernel
theorem ku_X8_counts : (plnks prog mX8_counts ++ pmw mX8_counts).all uword = true := by decide +kernel
theorem ok_X8_counts : WFm prog mX8_counts := WFm.of4 kb_X8_counts kd_X8_counts ke_X8_counts kx_X8_counts ku_X8_counts
theorem kb_X8_why : pmB mX8_why = true := by decide +kernel
theorem kd_X8_why : dz_dchk (m_b mX8_why) (m_code mX8_why) (m_b mX8_why).data.toList 0 = true := by decide +kernel
theorem ke_X8_why : pwA3 prog mX8_why (m_code mX8_why) = true := by decide +kernel
theorem kx_X8_why : cEqL (plnks prog mX8_why ++ pmw mX8_why) (([8, 1, 3, 4, 2, 7, 5, 6, 0] : List Nat).filterMap (nthT (pkT lw_tbl 74 [1070, 4, 34, 184, 104, 0, 0, 0]))) = true := by decide +kernel
theorem ku_X8_why : (plnks prog mX8_why ++ pmw mX8_why).all uword = true := by decide +kernel
theorem ok_X8_why : WFm prog mX8_why := WFm.of4 kb_X8_why kd_X8_why ke_X8_why kx_X8_why ku_X8_why
theorem kb_X8_joined : pmB mX8_joined = true := by decide +kernel
theorem kd_X8_joined : dz_dchk (m_b mX8_joined) (m_code mX8_joined) (m_b mX8_joined).data.toList 0 = true := by decide +kernel
theorem ke_X8_joined : pwA3 prog mX8_joined (m_code mX8_joined) = true := by decide +kernel
theorem kx_X8_joined : cEqL (plnks prog mX8_joined ++ pmw mX8_joined) (([2, 1, 0] : List Nat).filterMap (nthT (pkT lw_tbl 74 [1123, 0]))) = true := by decide +kernel
theorem ku_X8_joined : (plnks prog mX8_joined ++ pmw mX8_joined).all uword = true := by decide +kernel
theorem ok_X8_joined : WFm prog mX8_joined := WFm.of4 kb_X8_joined kd_X8_joined ke_X8_joined kx_X8_joined ku_X8_joined
theorem kb_X8_worked : pmB mX8_worked = true := by decide +kernel
theorem kd_X8_worked : dz_dchk (m_b mX8_worked) (m_code mX8_worked) (m_b mX8_worked).data.toList 0 = true := by decide +kernel
theorem ke_X8_worked : pwA3 prog mX8_worked (m_code mX8_worked) = true := by decide +kernel
theorem kx_X8_worked : cEqL (plnks prog mX8_worked ++ pmw mX8_worked) (([2, 5, 2, 5, 2, 5, 4, 3, 4, 4, 4, 4, 4, 8, 4, 7, 6, 0, 1] : List Nat).filterMap (nthT (pkT lw_tbl 29 [44, 968, 25, 0, 118, 5, 0, 0]))) = true := by decide +kernel
theorem ku_X8_worked : (plnks prog mX8_worked ++ pmw mX8_worked).all uword = true := by decide +kernel
theorem ok_X8_worked : WFm prog mX8_worked := WFm.of4 kb_X8_worked kd_X8_worked ke_X8_worked kx_X8_worked ku_X8_worked
theorem kb_X8_isSheet : pmB mX8_isSheet = true := by decide +kernel
theorem kd_X8_isSheet : dz_dchk (m_b mX8_isSheet) (m_code mX8_isSheet) (m_b mX8_isSheet).data.toList 0 = true := by decide +kernel
theorem ke_X8_isSheet : pwA3 prog mX8_isSheet (m_code mX8_isSheet) = true := by decide +kernel
theorem kx_X8_isSheet : cEqL (plnks prog mX8_isSheet ++ pmw mX8_isSheet) (([2, 1, 4, 3, 0] : List Nat).filterMap (nthT (pkT lw_tbl 74 [1070, 104, 233, 0]))) = true := by decide +kernel
theorem ku_X8_isSheet : (plnks prog mX8_isSheet ++ pmw mX8_isSheet).all uword = true := by decide +kernel
theorem ok_X8_isSheet : WFm prog mX8_isSheet := WFm.of4 kb_X8_isSheet kd_X8_isSheet ke_X8_isSheet kx_X8_isSheet ku_X8_isSheet
theorem kb_X8_sheet : pmB mX8_sheet = true := by decide +kernel
theorem kd_X8_sheet : dz_dchk (m_b mX8_sheet) (m_code mX8_sheet) (m_b mX8_sheet).data.toList 0 = true := by decide +kernel
theorem ke_X8_sheet : pwA3 prog mX8_sheet (m_code mX8_sheet) = true := by decide +kernel
theorem kx_X8_sheet : cEqL (plnks prog mX8_sheet ++ pmw mX8_sheet) (([9, 10, 4, 5, 11, 1, 2, 3, 2, 8, 6, 7, 0] : List Nat).filterMap (nthT (pkT lw_tbl 74 [972, 0, 0, 95, 4, 329, 0, 0, 0, 2, 0]))) = true := by decide +kernel
theorem ku_X8_sheet : (plnks prog mX8_sheet ++ pmw mX8_sheet).all uword = true := by decide +kernel
theorem ok_X8_sheet : WFm prog mX8_sheet := WFm.of4 kb_X8_sheet kd_X8_sheet ke_X8_sheet kx_X8_sheet ku_X8_sheet
theorem kb_X8_mark : pmB mX8_mark = true := by decide +kernel
theorem kd_X8_mark : dz_dchk (m_b mX8_mark) (m_code mX8_mark) (m_b mX8_mark).data.toList 0 = true := by decide +kernel
theorem ke_X8_mark : pwA3 prog mX8_mark (m_code mX8_mark) = true := by decide +kernel
theorem kx_X8_mark : cEqL (plnks prog mX8_mark ++ pmw mX8_mark) (([8, 5, 1, 12, 2, 4, 13, 1, 7, 6, 1, 7, 14, 15, 4, 5, 3, 1, 11, 9, 10, 0] : List Nat).filterMap (nthT (pkT lw_tbl 74 [972, 0, 0, 95, 4, 78, 143, 109, 5, 0, 0, 0, 0, 0, 0]))) = true := by decide +kernel
theorem ku_X8_mark : (plnks prog mX8_mark ++ pmw mX8_mark).all uword = true := by decide +kernel
theorem ok_X8_mark : WFm prog mX8_mark := WFm.of4 kb_X8_mark kd_X8_mark ke_X8_mark kx_X8_mark ku_X8_mark
theorem kb_X8_pour : pmB mX8_pour = true := by decide +kernel
theorem kd_X8_pour : dz_dchk (m_b mX8_pour) (m_code mX8_pour) (m_b mX8_pour).data.toList 0 = true := by decide +kernel
theorem ke_X8_pour : pwA3 prog mX8_pour (m_code mX8_pour) = true := by decide +kernel
theorem kx_X8_pour : cEqL (plnks prog mX8_pour ++ pmw mX8_pour) (([9, 5, 2, 10, 3, 4, 8, 1, 6, 7, 13, 11, 12, 0] : List Nat).filterMap (nthT (pkT lw_tbl 74 [968, 3, 0, 0, 100, 49, 33, 138, 109, 8, 4, 0, 0]))) = true := by decide +kernel
theorem ku_X8_pour : (plnks prog mX8_pour ++ pmw mX8_pour).all uword = true := by decide +kernel
theorem ok_X8_pour : WFm prog mX8_pour := WFm.of4 kb_X8_pour kd_X8_pour ke_X8_pour kx_X8_pour ku_X8_pour
