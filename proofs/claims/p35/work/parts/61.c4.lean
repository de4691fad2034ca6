/-! ===== checks of the tables, piece 4 (printed by program) ===== -/
theorem kb_X8_isIn : pwB prog mX8_isIn = true := by decide +kernel
theorem kx_X8_isIn : cEqL (plnks prog mX8_isIn ++ pmw mX8_isIn) (([2, 1, 0] : List Nat).filterMap (nthT (pkT lw_tbl 74 [1071, 0]))) = true := by decide +kernel
theorem ku_X8_isIn : (plnks prog mX8_isIn ++ pmw mX8_isIn).all uword = true := by decide +kernel
theorem ok_X8_isIn : WFm prog mX8_isIn := WFm.of3 kb_X8_isIn kx_X8_isIn ku_X8_isIn
theorem kb_X8_orNone : pwB prog mX8_orNone = true := by decide +kernel
theorem kx_X8_orNone : cEqL (plnks prog mX8_orNone ++ pmw mX8_orNone) (([3, 2, 1, 0] : List Nat).filterMap (nthT (pkT lw_tbl 74 [1296, 0, 0]))) = true := by decide +kernel
theorem ku_X8_orNone : (plnks prog mX8_orNone ++ pmw mX8_orNone).all uword = true := by decide +kernel
theorem ok_X8_orNone : WFm prog mX8_orNone := WFm.of3 kb_X8_orNone kx_X8_orNone ku_X8_orNone
theorem kb_X8_within : pwB prog mX8_within = true := by decide +kernel
theorem kx_X8_within : cEqL (plnks prog mX8_within ++ pmw mX8_within) (([2, 1, 0] : List Nat).filterMap (nthT (pkT lw_tbl 74 [1126, 0]))) = true := by decide +kernel
theorem ku_X8_within : (plnks prog mX8_within ++ pmw mX8_within).all uword = true := by decide +kernel
theorem ok_X8_within : WFm prog mX8_within := WFm.of3 kb_X8_within kx_X8_within ku_X8_within
theorem kb_X8_off : pwB prog mX8_off = true := by decide +kernel
theorem kx_X8_off : cEqL (plnks prog mX8_off ++ pmw mX8_off) (([2, 1, 0] : List Nat).filterMap (nthT (pkT lw_tbl 74 [1434, 0]))) = true := by decide +kernel
theorem ku_X8_off : (plnks prog mX8_off ++ pmw mX8_off).all uword = true := by decide +kernel
theorem ok_X8_off : WFm prog mX8_off := WFm.of3 kb_X8_off kx_X8_off ku_X8_off
theorem kb_X8_manyIn : pwB prog mX8_manyIn = true := by decide +kernel
theorem kx_X8_manyIn : cEqL (plnks prog mX8_manyIn ++ pmw mX8_manyIn) (([2, 1, 0] : List Nat).filterMap (nthT (pkT lw_tbl 74 [1236, 0]))) = true := by decide +kernel
theorem ku_X8_manyIn : (plnks prog mX8_manyIn ++ pmw mX8_manyIn).all uword = true := by decide +kernel
theorem ok_X8_manyIn : WFm prog mX8_manyIn := WFm.of3 kb_X8_manyIn kx_X8_manyIn ku_X8_manyIn
theorem kb_X8_becomes : pwB prog mX8_becomes = true := by decide +kernel
theorem kx_X8_becomes : cEqL (plnks prog mX8_becomes ++ pmw mX8_becomes) (([2, 2, 4, 3, 0, 1] : List Nat).filterMap (nthT (pkT lw_tbl 33 [40, 968, 192, 0]))) = true := by decide +kernel
theorem ku_X8_becomes : (plnks prog mX8_becomes ++ pmw mX8_becomes).all uword = true := by decide +kernel
theorem ok_X8_becomes : WFm prog mX8_becomes := WFm.of3 kb_X8_becomes kx_X8_becomes ku_X8_becomes
theorem kb_X8_textAt : pwB prog mX8_textAt = true := by decide +kernel
theorem kx_X8_textAt : cEqL (plnks prog mX8_textAt ++ pmw mX8_textAt) (([3, 2, 0, 1] : List Nat).filterMap (nthT (pkT lw_tbl 28 [45, 1116, 0]))) = true := by decide +kernel
theorem ku_X8_textAt : (plnks prog mX8_textAt ++ pmw mX8_textAt).all uword = true := by decide +kernel
theorem ok_X8_textAt : WFm prog mX8_textAt := WFm.of3 kb_X8_textAt kx_X8_textAt ku_X8_textAt
theorem kb_X8_of : pwB prog mX8_of = true := by decide +kernel
theorem kx_X8_of : cEqL (plnks prog mX8_of ++ pmw mX8_of) (([2, 4, 3, 0, 1] : List Nat).filterMap (nthT (pkT lw_tbl 23 [50, 968, 126, 0]))) = true := by decide +kernel
theorem ku_X8_of : (plnks prog mX8_of ++ pmw mX8_of).all uword = true := by decide +kernel
theorem ok_X8_of : WFm prog mX8_of := WFm.of3 kb_X8_of kx_X8_of ku_X8_of
theorem kb_X8_sets : pwB prog mX8_sets = true := by decide +kernel
theorem kx_X8_sets : cEqL (plnks prog mX8_sets ++ pmw mX8_sets) (([2, 4, 3, 0, 1] : List Nat).filterMap (nthT (pkT lw_tbl 21 [52, 968, 114, 0]))) = true := by decide +kernel
theorem ku_X8_sets : (plnks prog mX8_sets ++ pmw mX8_sets).all uword = true := by decide +kernel
theorem ok_X8_sets : WFm prog mX8_sets := WFm.of3 kb_X8_sets kx_X8_sets ku_X8_sets
theorem kb_X8_isRubbing : pwB prog mX8_isRubbing = true := by decide +kernel
theorem kx_X8_isRubbing : cEqL (plnks prog mX8_isRubbing ++ pmw mX8_isRubbing) (([2, 3, 5, 4, 0, 1] : List Nat).filterMap (nthT (pkT lw_tbl 22 [51, 968, 101, 20, 0]))) = true := by decide +kernel
theorem ku_X8_isRubbing : (plnks prog mX8_isRubbing ++ pmw mX8_isRubbing).all uword = true := by decide +kernel
theorem ok_X8_isRubbing : WFm prog mX8_isRubbing := WFm.of3 kb_X8_isRubbing kx_X8_isRubbing ku_X8_isRubbing
theorem kb_X8_isText : pwB prog mX8_isText = true := by decide +kernel
theorem kx_X8_isText : cEqL (plnks prog mX8_isText ++ pmw mX8_isText) (([2, 3, 5, 4, 0, 1] : List Nat).filterMap (nthT (pkT lw_tbl 62 [11, 968, 101, 326, 0]))) = true := by decide +kernel
theorem ku_X8_isText : (plnks prog mX8_isText ++ pmw mX8_isText).all uword = true := by decide +kernel
theorem ok_X8_isText : WFm prog mX8_isText := WFm.of3 kb_X8_isText kx_X8_isText ku_X8_isText
theorem kb_X8_drawn : pwB prog mX8_drawn = true := by decide +kernel
theorem kx_X8_drawn : cEqL (plnks prog mX8_drawn ++ pmw mX8_drawn) (([2, 2, 5, 2, 4, 3, 0, 1] : List Nat).filterMap (nthT (pkT lw_tbl 34 [39, 968, 218, 0, 0]))) = true := by decide +kernel
theorem ku_X8_drawn : (plnks prog mX8_drawn ++ pmw mX8_drawn).all uword = true := by decide +kernel
theorem ok_X8_drawn : WFm prog mX8_drawn := WFm.of3 kb_X8_drawn kx_X8_drawn ku_X8_drawn
theorem kb_X8_comes : pwB prog mX8_comes = true := by decide +kernel
theorem kx_X8_comes : cEqL (plnks prog mX8_comes ++ pmw mX8_comes) (([2, 2, 5, 5, 5, 5, 5, 5, 4, 3, 0, 1] : List Nat).filterMap (nthT (pkT lw_tbl 20 [53, 968, 110, 0, 0]))) = true := by decide +kernel
theorem ku_X8_comes : (plnks prog mX8_comes ++ pmw mX8_comes).all uword = true := by decide +kernel
theorem ok_X8_comes : WFm prog mX8_comes := WFm.of3 kb_X8_comes kx_X8_comes ku_X8_comes
theorem kb_X8_rubbing : pwB prog mX8_rubbing = true := by decide +kernel
theorem kx_X8_rubbing : cEqL (plnks prog mX8_rubbing ++ pmw mX8_rubbing) (([5, 6, 7, 6, 8, 6, 9, 1, 10, 11, 1, 4, 2, 3, 0] : List Nat).filterMap (nthT (pkT lw_tbl 74 [968, 97, 0, 0, 0, 0, 2, 0, 0, 0, 0]))) = true := by decide +kernel
theorem ku_X8_rubbing : (plnks prog mX8_rubbing ++ pmw mX8_rubbing).all uword = true := by decide +kernel
theorem ok_X8_rubbing : WFm prog mX8_rubbing := WFm.of3 kb_X8_rubbing kx_X8_rubbing ku_X8_rubbing
theorem kb_X8_bolder : pwB prog mX8_bolder = true := by decide +kernel
theorem kx_X8_bolder : cEqL (plnks prog mX8_bolder ++ pmw mX8_bolder) (([2, 1, 0] : List Nat).filterMap (nthT (pkT lw_tbl 74 [1145, 0]))) = true := by decide +kernel
theorem ku_X8_bolder : (plnks prog mX8_bolder ++ pmw mX8_bolder).all uword = true := by decide +kernel
theorem ok_X8_bolder : WFm prog mX8_bolder := WFm.of3 kb_X8_bolder kx_X8_bolder ku_X8_bolder
theorem kb_X8_saysAt : pwB prog mX8_saysAt = true := by decide +kernel
theorem kx_X8_saysAt : cEqL (plnks prog mX8_saysAt ++ pmw mX8_saysAt) (([2, 2, 2, 2, 5, 5, 5, 2, 4, 3, 0, 1] : List Nat).filterMap (nthT (pkT lw_tbl 32 [41, 1093, 48, 0, 0]))) = true := by decide +kernel
theorem ku_X8_saysAt : (plnks prog mX8_saysAt ++ pmw mX8_saysAt).all uword = true := by decide +kernel
theorem ok_X8_saysAt : WFm prog mX8_saysAt := WFm.of3 kb_X8_saysAt kx_X8_saysAt ku_X8_saysAt
theorem kb_X8_gains : pwB prog mX8_gains = true := by decide +kernel
theorem kx_X8_gains : cEqL (plnks prog mX8_gains ++ pmw mX8_gains) (([6, 2, 3, 2, 3, 2, 3, 7, 8, 3, 5, 4, 0, 1] : List Nat).filterMap (nthT (pkT lw_tbl 26 [47, 994, 98, 14, 0, 0, 7, 6]))) = true := by decide +kernel
theorem ku_X8_gains : (plnks prog mX8_gains ++ pmw mX8_gains).all uword = true := by decide +kernel
theorem ok_X8_gains : WFm prog mX8_gains := WFm.of3 kb_X8_gains kx_X8_gains ku_X8_gains
theorem kb_X8_loses : pwB prog mX8_loses = true := by decide +kernel
theorem kx_X8_loses : cEqL (plnks prog mX8_loses ++ pmw mX8_loses) (([2, 4, 3, 0, 1] : List Nat).filterMap (nthT (pkT lw_tbl 30 [43, 1093, 36, 0]))) = true := by decide +kernel
theorem ku_X8_loses : (plnks prog mX8_loses ++ pmw mX8_loses).all uword = true := by decide +kernel
theorem ok_X8_loses : WFm prog mX8_loses := WFm.of3 kb_X8_loses kx_X8_loses ku_X8_loses
theorem kb_X8_worth : pwB prog mX8_worth = true := by decide +kernel
theorem kx_X8_worth : cEqL (plnks prog mX8_worth ++ pmw mX8_worth) (([2, 2, 4, 3, 0, 1] : List Nat).filterMap (nthT (pkT lw_tbl 31 [42, 1093, 40, 0]))) = true := by decide +kernel
theorem ku_X8_worth : (plnks prog mX8_worth ++ pmw mX8_worth).all uword = true := by decide +kernel
theorem ok_X8_worth : WFm prog mX8_worth := WFm.of3 kb_X8_worth kx_X8_worth ku_X8_worth
theorem kb_X8_coversFrom : pwB prog mX8_coversFrom = true := by decide +kernel
theorem kx_X8_coversFrom : cEqL (plnks prog mX8_coversFrom ++ pmw mX8_coversFrom) (([2, 5, 4, 3, 0, 1] : List Nat).filterMap (nthT (pkT lw_tbl 25 [48, 1093, 9, 0, 0]))) = true := by decide +kernel
theorem ku_X8_coversFrom : (plnks prog mX8_coversFrom ++ pmw mX8_coversFrom).all uword = true := by decide +kernel
theorem ok_X8_coversFrom : WFm prog mX8_coversFrom := WFm.of3 kb_X8_coversFrom kx_X8_coversFrom ku_X8_coversFrom
theorem kb_X8_covers : pwB prog mX8_covers = true := by decide +kernel
theorem kx_X8_covers : cEqL (plnks prog mX8_covers ++ pmw mX8_covers) (([2, 5, 4, 3, 0, 1] : List Nat).filterMap (nthT (pkT lw_tbl 24 [49, 1093, 5, 0, 0]))) = true := by decide +kernel
theorem ku_X8_covers : (plnks prog mX8_covers ++ pmw mX8_covers).all uword = true := by decide +kernel
theorem ok_X8_covers : WFm prog mX8_covers := WFm.of3 kb_X8_covers kx_X8_covers ku_X8_covers
theorem kb_X8_told : pwB prog mX8_told = true := by decide +kernel
theorem kx_X8_told : cEqL (plnks prog mX8_told ++ pmw mX8_told) (([5, 1, 6, 7, 8, 9, 10, 1, 4, 2, 3, 0] : List Nat).filterMap (nthT (pkT lw_tbl 74 [1075, 10, 0, 0, 0, 3, 3, 8, 21, 3]))) = true := by decide +kernel
theorem ku_X8_told : (plnks prog mX8_told ++ pmw mX8_told).all uword = true := by decide +kernel
theorem ok_X8_told : WFm prog mX8_told := WFm.of3 kb_X8_told kx_X8_told ku_X8_told
theorem kb_X8_says : pwB prog mX8_says = true := by decide +kernel
theorem kx_X8_says : cEqL (plnks prog mX8_says ++ pmw mX8_says) (([3, 4, 1, 8, 2, 7, 5, 6, 0] : List Nat).filterMap (nthT (pkT lw_tbl 74 [1070, 4, 13, 3, 43, 0, 0, 0]))) = true := by decide +kernel
theorem ku_X8_says : (plnks prog mX8_says ++ pmw mX8_says).all uword = true := by decide +kernel
theorem ok_X8_says : WFm prog mX8_says := WFm.of3 kb_X8_says kx_X8_says ku_X8_says
theorem kb_X8_isOf : pwB prog mX8_isOf = true := by decide +kernel
theorem kx_X8_isOf : cEqL (plnks prog mX8_isOf ++ pmw mX8_isOf) (([2, 1, 0] : List Nat).filterMap (nthT (pkT lw_tbl 74 [1152, 0]))) = true := by decide +kernel
theorem ku_X8_isOf : (plnks prog mX8_isOf ++ pmw mX8_isOf).all uword = true := by decide +kernel
theorem ok_X8_isOf : WFm prog mX8_isOf := WFm.of3 kb_X8_isOf kx_X8_isOf ku_X8_isOf
theorem kb_X8_as : pwB prog mX8_as = true := by decide +kernel
theorem kx_X8_as : cEqL (plnks prog mX8_as ++ pmw mX8_as) (([4, 1, 2, 3, 5, 9, 5, 10, 8, 6, 7, 0] : List Nat).filterMap (nthT (pkT lw_tbl 74 [1069, 0, 4, 13, 3, 54, 0, 0, 0, 2]))) = true := by decide +kernel
theorem ku_X8_as : (plnks prog mX8_as ++ pmw mX8_as).all uword = true := by decide +kernel
theorem ok_X8_as : WFm prog mX8_as := WFm.of3 kb_X8_as kx_X8_as ku_X8_as
theorem kb_X8_turns : pwB prog mX8_turns = true := by decide +kernel
theorem kx_X8_turns : cEqL (plnks prog mX8_turns ++ pmw mX8_turns) (([4, 1, 2, 8, 3, 7, 5, 6, 0] : List Nat).filterMap (nthT (pkT lw_tbl 74 [1069, 0, 4, 13, 66, 0, 0, 0]))) = true := by decide +kernel
theorem ku_X8_turns : (plnks prog mX8_turns ++ pmw mX8_turns).all uword = true := by decide +kernel
theorem ok_X8_turns : WFm prog mX8_turns := WFm.of3 kb_X8_turns kx_X8_turns ku_X8_turns
theorem kb_X8_mostOf : pwB prog mX8_mostOf = true := by decide +kernel
theorem kx_X8_mostOf : cEqL (plnks prog mX8_mostOf ++ pmw mX8_mostOf) (([1, 3, 2, 0] : List Nat).filterMap (nthT (pkT lw_tbl 74 [1105, 62, 0]))) = true := by decide +kernel
theorem ku_X8_mostOf : (plnks prog mX8_mostOf ++ pmw mX8_mostOf).all uword = true := by decide +kernel
theorem ok_X8_mostOf : WFm prog mX8_mostOf := WFm.of3 kb_X8_mostOf kx_X8_mostOf ku_X8_mostOf
theorem kb_X8_set : pwB prog mX8_set = true := by decide +kernel
theorem kx_X8_set : cEqL (plnks prog mX8_set ++ pmw mX8_set) (([4, 1, 2, 9, 2, 3, 5, 8, 6, 7, 0] : List Nat).filterMap (nthT (pkT lw_tbl 74 [1069, 0, 4, 13, 69, 4, 0, 0, 0]))) = true := by decide +kernel
theorem ku_X8_set : (plnks prog mX8_set ++ pmw mX8_set).all uword = true := by decide +kernel
theorem ok_X8_set : WFm prog mX8_set := WFm.of3 kb_X8_set kx_X8_set ku_X8_set
theorem kb_X8_carve : pwB prog mX8_carve = true := by decide +kernel
theorem kx_X8_carve : cEqL (plnks prog mX8_carve ++ pmw mX8_carve) (([7, 1, 8, 1, 3, 2, 6, 4, 5, 0] : List Nat).filterMap (nthT (pkT lw_tbl 74 [1070, 4, 83, 11, 0, 0, 0, 0]))) = true := by decide +kernel
theorem ku_X8_carve : (plnks prog mX8_carve ++ pmw mX8_carve).all uword = true := by decide +kernel
theorem ok_X8_carve : WFm prog mX8_carve := WFm.of3 kb_X8_carve kx_X8_carve ku_X8_carve
theorem kb_X8_carved : pwB prog mX8_carved = true := by decide +kernel
theorem kx_X8_carved : cEqL (plnks prog mX8_carved ++ pmw mX8_carved) (([4, 2, 1, 3, 7, 5, 6, 0] : List Nat).filterMap (nthT (pkT lw_tbl 74 [968, 101, 4, 98, 2, 0, 0]))) = true := by decide +kernel
theorem ku_X8_carved : (plnks prog mX8_carved ++ pmw mX8_carved).all uword = true := by decide +kernel
theorem ok_X8_carved : WFm prog mX8_carved := WFm.of3 kb_X8_carved kx_X8_carved ku_X8_carved
theorem kb_X8_deal : pwB prog mX8_deal = true := by decide +kernel
theorem kx_X8_deal : cEqL (plnks prog mX8_deal ++ pmw mX8_deal) (([8, 2, 3, 1, 9, 9, 10, 9, 4, 7, 5, 6, 0] : List Nat).filterMap (nthT (pkT lw_tbl 74 [968, 101, 4, 1, 103, 0, 0, 0, 0, 4]))) = true := by decide +kernel
theorem ku_X8_deal : (plnks prog mX8_deal ++ pmw mX8_deal).all uword = true := by decide +kernel
theorem ok_X8_deal : WFm prog mX8_deal := WFm.of3 kb_X8_deal kx_X8_deal ku_X8_deal
theorem kb_X8_seed : pwB prog mX8_seed = true := by decide +kernel
theorem kx_X8_seed : cEqL (plnks prog mX8_seed ++ pmw mX8_seed) (([1, 4, 2, 3, 0] : List Nat).filterMap (nthT (pkT lw_tbl 74 [1159, 32, 0, 0]))) = true := by decide +kernel
theorem ku_X8_seed : (plnks prog mX8_seed ++ pmw mX8_seed).all uword = true := by decide +kernel
theorem ok_X8_seed : WFm prog mX8_seed := WFm.of3 kb_X8_seed kx_X8_seed ku_X8_seed
theorem kb_X8_falseOf : pwB prog mX8_falseOf = true := by decide +kernel
theorem kx_X8_falseOf : cEqL (plnks prog mX8_falseOf ++ pmw mX8_falseOf) (([3, 4, 2, 6, 5, 0, 1] : List Nat).filterMap (nthT (pkT lw_tbl 35 [38, 968, 124, 46, 60, 0]))) = true := by decide +kernel
theorem ku_X8_falseOf : (plnks prog mX8_falseOf ++ pmw mX8_falseOf).all uword = true := by decide +kernel
theorem ok_X8_falseOf : WFm prog mX8_falseOf := WFm.of3 kb_X8_falseOf kx_X8_falseOf ku_X8_falseOf
theorem kb_X8_falseAt : pwB prog mX8_falseAt = true := by decide +kernel
theorem kx_X8_falseAt : cEqL (plnks prog mX8_falseAt ++ pmw mX8_falseAt) (([3, 4, 1, 8, 2, 7, 5, 6, 0] : List Nat).filterMap (nthT (pkT lw_tbl 74 [1070, 4, 13, 84, 21, 0, 0, 0]))) = true := by decide +kernel
theorem ku_X8_falseAt : (plnks prog mX8_falseAt ++ pmw mX8_falseAt).all uword = true := by decide +kernel
theorem ok_X8_falseAt : WFm prog mX8_falseAt := WFm.of3 kb_X8_falseAt kx_X8_falseAt ku_X8_falseAt
theorem kb_X8_fits : pwB prog mX8_fits = true := by decide +kernel
theorem kx_X8_fits : cEqL (plnks prog mX8_fits ++ pmw mX8_fits) (([3, 1, 2, 4, 5, 5, 5, 8, 6, 7, 0] : List Nat).filterMap (nthT (pkT lw_tbl 74 [1070, 4, 13, 3, 105, 4, 0, 0]))) = true := by decide +kernel
theorem ku_X8_fits : (plnks prog mX8_fits ++ pmw mX8_fits).all uword = true := by decide +kernel
theorem ok_X8_fits : WFm prog mX8_fits := WFm.of3 kb_X8_fits kx_X8_fits ku_X8_fits
theorem kb_X8_joinBy : pwB prog mX8_joinBy = true := by decide +kernel
theorem kx_X8_joinBy : cEqL (plnks prog mX8_joinBy ++ pmw mX8_joinBy) (([2, 2, 3, 3, 5, 4, 0, 1] : List Nat).filterMap (nthT (pkT lw_tbl 36 [37, 1093, 46, 72, 0]))) = true := by decide +kernel
theorem ku_X8_joinBy : (plnks prog mX8_joinBy ++ pmw mX8_joinBy).all uword = true := by decide +kernel
theorem ok_X8_joinBy : WFm prog mX8_joinBy := WFm.of3 kb_X8_joinBy kx_X8_joinBy ku_X8_joinBy
theorem kb_X8_join : pwB prog mX8_join = true := by decide +kernel
theorem kx_X8_join : cEqL (plnks prog mX8_join ++ pmw mX8_join) (([3, 3, 1, 2, 4, 8, 8, 8, 7, 5, 6, 0] : List Nat).filterMap (nthT (pkT lw_tbl 74 [1070, 4, 13, 3, 114, 0, 0, 0]))) = true := by decide +kernel
theorem ku_X8_join : (plnks prog mX8_join ++ pmw mX8_join).all uword = true := by decide +kernel
theorem ok_X8_join : WFm prog mX8_join := WFm.of3 kb_X8_join kx_X8_join ku_X8_join
theorem kb_X8_doClash : pwB prog mX8_doClash = true := by decide +kernel
theorem kx_X8_doClash : cEqL (plnks prog mX8_doClash ++ pmw mX8_doClash) (([3, 3, 2, 4, 2, 4, 6, 5, 0, 1] : List Nat).filterMap (nthT (pkT lw_tbl 37 [36, 1093, 3, 42, 80, 0]))) = true := by decide +kernel
theorem ku_X8_doClash : (plnks prog mX8_doClash ++ pmw mX8_doClash).all uword = true := by decide +kernel
theorem ok_X8_doClash : WFm prog mX8_doClash := WFm.of3 kb_X8_doClash kx_X8_doClash ku_X8_doClash
