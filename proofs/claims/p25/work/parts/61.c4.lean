/-! ===== checks of the tables, piece 4 (printed by program) ===== -/
theorem kb_X8_isIn : pmB mX8_isIn = true := by decide +kernel
theorem kd_X8_isIn : dz_dchk (m_b mX8_isIn) (m_code mX8_isIn) (m_b mX8_isIn).data.toList 0 = true := by decide +kernel
theorem ke_X8_isIn : pwA3 prog mX8_isIn (m_code mX8_isIn) = true := by decide +kernel
theorem kx_X8_isIn : cEqL (plnks prog mX8_isIn ++ pmw mX8_isIn) (([2, 1, 0] : List Nat).filterMap (nthT (pkT lw_tbl 74 [1071, 0]))) = true := by decide +kernel
theorem ku_X8_isIn : (plnks prog mX8_isIn ++ pmw mX8_isIn).all uword = true := by decide +kernel
theorem ok_X8_isIn : WFm prog mX8_isIn := WFm.of4 kb_X8_isIn kd_X8_isIn ke_X8_isIn kx_X8_isIn ku_X8_isIn
theorem kb_X8_orNone : pmB mX8_orNone = true := by decide +kernel
theorem kd_X8_orNone : dz_dchk (m_b mX8_orNone) (m_code mX8_orNone) (m_b mX8_orNone).data.toList 0 = true := by decide +kernel
theorem ke_X8_orNone : pwA3 prog mX8_orNone (m_code mX8_orNone) = true := by decide +kernel
theorem kx_X8_orNone : cEqL (plnks prog mX8_orNone ++ pmw mX8_orNone) (([3, 2, 1, 0] : List Nat).filterMap (nthT (pkT lw_tbl 74 [1296, 0, 0]))) = true := by decide +kernel
theorem ku_X8_orNone : (plnks prog mX8_orNone ++ pmw mX8_orNone).all uword = true := by decide +kernel
theorem ok_X8_orNone : WFm prog mX8_orNone := WFm.of4 kb_X8_orNone kd_X8_orNone ke_X8_orNone kx_X8_orNone ku_X8_orNone
theorem kb_X8_within : pmB mX8_within = true := by decide +kernel
theorem kd_X8_within : dz_dchk (m_b mX8_within) (m_code mX8_within) (m_b mX8_within).data.toList 0 = true := by decide +kernel
theorem ke_X8_within : pwA3 prog mX8_within (m_code mX8_within) = true := by decide +kernel
theorem kx_X8_within : cEqL (plnks prog mX8_within ++ pmw mX8_within) (([2, 1, 0] : List Nat).filterMap (nthT (pkT lw_tbl 74 [1126, 0]))) = true := by decide +kernel
theorem ku_X8_within : (plnks prog mX8_within ++ pmw mX8_within).all uword = true := by decide +kernel
theorem ok_X8_within : WFm prog mX8_within := WFm.of4 kb_X8_within kd_X8_within ke_X8_within kx_X8_within ku_X8_within
theorem kb_X8_off : pmB mX8_off = true := by decide +kernel
theorem kd_X8_off : dz_dchk (m_b mX8_off) (m_code mX8_off) (m_b mX8_off).data.toList 0 = true := by decide +kernel
theorem ke_X8_off : pwA3 prog mX8_off (m_code mX8_off) = true := by decide +kernel
theorem kx_X8_off : cEqL (plnks prog mX8_off ++ pmw mX8_off) (([2, 1, 0] : List Nat).filterMap (nthT (pkT lw_tbl 74 [1434, 0]))) = true := by decide +kernel
theorem ku_X8_off : (plnks prog mX8_off ++ pmw mX8_off).all uword = true := by decide +kernel
theorem ok_X8_off : WFm prog mX8_off := WFm.of4 kb_X8_off kd_X8_off ke_X8_off kx_X8_off ku_X8_off
theorem kb_X8_manyIn : pmB mX8_manyIn = true := by decide +kernel
theorem kd_X8_manyIn : dz_dchk (m_b mX8_manyIn) (m_code mX8_manyIn) (m_b mX8_manyIn).data.toList 0 = true := by decide +kernel
theorem ke_X8_manyIn : pwA3 prog mX8_manyIn (m_code mX8_manyIn) = true := by decide +kernel
theorem kx_X8_manyIn : cEqL (plnks prog mX8_manyIn ++ pmw mX8_manyIn) (([2, 1, 0] : List Nat).filterMap (nthT (pkT lw_tbl 74 [1236, 0]))) = true := by decide +kernel
theorem ku_X8_manyIn : (plnks prog mX8_manyIn ++ pmw mX8_manyIn).all uword = true := by decide +kernel
theorem ok_X8_manyIn : WFm prog mX8_manyIn := WFm.of4 kb_X8_manyIn kd_X8_manyIn ke_X8_manyIn kx_X8_manyIn ku_X8_manyIn
theorem kb_X8_becomes : pmB mX8_becomes = true := by decide +kernel
theorem kd_X8_becomes : dz_dchk (m_b mX8_becomes) (m_code mX8_becomes) (m_b mX8_becomes).data.toList 0 = true := by decide +kernel
theorem ke_X8_becomes : pwA3 prog mX8_becomes (m_code mX8_becomes) = true := by decide +kernel
theorem kx_X8_becomes : cEqL (plnks prog mX8_becomes ++ pmw mX8_becomes) (([2, 2, 4, 3, 0, 1] : List Nat).filterMap (nthT (pkT lw_tbl 33 [40, 968, 192, 0]))) = true := by decide +kernel
theorem ku_X8_becomes : (plnks prog mX8_becomes ++ pmw mX8_becomes).all uword = true := by decide +kernel
theorem ok_X8_becomes : WFm prog mX8_becomes := WFm.of4 kb_X8_becomes kd_X8_becomes ke_X8_becomes kx_X8_becomes ku_X8_becomes
theorem kb_X8_textAt : pmB mX8_textAt = true := by decide +kernel
theorem kd_X8_textAt : dz_dchk (m_b mX8_textAt) (m_code mX8_textAt) (m_b mX8_textAt).data.toList 0 = true := by decide +kernel
theorem ke_X8_textAt : pwA3 prog mX8_textAt (m_code mX8_textAt) = true := by decide +kernel
theorem kx_X8_textAt : cEqL (plnks prog mX8_textAt ++ pmw mX8_textAt) (([3, 2, 0, 1] : List Nat).filterMap (nthT (pkT lw_tbl 28 [45, 1116, 0]))) = true := by decide +kernel
theorem ku_X8_textAt : (plnks prog mX8_textAt ++ pmw mX8_textAt).all uword = true := by decide +kernel
theorem ok_X8_textAt : WFm prog mX8_textAt := WFm.of4 kb_X8_textAt kd_X8_textAt ke_X8_textAt kx_X8_textAt ku_X8_textAt
theorem kb_X8_of : pmB mX8_of = true := by decide +kernel
theorem kd_X8_of : dz_dchk (m_b mX8_of) (m_code mX8_of) (m_b mX8_of).data.toList 0 = true := by decide +kernel
theorem ke_X8_of : pwA3 prog mX8_of (m_code mX8_of) = true := by decide +kernel
theorem kx_X8_of : cEqL (plnks prog mX8_of ++ pmw mX8_of) (([2, 4, 3, 0, 1] : List Nat).filterMap (nthT (pkT lw_tbl 23 [50, 968, 126, 0]))) = true := by decide +kernel
theorem ku_X8_of : (plnks prog mX8_of ++ pmw mX8_of).all uword = true := by decide +kernel
theorem ok_X8_of : WFm prog mX8_of := WFm.of4 kb_X8_of kd_X8_of ke_X8_of kx_X8_of ku_X8_of
theorem kb_X8_sets : pmB mX8_sets = true := by decide +kernel
theorem kd_X8_sets : dz_dchk (m_b mX8_sets) (m_code mX8_sets) (m_b mX8_sets).data.toList 0 = true := by decide +kernel
theorem ke_X8_sets : pwA3 prog mX8_sets (m_code mX8_sets) = true := by decide +kernel
theorem kx_X8_sets : cEqL (plnks prog mX8_sets ++ pmw mX8_sets) (([2, 4, 3, 0, 1] : List Nat).filterMap (nthT (pkT lw_tbl 21 [52, 968, 114, 0]))) = true := by decide +kernel
theorem ku_X8_sets : (plnks prog mX8_sets ++ pmw mX8_sets).all uword = true := by decide +kernel
theorem ok_X8_sets : WFm prog mX8_sets := WFm.of4 kb_X8_sets kd_X8_sets ke_X8_sets kx_X8_sets ku_X8_sets
theorem kb_X8_isRubbing : pmB mX8_isRubbing = true := by decide +kernel
theorem kd_X8_isRubbing : dz_dchk (m_b mX8_isRubbing) (m_code mX8_isRubbing) (m_b mX8_isRubbing).data.toList 0 = true := by decide +kernel
theorem ke_X8_isRubbing : pwA3 prog mX8_isRubbing (m_code mX8_isRubbing) = true := by decide +kernel
theorem kx_X8_isRubbing : cEqL (plnks prog mX8_isRubbing ++ pmw mX8_isRubbing) (([2, 3, 5, 4, 0, 1] : List Nat).filterMap (nthT (pkT lw_tbl 22 [51, 968, 101, 20, 0]))) = true := by decide +kernel
theorem ku_X8_isRubbing : (plnks prog mX8_isRubbing ++ pmw mX8_isRubbing).all uword = true := by decide +kernel
theorem ok_X8_isRubbing : WFm prog mX8_isRubbing := WFm.of4 kb_X8_isRubbing kd_X8_isRubbing ke_X8_isRubbing kx_X8_isRubbing ku_X8_isRubbing
theorem kb_X8_isText : pmB mX8_isText = true := by decide +kernel
theorem kd_X8_isText : dz_dchk (m_b mX8_isText) (m_code mX8_isText) (m_b mX8_isText).data.toList 0 = true := by decide +kernel
theorem ke_X8_isText : pwA3 prog mX8_isText (m_code mX8_isText) = true := by decide +kernel
theorem kx_X8_isText : cEqL (plnks prog mX8_isText ++ pmw mX8_isText) (([2, 3, 5, 4, 0, 1] : List Nat).filterMap (nthT (pkT lw_tbl 62 [11, 968, 101, 326, 0]))) = true := by decide +kernel
theorem ku_X8_isText : (plnks prog mX8_isText ++ pmw mX8_isText).all uword = true := by decide +kernel
theorem ok_X8_isText : WFm prog mX8_isText := WFm.of4 kb_X8_isText kd_X8_isText ke_X8_isText kx_X8_isText ku_X8_isText
theorem kb_X8_drawn : pmB mX8_drawn = true := by decide +kernel
theorem kd_X8_drawn : dz_dchk (m_b mX8_drawn) (m_code mX8_drawn) (m_b mX8_drawn).data.toList 0 = true := by decide +kernel
theorem ke_X8_drawn : pwA3 prog mX8_drawn (m_code mX8_drawn) = true := by decide +kernel
theorem kx_X8_drawn : cEqL (plnks prog mX8_drawn ++ pmw mX8_drawn) (([2, 2, 5, 2, 4, 3, 0, 1] : List Nat).filterMap (nthT (pkT lw_tbl 34 [39, 968, 218, 0, 0]))) = true := by decide +kernel
theorem ku_X8_drawn : (plnks prog mX8_drawn ++ pmw mX8_drawn).all uword = true := by decide +kernel
theorem ok_X8_drawn : WFm prog mX8_drawn := WFm.of4 kb_X8_drawn kd_X8_drawn ke_X8_drawn kx_X8_drawn ku_X8_drawn
theorem kb_X8_comes : pmB mX8_comes = true := by decide +kernel
theorem kd_X8_comes : dz_dchk (m_b mX8_comes) (m_code mX8_comes) (m_b mX8_comes).data.toList 0 = true := by decide +kernel
theorem ke_X8_comes : pwA3 prog mX8_comes (m_code mX8_comes) = true := by decide +kernel
theorem kx_X8_comes : cEqL (plnks prog mX8_comes ++ pmw mX8_comes) (([2, 2, 5, 5, 5, 5, 5, 5, 4, 3, 0, 1] : List Nat).filterMap (nthT (pkT lw_tbl 20 [53, 968, 110, 0, 0]))) = true := by decide +kernel
theorem ku_X8_comes : (plnks prog mX8_comes ++ pmw mX8_comes).all uword = true := by decide +kernel
theorem ok_X8_comes : WFm prog mX8_comes := WFm.of4 kb_X8_comes kd_X8_comes ke_X8_comes kx_X8_comes ku_X8_comes
theorem kb_X8_rubbing : pmB mX8_rubbing = true := by decide +kernel
theorem kd_X8_rubbing : dz_dchk (m_b mX8_rubbing) (m_code mX8_rubbing) (m_b mX8_rubbing).data.toList 0 = true := by decide +kernel
theorem ke_X8_rubbing : pwA3 prog mX8_rubbing (m_code mX8_rubbing) = true := by decide +kernel
theorem kx_X8_rubbing : cEqL (plnks prog mX8_rubbing ++ pmw mX8_rubbing) (([5, 6, 7, 6, 8, 6, 9, 1, 10, 11, 1, 4, 2, 3, 0] : List Nat).filterMap (nthT (pkT lw_tbl 74 [968, 97, 0, 0, 0, 0, 2, 0, 0, 0, 0]))) = true := by decide +kernel
theorem ku_X8_rubbing : (plnks prog mX8_rubbing ++ pmw mX8_rubbing).all uword = true := by decide +kernel
theorem ok_X8_rubbing : WFm prog mX8_rubbing := WFm.of4 kb_X8_rubbing kd_X8_rubbing ke_X8_rubbing kx_X8_rubbing ku_X8_rubbing
theorem kb_X8_bolder : pmB mX8_bolder = true := by decide +kernel
theorem kd_X8_bolder : dz_dchk (m_b mX8_bolder) (m_code mX8_bolder) (m_b mX8_bolder).data.toList 0 = true := by decide +kernel
theorem ke_X8_bolder : pwA3 prog mX8_bolder (m_code mX8_bolder) = true := by decide +kernel
theorem kx_X8_bolder : cEqL (plnks prog mX8_bolder ++ pmw mX8_bolder) (([2, 1, 0] : List Nat).filterMap (nthT (pkT lw_tbl 74 [1145, 0]))) = true := by decide +kernel
theorem ku_X8_bolder : (plnks prog mX8_bolder ++ pmw mX8_bolder).all uword = true := by decide +kernel
theorem ok_X8_bolder : WFm prog mX8_bolder := WFm.of4 kb_X8_bolder kd_X8_bolder ke_X8_bolder kx_X8_bolder ku_X8_bolder
theorem kb_X8_saysAt : pmB mX8_saysAt = true := by decide +kernel
theorem kd_X8_saysAt : dz_dchk (m_b mX8_saysAt) (m_code mX8_saysAt) (m_b mX8_saysAt).data.toList 0 = true := by decide +kernel
theorem ke_X8_saysAt : pwA3 prog mX8_saysAt (m_code mX8_saysAt) = true := by decide +kernel
theorem kx_X8_saysAt : cEqL (plnks prog mX8_saysAt ++ pmw mX8_saysAt) (([2, 2, 2, 2, 5, 5, 5, 2, 4, 3, 0, 1] : List Nat).filterMap (nthT (pkT lw_tbl 32 [41, 1093, 48, 0, 0]))) = true := by decide +kernel
theorem ku_X8_saysAt : (plnks prog mX8_saysAt ++ pmw mX8_saysAt).all uword = true := by decide +kernel
theorem ok_X8_saysAt : WFm prog mX8_saysAt := WFm.of4 kb_X8_saysAt kd_X8_saysAt ke_X8_saysAt kx_X8_saysAt ku_X8_saysAt
theorem kb_X8_gains : pmB mX8_gains = true := by decide +kernel
theorem kd_X8_gains : dz_dchk (m_b mX8_gains) (m_code mX8_gains) (m_b mX8_gains).data.toList 0 = true := by decide +kernel
theorem ke_X8_gains : pwA3 prog mX8_gains (m_code mX8_gains) = true := by decide +kernel
theorem kx_X8_gains : cEqL (plnks prog mX8_gains ++ pmw mX8_gains) (([6, 2, 3, 2, 3, 2, 3, 7, 8, 3, 5, 4, 0, 1] : List Nat).filterMap (nthT (pkT lw_tbl 26 [47, 994, 98, 14, 0, 0, 7, 6]))) = true := by decide +kernel
theorem ku_X8_gains : (plnks prog mX8_gains ++ pmw mX8_gains).all uword = true := by decide +kernel
theorem ok_X8_gains : WFm prog mX8_gains := WFm.of4 kb_X8_gains kd_X8_gains ke_X8_gains kx_X8_gains ku_X8_gains
theorem kb_X8_loses : pmB mX8_loses = true := by decide +kernel
theorem kd_X8_loses : dz_dchk (m_b mX8_loses) (m_code mX8_loses) (m_b mX8_loses).data.toList 0 = true := by decide +kernel
theorem ke_X8_loses : pwA3 prog mX8_loses (m_code mX8_loses) = true := by decide +kernel
theorem kx_X8_loses : cEqL (plnks prog mX8_loses ++ pmw mX8_loses) (([2, 4, 3, 0, 1] : List Nat).filterMap (nthT (pkT lw_tbl 30 [43, 1093, 36, 0]))) = true := by decide +kernel
theorem ku_X8_loses : (plnks prog mX8_loses ++ pmw mX8_loses).all uword = true := by decide +kernel
theorem ok_X8_loses : WFm prog mX8_loses := WFm.of4 kb_X8_loses kd_X8_loses ke_X8_loses kx_X8_loses ku_X8_loses
theorem kb_X8_worth : pmB mX8_worth = true := by decide +kernel
theorem kd_X8_worth : dz_dchk (m_b mX8_worth) (m_code mX8_worth) (m_b mX8_worth).data.toList 0 = true := by decide +kernel
theorem ke_X8_worth : pwA3 prog mX8_worth (m_code mX8_worth) = true := by decide +kernel
theorem kx_X8_worth : cEqL (plnks prog mX8_worth ++ pmw mX8_worth) (([2, 2, 4, 3, 0, 1] : List Nat).filterMap (nthT (pkT lw_tbl 31 [42, 1093, 40, 0]))) = true := by decide +kernel
theorem ku_X8_worth : (plnks prog mX8_worth ++ pmw mX8_worth).all uword = true := by decide +kernel
theorem ok_X8_worth : WFm prog mX8_worth := WFm.of4 kb_X8_worth kd_X8_worth ke_X8_worth kx_X8_worth ku_X8_worth
theorem kb_X8_coversFrom : pmB mX8_coversFrom = true := by decide +kernel
theorem kd_X8_coversFrom : dz_dchk (m_b mX8_coversFrom) (m_code mX8_coversFrom) (m_b mX8_coversFrom).data.toList 0 = true := by decide +kernel
theorem ke_X8_coversFrom : pwA3 prog mX8_coversFrom (m_code mX8_coversFrom) = true := by decide +kernel
theorem kx_X8_coversFrom : cEqL (plnks prog mX8_coversFrom ++ pmw mX8_coversFrom) (([2, 5, 4, 3, 0, 1] : List Nat).filterMap (nthT (pkT lw_tbl 25 [48, 1093, 9, 0, 0]))) = true := by decide +kernel
theorem ku_X8_coversFrom : (plnks prog mX8_coversFrom ++ pmw mX8_coversFrom).all uword = true := by decide +kernel
theorem ok_X8_coversFrom : WFm prog mX8_coversFrom := WFm.of4 kb_X8_coversFrom kd_X8_coversFrom ke_X8_coversFrom kx_X8_coversFrom ku_X8_coversFrom
theorem kb_X8_covers : pmB mX8_covers = true := by decide +kernel
theorem kd_X8_covers : dz_dchk (m_b mX8_covers) (m_code mX8_covers) (m_b mX8_covers).data.toList 0 = true := by decide +kernel
theorem ke_X8_covers : pwA3 prog mX8_covers (m_code mX8_covers) = true := by decide +kernel
theorem kx_X8_covers : cEqL (plnks prog mX8_covers ++ pmw mX8_covers) (([2, 5, 4, 3, 0, 1] : List Nat).filterMap (nthT (pkT lw_tbl 24 [49, 1093, 5, 0, 0]))) = true := by decide +kernel
theorem ku_X8_covers : (plnks prog mX8_covers ++ pmw mX8_covers).all uword = true := by decide +kernel
theorem ok_X8_covers : WFm prog mX8_covers := WFm.of4 kb_X8_covers kd_X8_covers ke_X8_covers kx_X8_covers ku_X8_covers
theorem kb_X8_told : pmB mX8_told = true := by decide +kernel
theorem kd_X8_told : dz_dchk (m_b mX8_told) (m_code mX8_told) (m_b mX8_told).data.toList 0 = true := by decide +kernel
theorem ke_X8_told : pwA3 prog mX8_told (m_code mX8_told) = true := by decide +kernel
theorem kx_X8_told : cEqL (plnks prog mX8_told ++ pmw mX8_told) (([5, 1, 6, 7, 8, 9, 10, 1, 4, 2, 3, 0] : List Nat).filterMap (nthT (pkT lw_tbl 74 [1075, 10, 0, 0, 0, 3, 3, 8, 21, 3]))) = true := by decide +kernel
theorem ku_X8_told : (plnks prog mX8_told ++ pmw mX8_told).all uword = true := by decide +kernel
theorem ok_X8_told : WFm prog mX8_told := WFm.of4 kb_X8_told kd_X8_told ke_X8_told kx_X8_told ku_X8_told
theorem kb_X8_says : pmB mX8_says = true := by decide +kernel
theorem kd_X8_says : dz_dchk (m_b mX8_says) (m_code mX8_says) (m_b mX8_says).data.toList 0 = true := by decide +kernel
theorem ke_X8_says : pwA3 prog mX8_says (m_code mX8_says) = true := by decide +kernel
theorem kx_X8_says : cEqL (plnks prog mX8_says ++ pmw mX8_says) (([3, 4, 1, 8, 2, 7, 5, 6, 0] : List Nat).filterMap (nthT (pkT lw_tbl 74 [1070, 4, 13, 3, 43, 0, 0, 0]))) = true := by decide +kernel
theorem ku_X8_says : (plnks prog mX8_says ++ pmw mX8_says).all uword = true := by decide +kernel
theorem ok_X8_says : WFm prog mX8_says := WFm.of4 kb_X8_says kd_X8_says ke_X8_says kx_X8_says ku_X8_says
theorem kb_X8_isOf : pmB mX8_isOf = true := by decide +kernel
theorem kd_X8_isOf : dz_dchk (m_b mX8_isOf) (m_code mX8_isOf) (m_b mX8_isOf).data.toList 0 = true := by decide +kernel
theorem ke_X8_isOf : pwA3 prog mX8_isOf (m_code mX8_isOf) = true := by decide +kernel
theorem kx_X8_isOf : cEqL (plnks prog mX8_isOf ++ pmw mX8_isOf) (([2, 1, 0] : List Nat).filterMap (nthT (pkT lw_tbl 74 [1152, 0]))) = true := by decide +kernel
theorem ku_X8_isOf : (plnks prog mX8_isOf ++ pmw mX8_isOf).all uword = true := by decide +kernel
theorem ok_X8_isOf : WFm prog mX8_isOf := WFm.of4 kb_X8_isOf kd_X8_isOf ke_X8_isOf kx_X8_isOf ku_X8_isOf
theorem kb_X8_as : pmB mX8_as = true := by decide +kernel
theorem kd_X8_as : dz_dchk (m_b mX8_as) (m_code mX8_as) (m_b mX8_as).data.toList 0 = true := by decide +kernel
theorem ke_X8_as : pwA3 prog mX8_as (m_code mX8_as) = true := by decide +kernel
theorem kx_X8_as : cEqL (plnks prog mX8_as ++ pmw mX8_as) (([4, 1, 2, 3, 5, 9, 5, 10, 8, 6, 7, 0] : List Nat).filterMap (nthT (pkT lw_tbl 74 [1069, 0, 4, 13, 3, 54, 0, 0, 0, 2]))) = true := by decide +kernel
theorem ku_X8_as : (plnks prog mX8_as ++ pmw mX8_as).all uword = true := by decide +kernel
theorem ok_X8_as : WFm prog mX8_as := WFm.of4 kb_X8_as kd_X8_as ke_X8_as kx_X8_as ku_X8_as
theorem kb_X8_turns : pmB mX8_turns = true := by decide +kernel
theorem kd_X8_turns : dz_dchk (m_b mX8_turns) (m_code mX8_turns) (m_b mX8_turns).data.toList 0 = true := by decide +kernel
theorem ke_X8_turns : pwA3 prog mX8_turns (m_code mX8_turns) = true := by decide +kernel
theorem kx_X8_turns : cEqL (plnks prog mX8_turns ++ pmw mX8_turns) (([4, 1, 2, 8, 3, 7, 5, 6, 0] : List Nat).filterMap (nthT (pkT lw_tbl 74 [1069, 0, 4, 13, 66, 0, 0, 0]))) = true := by decide +kernel
theorem ku_X8_turns : (plnks prog mX8_turns ++ pmw mX8_turns).all uword = true := by decide +kernel
theorem ok_X8_turns : WFm prog mX8_turns := WFm.of4 kb_X8_turns kd_X8_turns ke_X8_turns kx_X8_turns ku_X8_turns
theorem kb_X8_mostOf : pmB mX8_mostOf = true := by decide +kernel
theorem kd_X8_mostOf : dz_dchk (m_b mX8_mostOf) (m_code mX8_mostOf) (m_b mX8_mostOf).data.toList 0 = true := by decide +kernel
theorem ke_X8_mostOf : pwA3 prog mX8_mostOf (m_code mX8_mostOf) = true := by decide +kernel
theorem kx_X8_mostOf : cEqL (plnks prog mX8_mostOf ++ pmw mX8_mostOf) (([1, 3, 2, 0] : List Nat).filterMap (nthT (pkT lw_tbl 74 [1105, 62, 0]))) = true := by decide +kernel
theorem ku_X8_mostOf : (plnks prog mX8_mostOf ++ pmw mX8_mostOf).all uword = true := by decide +kernel
theorem ok_X8_mostOf : WFm prog mX8_mostOf := WFm.of4 kb_X8_mostOf kd_X8_mostOf ke_X8_mostOf kx_X8_mostOf ku_X8_mostOf
theorem kb_X8_set : pmB mX8_set = true := by decide +kernel
theorem kd_X8_set : dz_dchk (m_b mX8_set) (m_code mX8_set) (m_b mX8_set).data.toList 0 = true := by decide +kernel
theorem ke_X8_set : pwA3 prog mX8_set (m_code mX8_set) = true := by decide +kernel
theorem kx_X8_set : cEqL (plnks prog mX8_set ++ pmw mX8_set) (([4, 1, 2, 9, 2, 3, 5, 8, 6, 7, 0] : List Nat).filterMap (nthT (pkT lw_tbl 74 [1069, 0, 4, 13, 69, 4, 0, 0, 0]))) = true := by decide +kernel
theorem ku_X8_set : (plnks prog mX8_set ++ pmw mX8_set).all uword = true := by decide +kernel
theorem ok_X8_set : WFm prog mX8_set := WFm.of4 kb_X8_set kd_X8_set ke_X8_set kx_X8_set ku_X8_set
theorem kb_X8_carve : pmB mX8_carve = true := by decide +kernel
theorem kd_X8_carve : dz_dchk (m_b mX8_carve) (m_code mX8_carve) (m_b mX8_carve).data.toList 0 = true := by decide +kernel
theorem ke_X8_carve : pwA3 prog mX8_carve (m_code mX8_carve) = true := by decide +kernel
theorem kx_X8_carve : cEqL (plnks prog mX8_carve ++ pmw mX8_carve) (([7, 1, 8, 1, 3, 2, 6, 4, 5, 0] : List Nat).filterMap (nthT (pkT lw_tbl 74 [1070, 4, 83, 11, 0, 0, 0, 0]))) = true := by decide +kernel
theorem ku_X8_carve : (plnks prog mX8_carve ++ pmw mX8_carve).all uword = true := by decide +kernel
theorem ok_X8_carve : WFm prog mX8_carve := WFm.of4 kb_X8_carve kd_X8_carve ke_X8_carve kx_X8_carve ku_X8_carve
theorem kb_X8_carved : pmB mX8_carved = true := by decide +kernel
theorem kd_X8_carved : dz_dchk (m_b mX8_carved) (m_code mX8_carved) (m_b mX8_carved).data.toList 0 = true := by decide +kernel
theorem ke_X8_carved : pwA3 prog mX8_carved (m_code mX8_carved) = true := by decide +kernel
theorem kx_X8_carved : cEqL (plnks prog mX8_carved ++ pmw mX8_carved) (([4, 2, 1, 3, 7, 5, 6, 0] : List Nat).filterMap (nthT (pkT lw_tbl 74 [968, 101, 4, 98, 2, 0, 0]))) = true := by decide +kernel
theorem ku_X8_carved : (plnks prog mX8_carved ++ pmw mX8_carved).all uword = true := by decide +kernel
theorem ok_X8_carved : WFm prog mX8_carved := WFm.of4 kb_X8_carved kd_X8_carved ke_X8_carved kx_X8_carved ku_X8_carved
theorem kb_X8_deal : pmB mX8_deal = true := by decide +kernel
theorem kd_X8_deal : dz_dchk (m_b mX8_deal) (m_code mX8_deal) (m_b mX8_deal).data.toList 0 = true := by decide +kernel
theorem ke_X8_deal : pwA3 prog mX8_deal (m_code mX8_deal) = true := by decide +kernel
theorem kx_X8_deal : cEqL (plnks prog mX8_deal ++ pmw mX8_deal) (([8, 2, 3, 1, 9, 9, 10, 9, 4, 7, 5, 6, 0] : List Nat).filterMap (nthT (pkT lw_tbl 74 [968, 101, 4, 1, 103, 0, 0, 0, 0, 4]))) = true := by decide +kernel
theorem ku_X8_deal : (plnks prog mX8_deal ++ pmw mX8_deal).all uword = true := by decide +kernel
theorem ok_X8_deal : WFm prog mX8_deal := WFm.of4 kb_X8_deal kd_X8_deal ke_X8_deal kx_X8_deal ku_X8_deal
theorem kb_X8_seed : pmB mX8_seed = true := by decide +kernel
theorem kd_X8_seed : dz_dchk (m_b mX8_seed) (m_code mX8_seed) (m_b mX8_seed).data.toList 0 = true := by decide +kernel
theorem ke_X8_seed : pwA3 prog mX8_seed (m_code mX8_seed) = true := by decide +kernel
theorem kx_X8_seed : cEqL (plnks prog mX8_seed ++ pmw mX8_seed) (([1, 4, 2, 3, 0] : List Nat).filterMap (nthT (pkT lw_tbl 74 [1159, 32, 0, 0]))) = true := by decide +kernel
theorem ku_X8_seed : (plnks prog mX8_seed ++ pmw mX8_seed).all uword = true := by decide +kernel
theorem ok_X8_seed : WFm prog mX8_seed := WFm.of4 kb_X8_seed kd_X8_seed ke_X8_seed kx_X8_seed ku_X8_seed
theorem kb_X8_falseOf : pmB mX8_falseOf = true := by decide +kernel
theorem kd_X8_falseOf : dz_dchk (m_b mX8_falseOf) (m_code mX8_falseOf) (m_b mX8_falseOf).data.toList 0 = true := by decide +kernel
theorem ke_X8_falseOf : pwA3 prog mX8_falseOf (m_code mX8_falseOf) = true := by decide +kernel
theorem kx_X8_falseOf : cEqL (plnks prog mX8_falseOf ++ pmw mX8_falseOf) (([3, 4, 2, 6, 5, 0, 1] : List Nat).filterMap (nthT (pkT lw_tbl 35 [38, 968, 124, 46, 60, 0]))) = true := by decide +kernel
theorem ku_X8_falseOf : (plnks prog mX8_falseOf ++ pmw mX8_falseOf).all uword = true := by decide +kernel
theorem ok_X8_falseOf : WFm prog mX8_falseOf := WFm.of4 kb_X8_falseOf kd_X8_falseOf ke_X8_falseOf kx_X8_falseOf ku_X8_falseOf
theorem kb_X8_falseAt : pmB mX8_falseAt = true := by decide +kernel
theorem kd_X8_falseAt : dz_dchk (m_b mX8_falseAt) (m_code mX8_falseAt) (m_b mX8_falseAt).data.toList 0 = true := by decide +kernel
theorem ke_X8_falseAt : pwA3 prog mX8_falseAt (m_code mX8_falseAt) = true := by decide +kernel
theorem kx_X8_falseAt : cEqL (plnks prog mX8_falseAt ++ pmw mX8_falseAt) (([3, 4, 1, 8, 2, 7, 5, 6, 0] : List Nat).filterMap (nthT (pkT lw_tbl 74 [1070, 4, 13, 84, 21, 0, 0, 0]))) = true := by decide +kernel
theorem ku_X8_falseAt : (plnks prog mX8_falseAt ++ pmw mX8_falseAt).all uword = true := by decide +kernel
theorem ok_X8_falseAt : WFm prog mX8_falseAt := WFm.of4 kb_X8_falseAt kd_X8_falseAt ke_X8_falseAt kx_X8_falseAt ku_X8_falseAt
theorem kb_X8_fits : pmB mX8_fits = true := by decide +kernel
theorem kd_X8_fits : dz_dchk (m_b mX8_fits) (m_code mX8_fits) (m_b mX8_fits).data.toList 0 = true := by decide +kernel
theorem ke_X8_fits : pwA3 prog mX8_fits (m_code mX8_fits) = true := by decide +kernel
theorem kx_X8_fits : cEqL (plnks prog mX8_fits ++ pmw mX8_fits) (([3, 1, 2, 4, 5, 5, 5, 8, 6, 7, 0] : List Nat).filterMap (nthT (pkT lw_tbl 74 [1070, 4, 13, 3, 105, 4, 0, 0]))) = true := by decide +kernel
theorem ku_X8_fits : (plnks prog mX8_fits ++ pmw mX8_fits).all uword = true := by decide +kernel
theorem ok_X8_fits : WFm prog mX8_fits := WFm.of4 kb_X8_fits kd_X8_fits ke_X8_fits kx_X8_fits ku_X8_fits
theorem kb_X8_joinBy : pmB mX8_joinBy = true := by decide +kernel
theorem kd_X8_joinBy : dz_dchk (m_b mX8_joinBy) (m_code mX8_joinBy) (m_b mX8_joinBy).data.toList 0 = true := by decide +kernel
theorem ke_X8_joinBy : pwA3 prog mX8_joinBy (m_code mX8_joinBy) = true := by decide +kernel
theorem kx_X8_joinBy : cEqL (plnks prog mX8_joinBy ++ pmw mX8_joinBy) (([2, 2, 3, 3, 5, 4, 0, 1] : List Nat).filterMap (nthT (pkT lw_tbl 36 [37, 1093, 46, 72, 0]))) = true := by decide +kernel
theorem ku_X8_joinBy : (plnks prog mX8_joinBy ++ pmw mX8_joinBy).all uword = true := by decide +kernel
theorem ok_X8_joinBy : WFm prog mX8_joinBy := WFm.of4 kb_X8_joinBy kd_X8_joinBy ke_X8_joinBy kx_X8_joinBy ku_X8_joinBy
theorem kb_X8_join : pmB mX8_join = true := by decide +kernel
theorem kd_X8_join : dz_dchk (m_b mX8_join) (m_code mX8_join) (m_b mX8_join).data.toList 0 = true := by decide +kernel
theorem ke_X8_join : pwA3 prog mX8_join (m_code mX8_join) = true := by decide +kernel
theorem kx_X8_join : cEqL (plnks prog mX8_join ++ pmw mX8_join) (([3, 3, 1, 2, 4, 8, 8, 8, 7, 5, 6, 0] : List Nat).filterMap (nthT (pkT lw_tbl 74 [1070, 4, 13, 3, 114, 0, 0, 0]))) = true := by decide +kernel
theorem ku_X8_join : (plnks prog mX8_join ++ pmw mX8_join).all uword = true := by decide +kernel
theorem ok_X8_join : WFm prog mX8_join := WFm.of4 kb_X8_join kd_X8_join ke_X8_join kx_X8_join ku_X8_join
theorem kb_X8_doClash : pmB mX8_doClash = true := by decide +kernel
theorem kd_X8_doClash : dz_dchk (m_b mX8_doClash) (m_code mX8_doClash) (m_b mX8_doClash).data.toList 0 = true := by decide +kernel
theorem ke_X8_doClash : pwA3 prog mX8_doClash (m_code mX8_doClash) = true := by decide +kernel
theorem kx_X8_doClash : cEqL (plnks prog mX8_doClash ++ pmw mX8_doClash) (([3, 3, 2, 4, 2, 4, 6, 5, 0, 1] : List Nat).filterMap (nthT (pkT lw_tbl 37 [36, 1093, 3, 42, 80, 0]))) = true := by decide +kernel
theorem ku_X8_doClash : (plnks prog mX8_doClash ++ pmw mX8_doClash).all uword = true := by decide +kernel
theorem ok_X8_doClash : WFm prog mX8_doClash := WFm.of4 kb_X8_doClash kd_X8_doClash ke_X8_doClash kx_X8_doClash ku_X8_doClash
