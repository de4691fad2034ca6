/-! ===== checks of the tables, piece 2 (printed by program) ===== -/
theorem kb_X6_seeAgain : pmB mX6_seeAgain = true := by decide +kernel
theorem kd_X6_seeAgain : dz_dchk (m_b mX6_seeAgain) (m_code mX6_seeAgain) (m_b mX6_seeAgain).data.toList 0 = true := by decide +kernel
theorem ke_X6_seeAgain : pwA3 prog mX6_seeAgain (m_code mX6_seeAgain) = true := by decide +kernel
theorem kx_X6_seeAgain : cEqL (plnks prog mX6_seeAgain ++ pmw mX6_seeAgain) (([3, 8, 9, 4, 12, 13, 6, 2, 7, 4, 4, 14, 4, 4, 4, 3, 5, 5, 11, 10, 0, 1] : List Nat).filterMap (nthT (pkT lw_tbl 3 [64, 6, 90, 1, 27, 242, 0, 110, 0, 77, 0, 0, 0, 0]))) = true := by decide +kernel
theorem ku_X6_seeAgain : (plnks prog mX6_seeAgain ++ pmw mX6_seeAgain).all uword = true := by decide +kernel
theorem ok_X6_seeAgain : WFm prog mX6_seeAgain := WFm.of4 kb_X6_seeAgain kd_X6_seeAgain ke_X6_seeAgain kx_X6_seeAgain ku_X6_seeAgain
theorem kb_X6_gainOf : pmB mX6_gainOf = true := by decide +kernel
theorem kd_X6_gainOf : dz_dchk (m_b mX6_gainOf) (m_code mX6_gainOf) (m_b mX6_gainOf).data.toList 0 = true := by decide +kernel
theorem ke_X6_gainOf : pwA3 prog mX6_gainOf (m_code mX6_gainOf) = true := by decide +kernel
theorem kx_X6_gainOf : cEqL (plnks prog mX6_gainOf ++ pmw mX6_gainOf) (([4, 5, 6, 3, 1, 2, 0] : List Nat).filterMap (nthT (pkT lw_tbl 68 [322, 0, 0, 0, 40, 8]))) = true := by decide +kernel
theorem ku_X6_gainOf : (plnks prog mX6_gainOf ++ pmw mX6_gainOf).all uword = true := by decide +kernel
theorem ok_X6_gainOf : WFm prog mX6_gainOf := WFm.of4 kb_X6_gainOf kd_X6_gainOf ke_X6_gainOf kx_X6_gainOf ku_X6_gainOf
theorem kb_X6_given : pmB mX6_given = true := by decide +kernel
theorem kd_X6_given : dz_dchk (m_b mX6_given) (m_code mX6_given) (m_b mX6_given).data.toList 0 = true := by decide +kernel
theorem ke_X6_given : pwA3 prog mX6_given (m_code mX6_given) = true := by decide +kernel
theorem kx_X6_given : cEqL (plnks prog mX6_given ++ pmw mX6_given) (([5, 6, 1, 7, 4, 2, 3, 0] : List Nat).filterMap (nthT (pkT lw_tbl 68 [115, 210, 0, 0, 0, 3, 7]))) = true := by decide +kernel
theorem ku_X6_given : (plnks prog mX6_given ++ pmw mX6_given).all uword = true := by decide +kernel
theorem ok_X6_given : WFm prog mX6_given := WFm.of4 kb_X6_given kd_X6_given ke_X6_given kx_X6_given ku_X6_given
theorem kb_X6_textFor : pmB mX6_textFor = true := by decide +kernel
theorem kd_X6_textFor : dz_dchk (m_b mX6_textFor) (m_code mX6_textFor) (m_b mX6_textFor).data.toList 0 = true := by decide +kernel
theorem ke_X6_textFor : pwA3 prog mX6_textFor (m_code mX6_textFor) = true := by decide +kernel
theorem kx_X6_textFor : cEqL (plnks prog mX6_textFor ++ pmw mX6_textFor) (([2, 2, 1, 5, 3, 4, 0] : List Nat).filterMap (nthT (pkT lw_tbl 68 [78, 40, 210, 0, 0]))) = true := by decide +kernel
theorem ku_X6_textFor : (plnks prog mX6_textFor ++ pmw mX6_textFor).all uword = true := by decide +kernel
theorem ok_X6_textFor : WFm prog mX6_textFor := WFm.of4 kb_X6_textFor kd_X6_textFor ke_X6_textFor kx_X6_textFor ku_X6_textFor
theorem kb_X6_lawAt : pmB mX6_lawAt = true := by decide +kernel
theorem kd_X6_lawAt : dz_dchk (m_b mX6_lawAt) (m_code mX6_lawAt) (m_b mX6_lawAt).data.toList 0 = true := by decide +kernel
theorem ke_X6_lawAt : pwA3 prog mX6_lawAt (m_code mX6_lawAt) = true := by decide +kernel
theorem kx_X6_lawAt : cEqL (plnks prog mX6_lawAt ++ pmw mX6_lawAt) (([2, 1, 6, 5, 3, 4, 0] : List Nat).filterMap (nthT (pkT lw_tbl 68 [115, 6, 211, 0, 0, 0]))) = true := by decide +kernel
theorem ku_X6_lawAt : (plnks prog mX6_lawAt ++ pmw mX6_lawAt).all uword = true := by decide +kernel
theorem ok_X6_lawAt : WFm prog mX6_lawAt := WFm.of4 kb_X6_lawAt kd_X6_lawAt ke_X6_lawAt kx_X6_lawAt ku_X6_lawAt
theorem kb_X6_addText : pmB mX6_addText = true := by decide +kernel
theorem kd_X6_addText : dz_dchk (m_b mX6_addText) (m_code mX6_addText) (m_b mX6_addText).data.toList 0 = true := by decide +kernel
theorem ke_X6_addText : pwA3 prog mX6_addText (m_code mX6_addText) = true := by decide +kernel
theorem kx_X6_addText : cEqL (plnks prog mX6_addText ++ pmw mX6_addText) (([3, 5, 6, 3, 2, 1, 4, 10, 3, 2, 11, 4, 5, 5, 5, 5, 9, 7, 8, 0] : List Nat).filterMap (nthT (pkT lw_tbl 68 [40, 16, 57, 3, 2, 214, 523, 0, 0, 0, 0]))) = true := by decide +kernel
theorem ku_X6_addText : (plnks prog mX6_addText ++ pmw mX6_addText).all uword = true := by decide +kernel
theorem ok_X6_addText : WFm prog mX6_addText := WFm.of4 kb_X6_addText kd_X6_addText ke_X6_addText kx_X6_addText ku_X6_addText
theorem kb_X7_init : pmB mX7_init = true := by decide +kernel
theorem kd_X7_init : dz_dchk (m_b mX7_init) (m_code mX7_init) (m_b mX7_init).data.toList 0 = true := by decide +kernel
theorem ke_X7_init : pwA3 prog mX7_init (m_code mX7_init) = true := by decide +kernel
theorem kx_X7_init : cEqL (plnks prog mX7_init ++ pmw mX7_init) (([8, 9, 10, 11, 12, 1, 13, 29, 15, 16, 2, 29, 17, 30, 15, 16, 2, 29, 17, 31, 15, 16, 2, 29, 17, 32, 18, 19, 3, 20, 33, 21, 22, 34, 23, 24, 35, 14, 36, 34, 34, 21, 25, 4, 26, 35, 35, 23, 27, 5, 28, 7, 6, 0] : List Nat).filterMap (nthT (pkT lw_tbl 65 [0, 1, 2, 0, 0, 12, 0, 0, 0, 0, 0, 0, 0, 29, 15, 0, 0, 80, 0, 0, 38, 0, 0, 0, 0, 0, 16, 0, 23, 0, 0, 0, 0, 0, 0, 0]))) = true := by decide +kernel
theorem ku_X7_init : (plnks prog mX7_init ++ pmw mX7_init).all uword = true := by decide +kernel
theorem ok_X7_init : WFm prog mX7_init := WFm.of4 kb_X7_init kd_X7_init ke_X7_init kx_X7_init ku_X7_init
theorem kb_X7_rubbing : pmB mX7_rubbing = true := by decide +kernel
theorem kd_X7_rubbing : dz_dchk (m_b mX7_rubbing) (m_code mX7_rubbing) (m_b mX7_rubbing).data.toList 0 = true := by decide +kernel
theorem ke_X7_rubbing : pwA3 prog mX7_rubbing (m_code mX7_rubbing) = true := by decide +kernel
theorem kx_X7_rubbing : cEqL (plnks prog mX7_rubbing ++ pmw mX7_rubbing) (([5, 7, 6, 6, 8, 1, 9, 1, 10, 11, 4, 2, 3, 0] : List Nat).filterMap (nthT (pkT lw_tbl 65 [245, 30, 0, 0, 0, 2, 2, 0, 0, 3, 11]))) = true := by decide +kernel
theorem ku_X7_rubbing : (plnks prog mX7_rubbing ++ pmw mX7_rubbing).all uword = true := by decide +kernel
theorem ok_X7_rubbing : WFm prog mX7_rubbing := WFm.of4 kb_X7_rubbing kd_X7_rubbing ke_X7_rubbing kx_X7_rubbing ku_X7_rubbing
theorem kb_X7_told : pmB mX7_told = true := by decide +kernel
theorem kd_X7_told : dz_dchk (m_b mX7_told) (m_code mX7_told) (m_b mX7_told).data.toList 0 = true := by decide +kernel
theorem ke_X7_told : pwA3 prog mX7_told (m_code mX7_told) = true := by decide +kernel
theorem kx_X7_told : cEqL (plnks prog mX7_told ++ pmw mX7_told) (([2, 7, 3, 1, 8, 2, 9, 10, 11, 12, 13, 3, 6, 4, 5, 0] : List Nat).filterMap (nthT (pkT lw_tbl 65 [91, 153, 40, 18, 0, 0, 0, 0, 14, 57, 3, 3, 2]))) = true := by decide +kernel
theorem ku_X7_told : (plnks prog mX7_told ++ pmw mX7_told).all uword = true := by decide +kernel
theorem ok_X7_told : WFm prog mX7_told := WFm.of4 kb_X7_told kd_X7_told ke_X7_told kx_X7_told ku_X7_told
theorem kb_X7_says : pmB mX7_says = true := by decide +kernel
theorem kd_X7_says : dz_dchk (m_b mX7_says) (m_code mX7_says) (m_b mX7_says).data.toList 0 = true := by decide +kernel
theorem ke_X7_says : pwA3 prog mX7_says (m_code mX7_says) = true := by decide +kernel
theorem kx_X7_says : cEqL (plnks prog mX7_says ++ pmw mX7_says) (([2, 5, 1, 3, 9, 4, 8, 6, 7, 0] : List Nat).filterMap (nthT (pkT lw_tbl 65 [94, 150, 36, 3, 21, 89, 0, 0, 0]))) = true := by decide +kernel
theorem ku_X7_says : (plnks prog mX7_says ++ pmw mX7_says).all uword = true := by decide +kernel
theorem ok_X7_says : WFm prog mX7_says := WFm.of4 kb_X7_says kd_X7_says ke_X7_says kx_X7_says ku_X7_says
theorem kb_X7_as : pmB mX7_as = true := by decide +kernel
theorem kd_X7_as : dz_dchk (m_b mX7_as) (m_code mX7_as) (m_b mX7_as).data.toList 0 = true := by decide +kernel
theorem ke_X7_as : pwA3 prog mX7_as (m_code mX7_as) = true := by decide +kernel
theorem kx_X7_as : cEqL (plnks prog mX7_as ++ pmw mX7_as) (([2, 5, 3, 4, 9, 1, 10, 8, 6, 7, 0] : List Nat).filterMap (nthT (pkT lw_tbl 65 [94, 150, 33, 6, 21, 109, 0, 0, 0, 5]))) = true := by decide +kernel
theorem ku_X7_as : (plnks prog mX7_as ++ pmw mX7_as).all uword = true := by decide +kernel
theorem ok_X7_as : WFm prog mX7_as := WFm.of4 kb_X7_as kd_X7_as ke_X7_as kx_X7_as ku_X7_as
theorem kb_X7_turns : pmB mX7_turns = true := by decide +kernel
theorem kd_X7_turns : dz_dchk (m_b mX7_turns) (m_code mX7_turns) (m_b mX7_turns).data.toList 0 = true := by decide +kernel
theorem ke_X7_turns : pwA3 prog mX7_turns (m_code mX7_turns) = true := by decide +kernel
theorem kx_X7_turns : cEqL (plnks prog mX7_turns ++ pmw mX7_turns) (([2, 5, 3, 4, 1, 1, 8, 6, 7, 0] : List Nat).filterMap (nthT (pkT lw_tbl 65 [91, 153, 33, 6, 21, 120, 0, 0]))) = true := by decide +kernel
theorem ku_X7_turns : (plnks prog mX7_turns ++ pmw mX7_turns).all uword = true := by decide +kernel
theorem ok_X7_turns : WFm prog mX7_turns := WFm.of4 kb_X7_turns kd_X7_turns ke_X7_turns kx_X7_turns ku_X7_turns
theorem kb_X7_set : pmB mX7_set = true := by decide +kernel
theorem kd_X7_set : dz_dchk (m_b mX7_set) (m_code mX7_set) (m_b mX7_set).data.toList 0 = true := by decide +kernel
theorem ke_X7_set : pwA3 prog mX7_set (m_code mX7_set) = true := by decide +kernel
theorem kx_X7_set : cEqL (plnks prog mX7_set ++ pmw mX7_set) (([1, 4, 5, 10, 11, 2, 3, 6, 12, 9, 7, 8, 0] : List Nat).filterMap (nthT (pkT lw_tbl 65 [245, 36, 3, 21, 81, 2, 39, 0, 0, 0, 2, 2]))) = true := by decide +kernel
theorem ku_X7_set : (plnks prog mX7_set ++ pmw mX7_set).all uword = true := by decide +kernel
theorem ok_X7_set : WFm prog mX7_set := WFm.of4 kb_X7_set kd_X7_set ke_X7_set kx_X7_set ku_X7_set
theorem kb_X7_carve : pmB mX7_carve = true := by decide +kernel
theorem kd_X7_carve : dz_dchk (m_b mX7_carve) (m_code mX7_carve) (m_b mX7_carve).data.toList 0 = true := by decide +kernel
theorem ke_X7_carve : pwA3 prog mX7_carve (m_code mX7_carve) = true := by decide +kernel
theorem kx_X7_carve : cEqL (plnks prog mX7_carve ++ pmw mX7_carve) (([7, 2, 3, 1, 8, 1, 9, 6, 4, 5, 0] : List Nat).filterMap (nthT (pkT lw_tbl 65 [245, 36, 3, 160, 0, 0, 0, 0, 3]))) = true := by decide +kernel
theorem ku_X7_carve : (plnks prog mX7_carve ++ pmw mX7_carve).all uword = true := by decide +kernel
theorem ok_X7_carve : WFm prog mX7_carve := WFm.of4 kb_X7_carve kd_X7_carve ke_X7_carve kx_X7_carve ku_X7_carve
theorem kb_X7_carved : pmB mX7_carved = true := by decide +kernel
theorem kd_X7_carved : dz_dchk (m_b mX7_carved) (m_code mX7_carved) (m_b mX7_carved).data.toList 0 = true := by decide +kernel
theorem ke_X7_carved : pwA3 prog mX7_carved (m_code mX7_carved) = true := by decide +kernel
theorem kx_X7_carved : cEqL (plnks prog mX7_carved ++ pmw mX7_carved) (([3, 1, 4, 2, 7, 5, 6, 0] : List Nat).filterMap (nthT (pkT lw_tbl 65 [245, 40, 163, 0, 8, 0, 0]))) = true := by decide +kernel
theorem ku_X7_carved : (plnks prog mX7_carved ++ pmw mX7_carved).all uword = true := by decide +kernel
theorem ok_X7_carved : WFm prog mX7_carved := WFm.of4 kb_X7_carved kd_X7_carved ke_X7_carved kx_X7_carved ku_X7_carved
theorem kb_X7_deal : pmB mX7_deal = true := by decide +kernel
theorem kd_X7_deal : dz_dchk (m_b mX7_deal) (m_code mX7_deal) (m_b mX7_deal).data.toList 0 = true := by decide +kernel
theorem ke_X7_deal : pwA3 prog mX7_deal (m_code mX7_deal) = true := by decide +kernel
theorem kx_X7_deal : cEqL (plnks prog mX7_deal ++ pmw mX7_deal) (([2, 3, 1, 4, 1, 9, 1, 9, 10, 1, 9, 1, 5, 8, 6, 7, 0] : List Nat).filterMap (nthT (pkT lw_tbl 65 [245, 36, 3, 0, 3, 172, 0, 0, 0, 4]))) = true := by decide +kernel
theorem ku_X7_deal : (plnks prog mX7_deal ++ pmw mX7_deal).all uword = true := by decide +kernel
theorem ok_X7_deal : WFm prog mX7_deal := WFm.of4 kb_X7_deal kd_X7_deal ke_X7_deal kx_X7_deal ku_X7_deal
theorem kb_X7_seed : pmB mX7_seed = true := by decide +kernel
theorem kd_X7_seed : dz_dchk (m_b mX7_seed) (m_code mX7_seed) (m_b mX7_seed).data.toList 0 = true := by decide +kernel
theorem ke_X7_seed : pwA3 prog mX7_seed (m_code mX7_seed) = true := by decide +kernel
theorem kx_X7_seed : cEqL (plnks prog mX7_seed ++ pmw mX7_seed) (([2, 1, 2, 1, 5, 3, 4, 0] : List Nat).filterMap (nthT (pkT lw_tbl 65 [134, 110, 228, 0, 0]))) = true := by decide +kernel
theorem ku_X7_seed : (plnks prog mX7_seed ++ pmw mX7_seed).all uword = true := by decide +kernel
theorem ok_X7_seed : WFm prog mX7_seed := WFm.of4 kb_X7_seed kd_X7_seed ke_X7_seed kx_X7_seed ku_X7_seed
theorem kb_X7_falseAt : pmB mX7_falseAt = true := by decide +kernel
theorem kd_X7_falseAt : dz_dchk (m_b mX7_falseAt) (m_code mX7_falseAt) (m_b mX7_falseAt).data.toList 0 = true := by decide +kernel
theorem ke_X7_falseAt : pwA3 prog mX7_falseAt (m_code mX7_falseAt) = true := by decide +kernel
theorem kx_X7_falseAt : cEqL (plnks prog mX7_falseAt ++ pmw mX7_falseAt) (([1, 3, 4, 1, 8, 2, 7, 5, 6, 0] : List Nat).filterMap (nthT (pkT lw_tbl 65 [245, 40, 21, 141, 27, 0, 0, 0]))) = true := by decide +kernel
theorem ku_X7_falseAt : (plnks prog mX7_falseAt ++ pmw mX7_falseAt).all uword = true := by decide +kernel
theorem ok_X7_falseAt : WFm prog mX7_falseAt := WFm.of4 kb_X7_falseAt kd_X7_falseAt ke_X7_falseAt kx_X7_falseAt ku_X7_falseAt
theorem kb_X7_fits : pmB mX7_fits = true := by decide +kernel
theorem kd_X7_fits : dz_dchk (m_b mX7_fits) (m_code mX7_fits) (m_b mX7_fits).data.toList 0 = true := by decide +kernel
theorem ke_X7_fits : pwA3 prog mX7_fits (m_code mX7_fits) = true := by decide +kernel
theorem kx_X7_fits : cEqL (plnks prog mX7_fits ++ pmw mX7_fits) (([2, 5, 3, 4, 2, 6, 1, 2, 6, 9, 7, 8, 0] : List Nat).filterMap (nthT (pkT lw_tbl 65 [94, 150, 36, 3, 21, 172, 6, 0, 0]))) = true := by decide +kernel
theorem ku_X7_fits : (plnks prog mX7_fits ++ pmw mX7_fits).all uword = true := by decide +kernel
theorem ok_X7_fits : WFm prog mX7_fits := WFm.of4 kb_X7_fits kd_X7_fits ke_X7_fits kx_X7_fits ku_X7_fits
theorem kb_X7_join : pmB mX7_join = true := by decide +kernel
theorem kd_X7_join : dz_dchk (m_b mX7_join) (m_code mX7_join) (m_b mX7_join).data.toList 0 = true := by decide +kernel
theorem ke_X7_join : pwA3 prog mX7_join (m_code mX7_join) = true := by decide +kernel
theorem kx_X7_join : cEqL (plnks prog mX7_join ++ pmw mX7_join) (([2, 5, 2, 5, 3, 4, 9, 1, 9, 8, 6, 7, 0] : List Nat).filterMap (nthT (pkT lw_tbl 65 [94, 150, 36, 3, 21, 183, 0, 0, 0]))) = true := by decide +kernel
theorem ku_X7_join : (plnks prog mX7_join ++ pmw mX7_join).all uword = true := by decide +kernel
theorem ok_X7_join : WFm prog mX7_join := WFm.of4 kb_X7_join kd_X7_join ke_X7_join kx_X7_join ku_X7_join
theorem kb_X7_clash : pmB mX7_clash = true := by decide +kernel
theorem kd_X7_clash : dz_dchk (m_b mX7_clash) (m_code mX7_clash) (m_b mX7_clash).data.toList 0 = true := by decide +kernel
theorem ke_X7_clash : pwA3 prog mX7_clash (m_code mX7_clash) = true := by decide +kernel
theorem kx_X7_clash : cEqL (plnks prog mX7_clash ++ pmw mX7_clash) (([1, 3, 1, 3, 2, 7, 6, 4, 5, 0] : List Nat).filterMap (nthT (pkT lw_tbl 65 [245, 40, 21, 192, 0, 0, 0]))) = true := by decide +kernel
theorem ku_X7_clash : (plnks prog mX7_clash ++ pmw mX7_clash).all uword = true := by decide +kernel
theorem ok_X7_clash : WFm prog mX7_clash := WFm.of4 kb_X7_clash kd_X7_clash ke_X7_clash kx_X7_clash ku_X7_clash
theorem kb_X7_undone : pmB mX7_undone = true := by decide +kernel
theorem kd_X7_undone : dz_dchk (m_b mX7_undone) (m_code mX7_undone) (m_b mX7_undone).data.toList 0 = true := by decide +kernel
theorem ke_X7_undone : pwA3 prog mX7_undone (m_code mX7_undone) = true := by decide +kernel
theorem kx_X7_undone : cEqL (plnks prog mX7_undone ++ pmw mX7_undone) (([1, 5, 1, 6, 7, 1, 8, 4, 2, 3, 0] : List Nat).filterMap (nthT (pkT lw_tbl 65 [245, 263, 0, 0, 0, 4, 4, 8]))) = true := by decide +kernel
theorem ku_X7_undone : (plnks prog mX7_undone ++ pmw mX7_undone).all uword = true := by decide +kernel
theorem ok_X7_undone : WFm prog mX7_undone := WFm.of4 kb_X7_undone kd_X7_undone ke_X7_undone kx_X7_undone ku_X7_undone
theorem kb_X7_borne : pmB mX7_borne = true := by decide +kernel
theorem kd_X7_borne : dz_dchk (m_b mX7_borne) (m_code mX7_borne) (m_b mX7_borne).data.toList 0 = true := by decide +kernel
theorem ke_X7_borne : pwA3 prog mX7_borne (m_code mX7_borne) = true := by decide +kernel
theorem kx_X7_borne : cEqL (plnks prog mX7_borne ++ pmw mX7_borne) (([1, 2, 1, 7, 3, 1, 7, 6, 4, 5, 0] : List Nat).filterMap (nthT (pkT lw_tbl 65 [245, 271, 4, 13, 0, 0, 0]))) = true := by decide +kernel
theorem ku_X7_borne : (plnks prog mX7_borne ++ pmw mX7_borne).all uword = true := by decide +kernel
theorem ok_X7_borne : WFm prog mX7_borne := WFm.of4 kb_X7_borne kd_X7_borne ke_X7_borne kx_X7_borne ku_X7_borne
theorem kb_X7_look : pmB mX7_look = true := by decide +kernel
theorem kd_X7_look : dz_dchk (m_b mX7_look) (m_code mX7_look) (m_b mX7_look).data.toList 0 = true := by decide +kernel
theorem ke_X7_look : pwA3 prog mX7_look (m_code mX7_look) = true := by decide +kernel
theorem kx_X7_look : cEqL (plnks prog mX7_look ++ pmw mX7_look) (([2, 3, 1, 7, 1, 7, 6, 4, 5, 0] : List Nat).filterMap (nthT (pkT lw_tbl 65 [245, 36, 3, 258, 0, 0, 0]))) = true := by decide +kernel
theorem ku_X7_look : (plnks prog mX7_look ++ pmw mX7_look).all uword = true := by decide +kernel
theorem ok_X7_look : WFm prog mX7_look := WFm.of4 kb_X7_look kd_X7_look ke_X7_look kx_X7_look ku_X7_look
theorem kb_X7_tides : pmB mX7_tides = true := by decide +kernel
theorem kd_X7_tides : dz_dchk (m_b mX7_tides) (m_code mX7_tides) (m_b mX7_tides).data.toList 0 = true := by decide +kernel
theorem ke_X7_tides : pwA3 prog mX7_tides (m_code mX7_tides) = true := by decide +kernel
theorem kx_X7_tides : cEqL (plnks prog mX7_tides ++ pmw mX7_tides) (([5, 6, 4, 3, 4, 4, 2, 7, 8, 1, 9, 13, 4, 3, 12, 10, 11, 0] : List Nat).filterMap (nthT (pkT lw_tbl 65 [9, 119, 2, 112, 36, 3, 85, 0, 0, 179, 0, 0, 0]))) = true := by decide +kernel
theorem ku_X7_tides : (plnks prog mX7_tides ++ pmw mX7_tides).all uword = true := by decide +kernel
theorem ok_X7_tides : WFm prog mX7_tides := WFm.of4 kb_X7_tides kd_X7_tides ke_X7_tides kx_X7_tides ku_X7_tides
theorem kb_X7_book : pmB mX7_book = true := by decide +kernel
theorem kd_X7_book : dz_dchk (m_b mX7_book) (m_code mX7_book) (m_b mX7_book).data.toList 0 = true := by decide +kernel
theorem ke_X7_book : pwA3 prog mX7_book (m_code mX7_book) = true := by decide +kernel
theorem kx_X7_book : cEqL (plnks prog mX7_book ++ pmw mX7_book) (([2, 1, 2, 8, 2, 4, 2, 9, 3, 7, 5, 6, 0] : List Nat).filterMap (nthT (pkT lw_tbl 65 [132, 112, 40, 230, 52, 0, 0, 0, 7]))) = true := by decide +kernel
theorem ku_X7_book : (plnks prog mX7_book ++ pmw mX7_book).all uword = true := by decide +kernel
theorem ok_X7_book : WFm prog mX7_book := WFm.of4 kb_X7_book kd_X7_book ke_X7_book kx_X7_book ku_X7_book
theorem kb_X7_behind : pmB mX7_behind = true := by decide +kernel
theorem kd_X7_behind : dz_dchk (m_b mX7_behind) (m_code mX7_behind) (m_b mX7_behind).data.toList 0 = true := by decide +kernel
theorem ke_X7_behind : pwA3 prog mX7_behind (m_code mX7_behind) = true := by decide +kernel
theorem kx_X7_behind : cEqL (plnks prog mX7_behind ++ pmw mX7_behind) (([5, 3, 1, 5, 6, 4, 3, 13, 4, 8, 4, 9, 4, 7, 4, 2, 4, 14, 12, 10, 11, 0] : List Nat).filterMap (nthT (pkT lw_tbl 65 [124, 7, 112, 1, 34, 3, 230, 39, 15, 15, 0, 0, 0, 10]))) = true := by decide +kernel
theorem ku_X7_behind : (plnks prog mX7_behind ++ pmw mX7_behind).all uword = true := by decide +kernel
theorem ok_X7_behind : WFm prog mX7_behind := WFm.of4 kb_X7_behind kd_X7_behind ke_X7_behind kx_X7_behind ku_X7_behind
theorem kb_X7_lasts : pmB mX7_lasts = true := by decide +kernel
theorem kd_X7_lasts : dz_dchk (m_b mX7_lasts) (m_code mX7_lasts) (m_b mX7_lasts).data.toList 0 = true := by decide +kernel
theorem ke_X7_lasts : pwA3 prog mX7_lasts (m_code mX7_lasts) = true := by decide +kernel
theorem kx_X7_lasts : cEqL (plnks prog mX7_lasts ++ pmw mX7_lasts) (([2, 1, 5, 2, 3, 2, 4, 9, 8, 6, 7, 0] : List Nat).filterMap (nthT (pkT lw_tbl 65 [245, 1, 269, 39, 34, 12, 0, 0, 0]))) = true := by decide +kernel
theorem ku_X7_lasts : (plnks prog mX7_lasts ++ pmw mX7_lasts).all uword = true := by decide +kernel
theorem ok_X7_lasts : WFm prog mX7_lasts := WFm.of4 kb_X7_lasts kd_X7_lasts ke_X7_lasts kx_X7_lasts ku_X7_lasts
theorem kb_X7_best : pmB mX7_best = true := by decide +kernel
theorem kd_X7_best : dz_dchk (m_b mX7_best) (m_code mX7_best) (m_b mX7_best).data.toList 0 = true := by decide +kernel
theorem ke_X7_best : pwA3 prog mX7_best (m_code mX7_best) = true := by decide +kernel
theorem kx_X7_best : cEqL (plnks prog mX7_best ++ pmw mX7_best) (([1, 5, 3, 3, 4, 2, 1, 7, 2, 12, 2, 6, 2, 8, 11, 9, 10, 0] : List Nat).filterMap (nthT (pkT lw_tbl 65 [245, 1, 34, 3, 21, 248, 34, 10, 6, 0, 0, 0]))) = true := by decide +kernel
theorem ku_X7_best : (plnks prog mX7_best ++ pmw mX7_best).all uword = true := by decide +kernel
theorem ok_X7_best : WFm prog mX7_best := WFm.of4 kb_X7_best kd_X7_best ke_X7_best kx_X7_best ku_X7_best
theorem kb_X7_taught : pmB mX7_taught = true := by decide +kernel
theorem kd_X7_taught : dz_dchk (m_b mX7_taught) (m_code mX7_taught) (m_b mX7_taught).data.toList 0 = true := by decide +kernel
theorem ke_X7_taught : pwA3 prog mX7_taught (m_code mX7_taught) = true := by decide +kernel
theorem kx_X7_taught : cEqL (plnks prog mX7_taught ++ pmw mX7_taught) (([3, 3, 4, 2, 1, 9, 2, 1, 5, 6, 2, 7, 2, 8, 12, 10, 11, 0] : List Nat).filterMap (nthT (pkT lw_tbl 65 [245, 1, 34, 3, 164, 3, 101, 15, 18, 25, 0, 0]))) = true := by decide +kernel
theorem ku_X7_taught : (plnks prog mX7_taught ++ pmw mX7_taught).all uword = true := by decide +kernel
theorem ok_X7_taught : WFm prog mX7_taught := WFm.of4 kb_X7_taught kd_X7_taught ke_X7_taught kx_X7_taught ku_X7_taught
