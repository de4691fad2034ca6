/-! ===== checks of the tables, piece 5 (printed by program) ===== -/
theorem kb_X8_clash : pmB mX8_clash = true := by decide +kernel
theorem kd_X8_clash : dz_dchk (m_b mX8_clash) (m_code mX8_clash) (m_b mX8_clash).data.toList 0 = true := by decide +kernel
theorem ke_X8_clash : pwA3 prog mX8_clash (m_code mX8_clash) = true := by decide +kernel
theorem kx_X8_clash : cEqL (plnks prog mX8_clash ++ pmw mX8_clash) (([2, 2, 1, 6, 5, 3, 4, 0] : List Nat).filterMap (nthT (pkT lw_tbl 74 [1075, 13, 126, 0, 0, 0]))) = true := by decide +kernel
theorem ku_X8_clash : (plnks prog mX8_clash ++ pmw mX8_clash).all uword = true := by decide +kernel
theorem ok_X8_clash : WFm prog mX8_clash := WFm.of4 kb_X8_clash kd_X8_clash ke_X8_clash kx_X8_clash ku_X8_clash
theorem kb_X8_laidOnes : pmB mX8_laidOnes = true := by decide +kernel
theorem kd_X8_laidOnes : dz_dchk (m_b mX8_laidOnes) (m_code mX8_laidOnes) (m_b mX8_laidOnes).data.toList 0 = true := by decide +kernel
theorem ke_X8_laidOnes : pwA3 prog mX8_laidOnes (m_code mX8_laidOnes) = true := by decide +kernel
theorem kx_X8_laidOnes : cEqL (plnks prog mX8_laidOnes ++ pmw mX8_laidOnes) (([2, 3, 5, 4, 0, 1] : List Nat).filterMap (nthT (pkT lw_tbl 39 [34, 968, 124, 139, 0]))) = true := by decide +kernel
theorem ku_X8_laidOnes : (plnks prog mX8_laidOnes ++ pmw mX8_laidOnes).all uword = true := by decide +kernel
theorem ok_X8_laidOnes : WFm prog mX8_laidOnes := WFm.of4 kb_X8_laidOnes kd_X8_laidOnes ke_X8_laidOnes kx_X8_laidOnes ku_X8_laidOnes
theorem kb_X8_coveredBy : pmB mX8_coveredBy = true := by decide +kernel
theorem kd_X8_coveredBy : dz_dchk (m_b mX8_coveredBy) (m_code mX8_coveredBy) (m_b mX8_coveredBy).data.toList 0 = true := by decide +kernel
theorem ke_X8_coveredBy : pwA3 prog mX8_coveredBy (m_code mX8_coveredBy) = true := by decide +kernel
theorem kx_X8_coveredBy : cEqL (plnks prog mX8_coveredBy ++ pmw mX8_coveredBy) (([2, 3, 5, 4, 0, 1] : List Nat).filterMap (nthT (pkT lw_tbl 41 [32, 968, 128, 150, 0]))) = true := by decide +kernel
theorem ku_X8_coveredBy : (plnks prog mX8_coveredBy ++ pmw mX8_coveredBy).all uword = true := by decide +kernel
theorem ok_X8_coveredBy : WFm prog mX8_coveredBy := WFm.of4 kb_X8_coveredBy kd_X8_coveredBy ke_X8_coveredBy kx_X8_coveredBy ku_X8_coveredBy
theorem kb_X8_findClashing : pmB mX8_findClashing = true := by decide +kernel
theorem kd_X8_findClashing : dz_dchk (m_b mX8_findClashing) (m_code mX8_findClashing) (m_b mX8_findClashing).data.toList 0 = true := by decide +kernel
theorem ke_X8_findClashing : pwA3 prog mX8_findClashing (m_code mX8_findClashing) = true := by decide +kernel
theorem kx_X8_findClashing : cEqL (plnks prog mX8_findClashing ++ pmw mX8_findClashing) (([2, 3, 2, 3, 4, 6, 5, 0, 1] : List Nat).filterMap (nthT (pkT lw_tbl 38 [35, 968, 11, 238, 9, 0]))) = true := by decide +kernel
theorem ku_X8_findClashing : (plnks prog mX8_findClashing ++ pmw mX8_findClashing).all uword = true := by decide +kernel
theorem ok_X8_findClashing : WFm prog mX8_findClashing := WFm.of4 kb_X8_findClashing kd_X8_findClashing ke_X8_findClashing kx_X8_findClashing ku_X8_findClashing
theorem kb_X8_areAtPeace : pmB mX8_areAtPeace = true := by decide +kernel
theorem kd_X8_areAtPeace : dz_dchk (m_b mX8_areAtPeace) (m_code mX8_areAtPeace) (m_b mX8_areAtPeace).data.toList 0 = true := by decide +kernel
theorem ke_X8_areAtPeace : pwA3 prog mX8_areAtPeace (m_code mX8_areAtPeace) = true := by decide +kernel
theorem kx_X8_areAtPeace : cEqL (plnks prog mX8_areAtPeace ++ pmw mX8_areAtPeace) (([2, 3, 5, 4, 0, 1] : List Nat).filterMap (nthT (pkT lw_tbl 40 [33, 968, 11, 259, 0]))) = true := by decide +kernel
theorem ku_X8_areAtPeace : (plnks prog mX8_areAtPeace ++ pmw mX8_areAtPeace).all uword = true := by decide +kernel
theorem ok_X8_areAtPeace : WFm prog mX8_areAtPeace := WFm.of4 kb_X8_areAtPeace kd_X8_areAtPeace ke_X8_areAtPeace kx_X8_areAtPeace ku_X8_areAtPeace
theorem kb_X8_undone : pmB mX8_undone = true := by decide +kernel
theorem kd_X8_undone : dz_dchk (m_b mX8_undone) (m_code mX8_undone) (m_b mX8_undone).data.toList 0 = true := by decide +kernel
theorem ke_X8_undone : pwA3 prog mX8_undone (m_code mX8_undone) = true := by decide +kernel
theorem kx_X8_undone : cEqL (plnks prog mX8_undone ++ pmw mX8_undone) (([4, 5, 6, 6, 7, 3, 1, 2, 0] : List Nat).filterMap (nthT (pkT lw_tbl 74 [1224, 0, 0, 0, 3, 3, 2]))) = true := by decide +kernel
theorem ku_X8_undone : (plnks prog mX8_undone ++ pmw mX8_undone).all uword = true := by decide +kernel
theorem ok_X8_undone : WFm prog mX8_undone := WFm.of4 kb_X8_undone kd_X8_undone ke_X8_undone kx_X8_undone ku_X8_undone
theorem kb_X8_borne : pmB mX8_borne = true := by decide +kernel
theorem kd_X8_borne : dz_dchk (m_b mX8_borne) (m_code mX8_borne) (m_b mX8_borne).data.toList 0 = true := by decide +kernel
theorem ke_X8_borne : pwA3 prog mX8_borne (m_code mX8_borne) = true := by decide +kernel
theorem kx_X8_borne : cEqL (plnks prog mX8_borne ++ pmw mX8_borne) (([1, 6, 2, 2, 6, 5, 3, 4, 0] : List Nat).filterMap (nthT (pkT lw_tbl 74 [1231, 3, 7, 0, 0, 0]))) = true := by decide +kernel
theorem ku_X8_borne : (plnks prog mX8_borne ++ pmw mX8_borne).all uword = true := by decide +kernel
theorem ok_X8_borne : WFm prog mX8_borne := WFm.of4 kb_X8_borne kd_X8_borne ke_X8_borne kx_X8_borne ku_X8_borne
theorem kb_X8_otherwiseAt : pmB mX8_otherwiseAt = true := by decide +kernel
theorem kd_X8_otherwiseAt : dz_dchk (m_b mX8_otherwiseAt) (m_code mX8_otherwiseAt) (m_b mX8_otherwiseAt).data.toList 0 = true := by decide +kernel
theorem ke_X8_otherwiseAt : pwA3 prog mX8_otherwiseAt (m_code mX8_otherwiseAt) = true := by decide +kernel
theorem kx_X8_otherwiseAt : cEqL (plnks prog mX8_otherwiseAt ++ pmw mX8_otherwiseAt) (([2, 4, 3, 5, 2, 7, 6, 0, 1] : List Nat).filterMap (nthT (pkT lw_tbl 42 [31, 968, 124, 3, 42, 115, 0]))) = true := by decide +kernel
theorem ku_X8_otherwiseAt : (plnks prog mX8_otherwiseAt ++ pmw mX8_otherwiseAt).all uword = true := by decide +kernel
theorem ok_X8_otherwiseAt : WFm prog mX8_otherwiseAt := WFm.of4 kb_X8_otherwiseAt kd_X8_otherwiseAt ke_X8_otherwiseAt kx_X8_otherwiseAt ku_X8_otherwiseAt
theorem kb_X8_look : pmB mX8_look = true := by decide +kernel
theorem kd_X8_look : dz_dchk (m_b mX8_look) (m_code mX8_look) (m_b mX8_look).data.toList 0 = true := by decide +kernel
theorem ke_X8_look : pwA3 prog mX8_look (m_code mX8_look) = true := by decide +kernel
theorem kx_X8_look : cEqL (plnks prog mX8_look ++ pmw mX8_look) (([1, 2, 6, 6, 6, 5, 3, 4, 0] : List Nat).filterMap (nthT (pkT lw_tbl 74 [1070, 4, 175, 0, 0, 0]))) = true := by decide +kernel
theorem ku_X8_look : (plnks prog mX8_look ++ pmw mX8_look).all uword = true := by decide +kernel
theorem ok_X8_look : WFm prog mX8_look := WFm.of4 kb_X8_look kd_X8_look ke_X8_look kx_X8_look ku_X8_look
theorem kb_X8_goesOn : pmB mX8_goesOn = true := by decide +kernel
theorem kd_X8_goesOn : dz_dchk (m_b mX8_goesOn) (m_code mX8_goesOn) (m_b mX8_goesOn).data.toList 0 = true := by decide +kernel
theorem ke_X8_goesOn : pwA3 prog mX8_goesOn (m_code mX8_goesOn) = true := by decide +kernel
theorem kx_X8_goesOn : cEqL (plnks prog mX8_goesOn ++ pmw mX8_goesOn) (([10, 2, 5, 4, 9, 2, 4, 6, 8, 7, 3, 3, 2, 2, 12, 11, 0, 1] : List Nat).filterMap (nthT (pkT lw_tbl 43 [30, 968, 112, 11, 3, 8, 18, 2, 11, 44, 79, 0]))) = true := by decide +kernel
theorem ku_X8_goesOn : (plnks prog mX8_goesOn ++ pmw mX8_goesOn).all uword = true := by decide +kernel
theorem ok_X8_goesOn : WFm prog mX8_goesOn := WFm.of4 kb_X8_goesOn kd_X8_goesOn ke_X8_goesOn kx_X8_goesOn ku_X8_goesOn
theorem kb_X8_goesOnMany : pmB mX8_goesOnMany = true := by decide +kernel
theorem kd_X8_goesOnMany : dz_dchk (m_b mX8_goesOnMany) (m_code mX8_goesOnMany) (m_b mX8_goesOnMany).data.toList 0 = true := by decide +kernel
theorem ke_X8_goesOnMany : pwA3 prog mX8_goesOnMany (m_code mX8_goesOnMany) = true := by decide +kernel
theorem kx_X8_goesOnMany : cEqL (plnks prog mX8_goesOnMany ++ pmw mX8_goesOnMany) (([2, 4, 3, 0, 1] : List Nat).filterMap (nthT (pkT lw_tbl 46 [27, 1263, 21, 0]))) = true := by decide +kernel
theorem ku_X8_goesOnMany : (plnks prog mX8_goesOnMany ++ pmw mX8_goesOnMany).all uword = true := by decide +kernel
theorem ok_X8_goesOnMany : WFm prog mX8_goesOnMany := WFm.of4 kb_X8_goesOnMany kd_X8_goesOnMany ke_X8_goesOnMany kx_X8_goesOnMany ku_X8_goesOnMany
theorem kb_X8_tides : pmB mX8_tides = true := by decide +kernel
theorem kd_X8_tides : dz_dchk (m_b mX8_tides) (m_code mX8_tides) (m_b mX8_tides).data.toList 0 = true := by decide +kernel
theorem ke_X8_tides : pwA3 prog mX8_tides (m_code mX8_tides) = true := by decide +kernel
theorem kx_X8_tides : cEqL (plnks prog mX8_tides ++ pmw mX8_tides) (([7, 2, 3, 1, 1, 8, 1, 6, 4, 5, 0] : List Nat).filterMap (nthT (pkT lw_tbl 74 [968, 101, 4, 183, 0, 0, 0, 0]))) = true := by decide +kernel
theorem ku_X8_tides : (plnks prog mX8_tides ++ pmw mX8_tides).all uword = true := by decide +kernel
theorem ok_X8_tides : WFm prog mX8_tides := WFm.of4 kb_X8_tides kd_X8_tides ke_X8_tides kx_X8_tides ku_X8_tides
theorem kb_X8_allTrust : pmB mX8_allTrust = true := by decide +kernel
theorem kd_X8_allTrust : dz_dchk (m_b mX8_allTrust) (m_code mX8_allTrust) (m_b mX8_allTrust).data.toList 0 = true := by decide +kernel
theorem ke_X8_allTrust : pwA3 prog mX8_allTrust (m_code mX8_allTrust) = true := by decide +kernel
theorem kx_X8_allTrust : cEqL (plnks prog mX8_allTrust ++ pmw mX8_allTrust) (([2, 3, 5, 4, 0, 1] : List Nat).filterMap (nthT (pkT lw_tbl 44 [29, 968, 124, 179, 0]))) = true := by decide +kernel
theorem ku_X8_allTrust : (plnks prog mX8_allTrust ++ pmw mX8_allTrust).all uword = true := by decide +kernel
theorem ok_X8_allTrust : WFm prog mX8_allTrust := WFm.of4 kb_X8_allTrust kd_X8_allTrust ke_X8_allTrust kx_X8_allTrust ku_X8_allTrust
theorem kb_X8_book : pmB mX8_book = true := by decide +kernel
theorem kd_X8_book : dz_dchk (m_b mX8_book) (m_code mX8_book) (m_b mX8_book).data.toList 0 = true := by decide +kernel
theorem ke_X8_book : pwA3 prog mX8_book (m_code mX8_book) = true := by decide +kernel
theorem kx_X8_book : cEqL (plnks prog mX8_book ++ pmw mX8_book) (([1, 9, 4, 3, 4, 5, 2, 8, 6, 7, 0] : List Nat).filterMap (nthT (pkT lw_tbl 74 [968, 106, 29, 125, 14, 21, 0, 0, 0]))) = true := by decide +kernel
theorem ku_X8_book : (plnks prog mX8_book ++ pmw mX8_book).all uword = true := by decide +kernel
theorem ok_X8_book : WFm prog mX8_book := WFm.of4 kb_X8_book kd_X8_book ke_X8_book kx_X8_book ku_X8_book
theorem kb_X8_laysBy : pmB mX8_laysBy = true := by decide +kernel
theorem kd_X8_laysBy : dz_dchk (m_b mX8_laysBy) (m_code mX8_laysBy) (m_b mX8_laysBy).data.toList 0 = true := by decide +kernel
theorem ke_X8_laysBy : pwA3 prog mX8_laysBy (m_code mX8_laysBy) = true := by decide +kernel
theorem kx_X8_laysBy : cEqL (plnks prog mX8_laysBy ++ pmw mX8_laysBy) (([3, 2, 5, 4, 0, 1] : List Nat).filterMap (nthT (pkT lw_tbl 45 [28, 968, 12, 299, 0]))) = true := by decide +kernel
theorem ku_X8_laysBy : (plnks prog mX8_laysBy ++ pmw mX8_laysBy).all uword = true := by decide +kernel
theorem ok_X8_laysBy : WFm prog mX8_laysBy := WFm.of4 kb_X8_laysBy kd_X8_laysBy ke_X8_laysBy kx_X8_laysBy ku_X8_laysBy
theorem kb_X8_laysBack : pmB mX8_laysBack = true := by decide +kernel
theorem kd_X8_laysBack : dz_dchk (m_b mX8_laysBack) (m_code mX8_laysBack) (m_b mX8_laysBack).data.toList 0 = true := by decide +kernel
theorem ke_X8_laysBack : pwA3 prog mX8_laysBack (m_code mX8_laysBack) = true := by decide +kernel
theorem kx_X8_laysBack : cEqL (plnks prog mX8_laysBack ++ pmw mX8_laysBack) (([2, 3, 5, 4, 0, 1] : List Nat).filterMap (nthT (pkT lw_tbl 47 [26, 968, 12, 307, 0]))) = true := by decide +kernel
theorem ku_X8_laysBack : (plnks prog mX8_laysBack ++ pmw mX8_laysBack).all uword = true := by decide +kernel
theorem ok_X8_laysBack : WFm prog mX8_laysBack := WFm.of4 kb_X8_laysBack kd_X8_laysBack ke_X8_laysBack kx_X8_laysBack ku_X8_laysBack
theorem kb_X8_behind : pmB mX8_behind = true := by decide +kernel
theorem kd_X8_behind : dz_dchk (m_b mX8_behind) (m_code mX8_behind) (m_b mX8_behind).data.toList 0 = true := by decide +kernel
theorem ke_X8_behind : pwA3 prog mX8_behind (m_code mX8_behind) = true := by decide +kernel
theorem kx_X8_behind : cEqL (plnks prog mX8_behind ++ pmw mX8_behind) (([6, 2, 1, 2, 3, 11, 12, 7, 5, 1, 4, 13, 10, 8, 9, 0] : List Nat).filterMap (nthT (pkT lw_tbl 74 [968, 101, 4, 17, 137, 30, 8, 4, 0, 0, 0, 3, 3]))) = true := by decide +kernel
theorem ku_X8_behind : (plnks prog mX8_behind ++ pmw mX8_behind).all uword = true := by decide +kernel
theorem ok_X8_behind : WFm prog mX8_behind := WFm.of4 kb_X8_behind kd_X8_behind ke_X8_behind kx_X8_behind ku_X8_behind
theorem kb_X8_lasts : pmB mX8_lasts = true := by decide +kernel
theorem kd_X8_lasts : dz_dchk (m_b mX8_lasts) (m_code mX8_lasts) (m_b mX8_lasts).data.toList 0 = true := by decide +kernel
theorem ke_X8_lasts : pwA3 prog mX8_lasts (m_code mX8_lasts) = true := by decide +kernel
theorem kx_X8_lasts : cEqL (plnks prog mX8_lasts ++ pmw mX8_lasts) (([3, 1, 2, 4, 8, 7, 5, 6, 0] : List Nat).filterMap (nthT (pkT lw_tbl 74 [1231, 31, 15, 7, 4, 0, 0, 0]))) = true := by decide +kernel
theorem ku_X8_lasts : (plnks prog mX8_lasts ++ pmw mX8_lasts).all uword = true := by decide +kernel
theorem ok_X8_lasts : WFm prog mX8_lasts := WFm.of4 kb_X8_lasts kd_X8_lasts ke_X8_lasts kx_X8_lasts ku_X8_lasts
theorem kb_X8_best : pmB mX8_best = true := by decide +kernel
theorem kd_X8_best : dz_dchk (m_b mX8_best) (m_code mX8_best) (m_b mX8_best).data.toList 0 = true := by decide +kernel
theorem ke_X8_best : pwA3 prog mX8_best (m_code mX8_best) = true := by decide +kernel
theorem kx_X8_best : cEqL (plnks prog mX8_best ++ pmw mX8_best) (([4, 12, 1, 1, 2, 6, 3, 7, 5, 8, 11, 9, 10, 0] : List Nat).filterMap (nthT (pkT lw_tbl 74 [1070, 4, 5, 7, 3, 185, 3, 3, 12, 0, 0, 0]))) = true := by decide +kernel
theorem ku_X8_best : (plnks prog mX8_best ++ pmw mX8_best).all uword = true := by decide +kernel
theorem ok_X8_best : WFm prog mX8_best := WFm.of4 kb_X8_best kd_X8_best ke_X8_best kx_X8_best ku_X8_best
theorem kb_X8_taught : pmB mX8_taught = true := by decide +kernel
theorem kd_X8_taught : dz_dchk (m_b mX8_taught) (m_code mX8_taught) (m_b mX8_taught).data.toList 0 = true := by decide +kernel
theorem ke_X8_taught : pwA3 prog mX8_taught (m_code mX8_taught) = true := by decide +kernel
theorem kx_X8_taught : cEqL (plnks prog mX8_taught ++ pmw mX8_taught) (([8, 2, 2, 3, 5, 1, 1, 6, 4, 7, 11, 9, 10, 0] : List Nat).filterMap (nthT (pkT lw_tbl 74 [968, 101, 4, 195, 7, 3, 3, 15, 1, 0, 0]))) = true := by decide +kernel
theorem ku_X8_taught : (plnks prog mX8_taught ++ pmw mX8_taught).all uword = true := by decide +kernel
theorem ok_X8_taught : WFm prog mX8_taught := WFm.of4 kb_X8_taught kd_X8_taught ke_X8_taught kx_X8_taught ku_X8_taught
theorem kb_X8_fee : pmB mX8_fee = true := by decide +kernel
theorem kd_X8_fee : dz_dchk (m_b mX8_fee) (m_code mX8_fee) (m_b mX8_fee).data.toList 0 = true := by decide +kernel
theorem ke_X8_fee : pwA3 prog mX8_fee (m_code mX8_fee) = true := by decide +kernel
theorem kx_X8_fee : cEqL (plnks prog mX8_fee ++ pmw mX8_fee) (([3, 1, 2, 1, 2, 1, 4, 7, 5, 6, 0] : List Nat).filterMap (nthT (pkT lw_tbl 74 [968, 25, 115, 7, 190, 0, 0]))) = true := by decide +kernel
theorem ku_X8_fee : (plnks prog mX8_fee ++ pmw mX8_fee).all uword = true := by decide +kernel
theorem ok_X8_fee : WFm prog mX8_fee := WFm.of4 kb_X8_fee kd_X8_fee ke_X8_fee kx_X8_fee ku_X8_fee
theorem kb_X8_fine : pmB mX8_fine = true := by decide +kernel
theorem kd_X8_fine : dz_dchk (m_b mX8_fine) (m_code mX8_fine) (m_b mX8_fine).data.toList 0 = true := by decide +kernel
theorem ke_X8_fine : pwA3 prog mX8_fine (m_code mX8_fine) = true := by decide +kernel
theorem kx_X8_fine : cEqL (plnks prog mX8_fine ++ pmw mX8_fine) (([3, 2, 5, 4, 1, 4, 1, 4, 6, 9, 7, 8, 0] : List Nat).filterMap (nthT (pkT lw_tbl 74 [994, 80, 13, 3, 16, 7, 194, 0, 0]))) = true := by decide +kernel
theorem ku_X8_fine : (plnks prog mX8_fine ++ pmw mX8_fine).all uword = true := by decide +kernel
theorem ok_X8_fine : WFm prog mX8_fine := WFm.of4 kb_X8_fine kd_X8_fine ke_X8_fine kx_X8_fine ku_X8_fine
theorem kb_X8_feed : pmB mX8_feed = true := by decide +kernel
theorem kd_X8_feed : dz_dchk (m_b mX8_feed) (m_code mX8_feed) (m_b mX8_feed).data.toList 0 = true := by decide +kernel
theorem ke_X8_feed : pwA3 prog mX8_feed (m_code mX8_feed) = true := by decide +kernel
theorem kx_X8_feed : cEqL (plnks prog mX8_feed ++ pmw mX8_feed) (([2, 3, 1, 2, 2, 2, 2, 6, 4, 5, 0] : List Nat).filterMap (nthT (pkT lw_tbl 74 [982, 0, 92, 240, 0, 0]))) = true := by decide +kernel
theorem ku_X8_feed : (plnks prog mX8_feed ++ pmw mX8_feed).all uword = true := by decide +kernel
theorem ok_X8_feed : WFm prog mX8_feed := WFm.of4 kb_X8_feed kd_X8_feed ke_X8_feed kx_X8_feed ku_X8_feed
theorem kb_X8_trim : pmB mX8_trim = true := by decide +kernel
theorem kd_X8_trim : dz_dchk (m_b mX8_trim) (m_code mX8_trim) (m_b mX8_trim).data.toList 0 = true := by decide +kernel
theorem ke_X8_trim : pwA3 prog mX8_trim (m_code mX8_trim) = true := by decide +kernel
theorem kx_X8_trim : cEqL (plnks prog mX8_trim ++ pmw mX8_trim) (([1, 2, 3, 1, 6, 4, 5, 0] : List Nat).filterMap (nthT (pkT lw_tbl 74 [983, 86, 4, 245, 0, 0]))) = true := by decide +kernel
theorem ku_X8_trim : (plnks prog mX8_trim ++ pmw mX8_trim).all uword = true := by decide +kernel
theorem ok_X8_trim : WFm prog mX8_trim := WFm.of4 kb_X8_trim kd_X8_trim ke_X8_trim kx_X8_trim ku_X8_trim
theorem kb_X8_isLetter : pmB mX8_isLetter = true := by decide +kernel
theorem kd_X8_isLetter : dz_dchk (m_b mX8_isLetter) (m_code mX8_isLetter) (m_b mX8_isLetter).data.toList 0 = true := by decide +kernel
theorem ke_X8_isLetter : pwA3 prog mX8_isLetter (m_code mX8_isLetter) = true := by decide +kernel
theorem kx_X8_isLetter : cEqL (plnks prog mX8_isLetter ++ pmw mX8_isLetter) (([3, 2, 7, 8, 4, 6, 5, 0, 1] : List Nat).filterMap (nthT (pkT lw_tbl 50 [23, 982, 0, 86, 267, 0, 0, 0]))) = true := by decide +kernel
theorem ku_X8_isLetter : (plnks prog mX8_isLetter ++ pmw mX8_isLetter).all uword = true := by decide +kernel
theorem ok_X8_isLetter : WFm prog mX8_isLetter := WFm.of4 kb_X8_isLetter kd_X8_isLetter ke_X8_isLetter kx_X8_isLetter ku_X8_isLetter
theorem kb_X8_isDigit : pmB mX8_isDigit = true := by decide +kernel
theorem kd_X8_isDigit : dz_dchk (m_b mX8_isDigit) (m_code mX8_isDigit) (m_b mX8_isDigit).data.toList 0 = true := by decide +kernel
theorem ke_X8_isDigit : pwA3 prog mX8_isDigit (m_code mX8_isDigit) = true := by decide +kernel
theorem kx_X8_isDigit : cEqL (plnks prog mX8_isDigit ++ pmw mX8_isDigit) (([3, 2, 7, 8, 4, 6, 5, 0, 1] : List Nat).filterMap (nthT (pkT lw_tbl 51 [22, 982, 0, 86, 273, 0, 0, 0]))) = true := by decide +kernel
theorem ku_X8_isDigit : (plnks prog mX8_isDigit ++ pmw mX8_isDigit).all uword = true := by decide +kernel
theorem ok_X8_isDigit : WFm prog mX8_isDigit := WFm.of4 kb_X8_isDigit kd_X8_isDigit ke_X8_isDigit kx_X8_isDigit ku_X8_isDigit
theorem kb_X8_nextToken : pmB mX8_nextToken = true := by decide +kernel
theorem kd_X8_nextToken : dz_dchk (m_b mX8_nextToken) (m_code mX8_nextToken) (m_b mX8_nextToken).data.toList 0 = true := by decide +kernel
theorem ke_X8_nextToken : pwA3 prog mX8_nextToken (m_code mX8_nextToken) = true := by decide +kernel
theorem kx_X8_nextToken : cEqL (plnks prog mX8_nextToken ++ pmw mX8_nextToken) (([5, 6, 6, 5, 5, 3, 2, 5, 5, 5, 5, 5, 4, 4, 3, 6, 4, 11, 5, 11, 5, 5, 6, 5, 4, 2, 4, 8, 4, 12, 7, 5, 12, 5, 4, 7, 2, 5, 7, 7, 5, 5, 5, 4, 6, 6, 2, 4, 8, 5, 5, 10, 9, 0, 1] : List Nat).filterMap (nthT (pkT lw_tbl 49 [24, 982, 0, 0, 0, 0, 0, 0, 345, 0, 0, 5]))) = true := by decide +kernel
theorem ku_X8_nextToken : (plnks prog mX8_nextToken ++ pmw mX8_nextToken).all uword = true := by decide +kernel
theorem ok_X8_nextToken : WFm prog mX8_nextToken := WFm.of4 kb_X8_nextToken kd_X8_nextToken ke_X8_nextToken kx_X8_nextToken ku_X8_nextToken
