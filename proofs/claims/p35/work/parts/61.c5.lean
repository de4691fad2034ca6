/-! ===== checks of the tables, piece 5 (printed by program) ===== -/
theorem kb_X8_clash : pwB prog mX8_clash = true := by decide +kernel
theorem kx_X8_clash : cEqL (plnks prog mX8_clash ++ pmw mX8_clash) (([2, 2, 1, 6, 5, 3, 4, 0] : List Nat).filterMap (nthT (pkT lw_tbl 74 [1075, 13, 126, 0, 0, 0]))) = true := by decide +kernel
theorem ku_X8_clash : (plnks prog mX8_clash ++ pmw mX8_clash).all uword = true := by decide +kernel
theorem ok_X8_clash : WFm prog mX8_clash := WFm.of3 kb_X8_clash kx_X8_clash ku_X8_clash
theorem kb_X8_laidOnes : pwB prog mX8_laidOnes = true := by decide +kernel
theorem kx_X8_laidOnes : cEqL (plnks prog mX8_laidOnes ++ pmw mX8_laidOnes) (([2, 3, 5, 4, 0, 1] : List Nat).filterMap (nthT (pkT lw_tbl 39 [34, 968, 124, 139, 0]))) = true := by decide +kernel
theorem ku_X8_laidOnes : (plnks prog mX8_laidOnes ++ pmw mX8_laidOnes).all uword = true := by decide +kernel
theorem ok_X8_laidOnes : WFm prog mX8_laidOnes := WFm.of3 kb_X8_laidOnes kx_X8_laidOnes ku_X8_laidOnes
theorem kb_X8_coveredBy : pwB prog mX8_coveredBy = true := by decide +kernel
theorem kx_X8_coveredBy : cEqL (plnks prog mX8_coveredBy ++ pmw mX8_coveredBy) (([2, 3, 5, 4, 0, 1] : List Nat).filterMap (nthT (pkT lw_tbl 41 [32, 968, 128, 150, 0]))) = true := by decide +kernel
theorem ku_X8_coveredBy : (plnks prog mX8_coveredBy ++ pmw mX8_coveredBy).all uword = true := by decide +kernel
theorem ok_X8_coveredBy : WFm prog mX8_coveredBy := WFm.of3 kb_X8_coveredBy kx_X8_coveredBy ku_X8_coveredBy
theorem kb_X8_findClashing : pwB prog mX8_findClashing = true := by decide +kernel
theorem kx_X8_findClashing : cEqL (plnks prog mX8_findClashing ++ pmw mX8_findClashing) (([2, 3, 2, 3, 4, 6, 5, 0, 1] : List Nat).filterMap (nthT (pkT lw_tbl 38 [35, 968, 11, 238, 9, 0]))) = true := by decide +kernel
theorem ku_X8_findClashing : (plnks prog mX8_findClashing ++ pmw mX8_findClashing).all uword = true := by decide +kernel
theorem ok_X8_findClashing : WFm prog mX8_findClashing := WFm.of3 kb_X8_findClashing kx_X8_findClashing ku_X8_findClashing
theorem kb_X8_areAtPeace : pwB prog mX8_areAtPeace = true := by decide +kernel
theorem kx_X8_areAtPeace : cEqL (plnks prog mX8_areAtPeace ++ pmw mX8_areAtPeace) (([2, 3, 5, 4, 0, 1] : List Nat).filterMap (nthT (pkT lw_tbl 40 [33, 968, 11, 259, 0]))) = true := by decide +kernel
theorem ku_X8_areAtPeace : (plnks prog mX8_areAtPeace ++ pmw mX8_areAtPeace).all uword = true := by decide +kernel
theorem ok_X8_areAtPeace : WFm prog mX8_areAtPeace := WFm.of3 kb_X8_areAtPeace kx_X8_areAtPeace ku_X8_areAtPeace
theorem kb_X8_undone : pwB prog mX8_undone = true := by decide +kernel
theorem kx_X8_undone : cEqL (plnks prog mX8_undone ++ pmw mX8_undone) (([4, 5, 6, 6, 7, 3, 1, 2, 0] : List Nat).filterMap (nthT (pkT lw_tbl 74 [1224, 0, 0, 0, 3, 3, 2]))) = true := by decide +kernel
theorem ku_X8_undone : (plnks prog mX8_undone ++ pmw mX8_undone).all uword = true := by decide +kernel
theorem ok_X8_undone : WFm prog mX8_undone := WFm.of3 kb_X8_undone kx_X8_undone ku_X8_undone
theorem kb_X8_borne : pwB prog mX8_borne = true := by decide +kernel
theorem kx_X8_borne : cEqL (plnks prog mX8_borne ++ pmw mX8_borne) (([1, 6, 2, 2, 6, 5, 3, 4, 0] : List Nat).filterMap (nthT (pkT lw_tbl 74 [1231, 3, 7, 0, 0, 0]))) = true := by decide +kernel
theorem ku_X8_borne : (plnks prog mX8_borne ++ pmw mX8_borne).all uword = true := by decide +kernel
theorem ok_X8_borne : WFm prog mX8_borne := WFm.of3 kb_X8_borne kx_X8_borne ku_X8_borne
theorem kb_X8_otherwiseAt : pwB prog mX8_otherwiseAt = true := by decide +kernel
theorem kx_X8_otherwiseAt : cEqL (plnks prog mX8_otherwiseAt ++ pmw mX8_otherwiseAt) (([2, 4, 3, 5, 2, 7, 6, 0, 1] : List Nat).filterMap (nthT (pkT lw_tbl 42 [31, 968, 124, 3, 42, 115, 0]))) = true := by decide +kernel
theorem ku_X8_otherwiseAt : (plnks prog mX8_otherwiseAt ++ pmw mX8_otherwiseAt).all uword = true := by decide +kernel
theorem ok_X8_otherwiseAt : WFm prog mX8_otherwiseAt := WFm.of3 kb_X8_otherwiseAt kx_X8_otherwiseAt ku_X8_otherwiseAt
theorem kb_X8_look : pwB prog mX8_look = true := by decide +kernel
theorem kx_X8_look : cEqL (plnks prog mX8_look ++ pmw mX8_look) (([1, 2, 6, 6, 6, 5, 3, 4, 0] : List Nat).filterMap (nthT (pkT lw_tbl 74 [1070, 4, 175, 0, 0, 0]))) = true := by decide +kernel
theorem ku_X8_look : (plnks prog mX8_look ++ pmw mX8_look).all uword = true := by decide +kernel
theorem ok_X8_look : WFm prog mX8_look := WFm.of3 kb_X8_look kx_X8_look ku_X8_look
theorem kb_X8_goesOn : pwB prog mX8_goesOn = true := by decide +kernel
theorem kx_X8_goesOn : cEqL (plnks prog mX8_goesOn ++ pmw mX8_goesOn) (([10, 2, 5, 4, 9, 2, 4, 6, 8, 7, 3, 3, 2, 2, 12, 11, 0, 1] : List Nat).filterMap (nthT (pkT lw_tbl 43 [30, 968, 112, 11, 3, 8, 18, 2, 11, 44, 79, 0]))) = true := by decide +kernel
theorem ku_X8_goesOn : (plnks prog mX8_goesOn ++ pmw mX8_goesOn).all uword = true := by decide +kernel
theorem ok_X8_goesOn : WFm prog mX8_goesOn := WFm.of3 kb_X8_goesOn kx_X8_goesOn ku_X8_goesOn
theorem kb_X8_goesOnMany : pwB prog mX8_goesOnMany = true := by decide +kernel
theorem kx_X8_goesOnMany : cEqL (plnks prog mX8_goesOnMany ++ pmw mX8_goesOnMany) (([2, 4, 3, 0, 1] : List Nat).filterMap (nthT (pkT lw_tbl 46 [27, 1263, 21, 0]))) = true := by decide +kernel
theorem ku_X8_goesOnMany : (plnks prog mX8_goesOnMany ++ pmw mX8_goesOnMany).all uword = true := by decide +kernel
theorem ok_X8_goesOnMany : WFm prog mX8_goesOnMany := WFm.of3 kb_X8_goesOnMany kx_X8_goesOnMany ku_X8_goesOnMany
theorem kb_X8_tides : pwB prog mX8_tides = true := by decide +kernel
theorem kx_X8_tides : cEqL (plnks prog mX8_tides ++ pmw mX8_tides) (([7, 2, 3, 1, 1, 8, 1, 6, 4, 5, 0] : List Nat).filterMap (nthT (pkT lw_tbl 74 [968, 101, 4, 183, 0, 0, 0, 0]))) = true := by decide +kernel
theorem ku_X8_tides : (plnks prog mX8_tides ++ pmw mX8_tides).all uword = true := by decide +kernel
theorem ok_X8_tides : WFm prog mX8_tides := WFm.of3 kb_X8_tides kx_X8_tides ku_X8_tides
theorem kb_X8_allTrust : pwB prog mX8_allTrust = true := by decide +kernel
theorem kx_X8_allTrust : cEqL (plnks prog mX8_allTrust ++ pmw mX8_allTrust) (([2, 3, 5, 4, 0, 1] : List Nat).filterMap (nthT (pkT lw_tbl 44 [29, 968, 124, 179, 0]))) = true := by decide +kernel
theorem ku_X8_allTrust : (plnks prog mX8_allTrust ++ pmw mX8_allTrust).all uword = true := by decide +kernel
theorem ok_X8_allTrust : WFm prog mX8_allTrust := WFm.of3 kb_X8_allTrust kx_X8_allTrust ku_X8_allTrust
theorem kb_X8_book : pwB prog mX8_book = true := by decide +kernel
theorem kx_X8_book : cEqL (plnks prog mX8_book ++ pmw mX8_book) (([1, 9, 4, 3, 4, 5, 2, 8, 6, 7, 0] : List Nat).filterMap (nthT (pkT lw_tbl 74 [968, 106, 29, 125, 14, 21, 0, 0, 0]))) = true := by decide +kernel
theorem ku_X8_book : (plnks prog mX8_book ++ pmw mX8_book).all uword = true := by decide +kernel
theorem ok_X8_book : WFm prog mX8_book := WFm.of3 kb_X8_book kx_X8_book ku_X8_book
theorem kb_X8_laysBy : pwB prog mX8_laysBy = true := by decide +kernel
theorem kx_X8_laysBy : cEqL (plnks prog mX8_laysBy ++ pmw mX8_laysBy) (([3, 2, 5, 4, 0, 1] : List Nat).filterMap (nthT (pkT lw_tbl 45 [28, 968, 12, 299, 0]))) = true := by decide +kernel
theorem ku_X8_laysBy : (plnks prog mX8_laysBy ++ pmw mX8_laysBy).all uword = true := by decide +kernel
theorem ok_X8_laysBy : WFm prog mX8_laysBy := WFm.of3 kb_X8_laysBy kx_X8_laysBy ku_X8_laysBy
theorem kb_X8_laysBack : pwB prog mX8_laysBack = true := by decide +kernel
theorem kx_X8_laysBack : cEqL (plnks prog mX8_laysBack ++ pmw mX8_laysBack) (([2, 3, 5, 4, 0, 1] : List Nat).filterMap (nthT (pkT lw_tbl 47 [26, 968, 12, 307, 0]))) = true := by decide +kernel
theorem ku_X8_laysBack : (plnks prog mX8_laysBack ++ pmw mX8_laysBack).all uword = true := by decide +kernel
theorem ok_X8_laysBack : WFm prog mX8_laysBack := WFm.of3 kb_X8_laysBack kx_X8_laysBack ku_X8_laysBack
theorem kb_X8_behind : pwB prog mX8_behind = true := by decide +kernel
theorem kx_X8_behind : cEqL (plnks prog mX8_behind ++ pmw mX8_behind) (([6, 2, 1, 2, 3, 11, 12, 7, 5, 1, 4, 13, 10, 8, 9, 0] : List Nat).filterMap (nthT (pkT lw_tbl 74 [968, 101, 4, 17, 137, 30, 8, 4, 0, 0, 0, 3, 3]))) = true := by decide +kernel
theorem ku_X8_behind : (plnks prog mX8_behind ++ pmw mX8_behind).all uword = true := by decide +kernel
theorem ok_X8_behind : WFm prog mX8_behind := WFm.of3 kb_X8_behind kx_X8_behind ku_X8_behind
theorem kb_X8_lasts : pwB prog mX8_lasts = true := by decide +kernel
theorem kx_X8_lasts : cEqL (plnks prog mX8_lasts ++ pmw mX8_lasts) (([3, 1, 2, 4, 8, 7, 5, 6, 0] : List Nat).filterMap (nthT (pkT lw_tbl 74 [1231, 31, 15, 7, 4, 0, 0, 0]))) = true := by decide +kernel
theorem ku_X8_lasts : (plnks prog mX8_lasts ++ pmw mX8_lasts).all uword = true := by decide +kernel
theorem ok_X8_lasts : WFm prog mX8_lasts := WFm.of3 kb_X8_lasts kx_X8_lasts ku_X8_lasts
theorem kb_X8_best : pwB prog mX8_best = true := by decide +kernel
theorem kx_X8_best : cEqL (plnks prog mX8_best ++ pmw mX8_best) (([4, 12, 1, 1, 2, 6, 3, 7, 5, 8, 11, 9, 10, 0] : List Nat).filterMap (nthT (pkT lw_tbl 74 [1070, 4, 5, 7, 3, 185, 3, 3, 12, 0, 0, 0]))) = true := by decide +kernel
theorem ku_X8_best : (plnks prog mX8_best ++ pmw mX8_best).all uword = true := by decide +kernel
theorem ok_X8_best : WFm prog mX8_best := WFm.of3 kb_X8_best kx_X8_best ku_X8_best
theorem kb_X8_taught : pwB prog mX8_taught = true := by decide +kernel
theorem kx_X8_taught : cEqL (plnks prog mX8_taught ++ pmw mX8_taught) (([8, 2, 2, 3, 5, 1, 1, 6, 4, 7, 11, 9, 10, 0] : List Nat).filterMap (nthT (pkT lw_tbl 74 [968, 101, 4, 195, 7, 3, 3, 15, 1, 0, 0]))) = true := by decide +kernel
theorem ku_X8_taught : (plnks prog mX8_taught ++ pmw mX8_taught).all uword = true := by decide +kernel
theorem ok_X8_taught : WFm prog mX8_taught := WFm.of3 kb_X8_taught kx_X8_taught ku_X8_taught
theorem kb_X8_fee : pwB prog mX8_fee = true := by decide +kernel
theorem kx_X8_fee : cEqL (plnks prog mX8_fee ++ pmw mX8_fee) (([3, 1, 2, 1, 2, 1, 4, 7, 5, 6, 0] : List Nat).filterMap (nthT (pkT lw_tbl 74 [968, 25, 115, 7, 190, 0, 0]))) = true := by decide +kernel
theorem ku_X8_fee : (plnks prog mX8_fee ++ pmw mX8_fee).all uword = true := by decide +kernel
theorem ok_X8_fee : WFm prog mX8_fee := WFm.of3 kb_X8_fee kx_X8_fee ku_X8_fee
theorem kb_X8_fine : pwB prog mX8_fine = true := by decide +kernel
theorem kx_X8_fine : cEqL (plnks prog mX8_fine ++ pmw mX8_fine) (([3, 2, 5, 4, 1, 4, 1, 4, 6, 9, 7, 8, 0] : List Nat).filterMap (nthT (pkT lw_tbl 74 [994, 80, 13, 3, 16, 7, 194, 0, 0]))) = true := by decide +kernel
theorem ku_X8_fine : (plnks prog mX8_fine ++ pmw mX8_fine).all uword = true := by decide +kernel
theorem ok_X8_fine : WFm prog mX8_fine := WFm.of3 kb_X8_fine kx_X8_fine ku_X8_fine
theorem kb_X8_feed : pwB prog mX8_feed = true := by decide +kernel
theorem kx_X8_feed : cEqL (plnks prog mX8_feed ++ pmw mX8_feed) (([2, 3, 1, 2, 2, 2, 2, 6, 4, 5, 0] : List Nat).filterMap (nthT (pkT lw_tbl 74 [982, 0, 92, 240, 0, 0]))) = true := by decide +kernel
theorem ku_X8_feed : (plnks prog mX8_feed ++ pmw mX8_feed).all uword = true := by decide +kernel
theorem ok_X8_feed : WFm prog mX8_feed := WFm.of3 kb_X8_feed kx_X8_feed ku_X8_feed
theorem kb_X8_trim : pwB prog mX8_trim = true := by decide +kernel
theorem kx_X8_trim : cEqL (plnks prog mX8_trim ++ pmw mX8_trim) (([1, 2, 3, 1, 6, 4, 5, 0] : List Nat).filterMap (nthT (pkT lw_tbl 74 [983, 86, 4, 245, 0, 0]))) = true := by decide +kernel
theorem ku_X8_trim : (plnks prog mX8_trim ++ pmw mX8_trim).all uword = true := by decide +kernel
theorem ok_X8_trim : WFm prog mX8_trim := WFm.of3 kb_X8_trim kx_X8_trim ku_X8_trim
theorem kb_X8_isLetter : pwB prog mX8_isLetter = true := by decide +kernel
theorem kx_X8_isLetter : cEqL (plnks prog mX8_isLetter ++ pmw mX8_isLetter) (([3, 2, 7, 8, 4, 6, 5, 0, 1] : List Nat).filterMap (nthT (pkT lw_tbl 50 [23, 982, 0, 86, 267, 0, 0, 0]))) = true := by decide +kernel
theorem ku_X8_isLetter : (plnks prog mX8_isLetter ++ pmw mX8_isLetter).all uword = true := by decide +kernel
theorem ok_X8_isLetter : WFm prog mX8_isLetter := WFm.of3 kb_X8_isLetter kx_X8_isLetter ku_X8_isLetter
theorem kb_X8_isDigit : pwB prog mX8_isDigit = true := by decide +kernel
theorem kx_X8_isDigit : cEqL (plnks prog mX8_isDigit ++ pmw mX8_isDigit) (([3, 2, 7, 8, 4, 6, 5, 0, 1] : List Nat).filterMap (nthT (pkT lw_tbl 51 [22, 982, 0, 86, 273, 0, 0, 0]))) = true := by decide +kernel
theorem ku_X8_isDigit : (plnks prog mX8_isDigit ++ pmw mX8_isDigit).all uword = true := by decide +kernel
theorem ok_X8_isDigit : WFm prog mX8_isDigit := WFm.of3 kb_X8_isDigit kx_X8_isDigit ku_X8_isDigit
theorem kb_X8_nextToken : pwB prog mX8_nextToken = true := by decide +kernel
theorem kx_X8_nextToken : cEqL (plnks prog mX8_nextToken ++ pmw mX8_nextToken) (([5, 6, 6, 5, 5, 3, 2, 5, 5, 5, 5, 5, 4, 4, 3, 6, 4, 11, 5, 11, 5, 5, 6, 5, 4, 2, 4, 8, 4, 12, 7, 5, 12, 5, 4, 7, 2, 5, 7, 7, 5, 5, 5, 4, 6, 6, 2, 4, 8, 5, 5, 10, 9, 0, 1] : List Nat).filterMap (nthT (pkT lw_tbl 49 [24, 982, 0, 0, 0, 0, 0, 0, 345, 0, 0, 5]))) = true := by decide +kernel
theorem ku_X8_nextToken : (plnks prog mX8_nextToken ++ pmw mX8_nextToken).all uword = true := by decide +kernel
theorem ok_X8_nextToken : WFm prog mX8_nextToken := WFm.of3 kb_X8_nextToken kx_X8_nextToken ku_X8_nextToken
