/-! ===== checks of the tables, piece 0 (printed by program) ===== -/
theorem kb_X0_init : pmB mX0_init = true := by decide +kernel
theorem kd_X0_init : dz_dchk (m_b mX0_init) (m_code mX0_init) (m_b mX0_init).data.toList 0 = true := by decide +kernel
theorem ke_X0_init : pwA3 prog mX0_init (m_code mX0_init) = true := by decide +kernel
theorem kx_X0_init : cEqL (plnks prog mX0_init ++ pmw mX0_init) (([5, 1, 2, 7, 6, 4, 3, 0] : List Nat).filterMap (nthT (pkT lw_tbl 67 [21, 0, 10, 0, 0, 0, 18]))) = true := by decide +kernel
theorem ku_X0_init : (plnks prog mX0_init ++ pmw mX0_init).all uword = true := by decide +kernel
theorem ok_X0_init : WFm prog mX0_init := WFm.of4 kb_X0_init kd_X0_init ke_X0_init kx_X0_init ku_X0_init
theorem kb_X0_begin : pmB mX0_begin = true := by decide +kernel
theorem kd_X0_begin : dz_dchk (m_b mX0_begin) (m_code mX0_begin) (m_b mX0_begin).data.toList 0 = true := by decide +kernel
theorem ke_X0_begin : pwA3 prog mX0_begin (m_code mX0_begin) = true := by decide +kernel
theorem kx_X0_begin : cEqL (plnks prog mX0_begin ++ pmw mX0_begin) (([2, 1, 3, 6, 4, 5, 0] : List Nat).filterMap (nthT (pkT lw_tbl 67 [37, 1, 3, 708, 0, 0]))) = true := by decide +kernel
theorem ku_X0_begin : (plnks prog mX0_begin ++ pmw mX0_begin).all uword = true := by decide +kernel
theorem ok_X0_begin : WFm prog mX0_begin := WFm.of4 kb_X0_begin kd_X0_begin ke_X0_begin kx_X0_begin ku_X0_begin
theorem kb_X0_add : pmB mX0_add = true := by decide +kernel
theorem kd_X0_add : dz_dchk (m_b mX0_add) (m_code mX0_add) (m_b mX0_add).data.toList 0 = true := by decide +kernel
theorem ke_X0_add : pwA3 prog mX0_add (m_code mX0_add) = true := by decide +kernel
theorem kx_X0_add : cEqL (plnks prog mX0_add ++ pmw mX0_add) (([2, 2, 1, 1, 2, 2, 2, 5, 3, 4, 0] : List Nat).filterMap (nthT (pkT lw_tbl 67 [36, 0, 745, 0, 0]))) = true := by decide +kernel
theorem ku_X0_add : (plnks prog mX0_add ++ pmw mX0_add).all uword = true := by decide +kernel
theorem ok_X0_add : WFm prog mX0_add := WFm.of4 kb_X0_add kd_X0_add ke_X0_add kx_X0_add ku_X0_add
theorem kb_X0_at : pmB mX0_at = true := by decide +kernel
theorem kd_X0_at : dz_dchk (m_b mX0_at) (m_code mX0_at) (m_b mX0_at).data.toList 0 = true := by decide +kernel
theorem ke_X0_at : pwA3 prog mX0_at (m_code mX0_at) = true := by decide +kernel
theorem kx_X0_at : cEqL (plnks prog mX0_at ++ pmw mX0_at) (([1, 1, 4, 2, 3, 0] : List Nat).filterMap (nthT (pkT lw_tbl 67 [36, 310, 0, 0]))) = true := by decide +kernel
theorem ku_X0_at : (plnks prog mX0_at ++ pmw mX0_at).all uword = true := by decide +kernel
theorem ok_X0_at : WFm prog mX0_at := WFm.of4 kb_X0_at kd_X0_at ke_X0_at kx_X0_at ku_X0_at
theorem kb_X0_takeFrom : pmB mX0_takeFrom = true := by decide +kernel
theorem kd_X0_takeFrom : dz_dchk (m_b mX0_takeFrom) (m_code mX0_takeFrom) (m_b mX0_takeFrom).data.toList 0 = true := by decide +kernel
theorem ke_X0_takeFrom : pwA3 prog mX0_takeFrom (m_code mX0_takeFrom) = true := by decide +kernel
theorem kx_X0_takeFrom : cEqL (plnks prog mX0_takeFrom ++ pmw mX0_takeFrom) (([2, 2, 11, 7, 6, 1, 3, 3, 4, 4, 5, 5, 10, 8, 9, 0] : List Nat).filterMap (nthT (pkT lw_tbl 67 [9, 26, 0, 1, 3, 551, 0, 270, 0, 0, 0]))) = true := by decide +kernel
theorem ku_X0_takeFrom : (plnks prog mX0_takeFrom ++ pmw mX0_takeFrom).all uword = true := by decide +kernel
theorem ok_X0_takeFrom : WFm prog mX0_takeFrom := WFm.of4 kb_X0_takeFrom kd_X0_takeFrom ke_X0_takeFrom kx_X0_takeFrom ku_X0_takeFrom
theorem kb_X1_init : pmB mX1_init = true := by decide +kernel
theorem kd_X1_init : dz_dchk (m_b mX1_init) (m_code mX1_init) (m_b mX1_init).data.toList 0 = true := by decide +kernel
theorem ke_X1_init : pwA3 prog mX1_init (m_code mX1_init) = true := by decide +kernel
theorem kx_X1_init : cEqL (plnks prog mX1_init ++ pmw mX1_init) (([6, 2, 3, 7, 8, 12, 7, 9, 1, 10, 13, 11, 14, 12, 12, 7, 9, 1, 10, 5, 4, 0] : List Nat).filterMap (nthT (pkT lw_tbl 66 [0, 21, 0, 3, 0, 0, 0, 0, 0, 0, 22, 0, 0, 2]))) = true := by decide +kernel
theorem ku_X1_init : (plnks prog mX1_init ++ pmw mX1_init).all uword = true := by decide +kernel
theorem ok_X1_init : WFm prog mX1_init := WFm.of4 kb_X1_init kd_X1_init ke_X1_init kx_X1_init ku_X1_init
theorem kb_X1_one : pmB mX1_one = true := by decide +kernel
theorem kd_X1_one : dz_dchk (m_b mX1_one) (m_code mX1_one) (m_b mX1_one).data.toList 0 = true := by decide +kernel
theorem ke_X1_one : pwA3 prog mX1_one (m_code mX1_one) = true := by decide +kernel
theorem kx_X1_one : cEqL (plnks prog mX1_one ++ pmw mX1_one) (([1, 1, 4, 2, 3, 0] : List Nat).filterMap (nthT (pkT lw_tbl 66 [57, 282, 0, 0]))) = true := by decide +kernel
theorem ku_X1_one : (plnks prog mX1_one ++ pmw mX1_one).all uword = true := by decide +kernel
theorem ok_X1_one : WFm prog mX1_one := WFm.of4 kb_X1_one kd_X1_one ke_X1_one kx_X1_one ku_X1_one
theorem kb_X1_worked : pmB mX1_worked = true := by decide +kernel
theorem kd_X1_worked : dz_dchk (m_b mX1_worked) (m_code mX1_worked) (m_b mX1_worked).data.toList 0 = true := by decide +kernel
theorem ke_X1_worked : pwA3 prog mX1_worked (m_code mX1_worked) = true := by decide +kernel
theorem kx_X1_worked : cEqL (plnks prog mX1_worked ++ pmw mX1_worked) (([2, 1, 6, 7, 8, 9, 7, 10, 7, 10, 10, 11, 7, 10, 5, 3, 4, 0] : List Nat).filterMap (nthT (pkT lw_tbl 66 [39, 22, 281, 0, 0, 0, 3, 3, 2, 2, 3]))) = true := by decide +kernel
theorem ku_X1_worked : (plnks prog mX1_worked ++ pmw mX1_worked).all uword = true := by decide +kernel
theorem ok_X1_worked : WFm prog mX1_worked := WFm.of4 kb_X1_worked kd_X1_worked ke_X1_worked kx_X1_worked ku_X1_worked
theorem kb_X1_push : pmB mX1_push = true := by decide +kernel
theorem kd_X1_push : dz_dchk (m_b mX1_push) (m_code mX1_push) (m_b mX1_push).data.toList 0 = true := by decide +kernel
theorem ke_X1_push : pwA3 prog mX1_push (m_code mX1_push) = true := by decide +kernel
theorem kx_X1_push : cEqL (plnks prog mX1_push ++ pmw mX1_push) (([3, 3, 2, 2, 3, 3, 3, 5, 4, 0, 1] : List Nat).filterMap (nthT (pkT lw_tbl 0 [65, 61, 0, 290, 0]))) = true := by decide +kernel
theorem ku_X1_push : (plnks prog mX1_push ++ pmw mX1_push).all uword = true := by decide +kernel
theorem ok_X1_push : WFm prog mX1_push := WFm.of4 kb_X1_push kd_X1_push ke_X1_push kx_X1_push ku_X1_push
theorem kb_X1_pop : pmB mX1_pop = true := by decide +kernel
theorem kd_X1_pop : dz_dchk (m_b mX1_pop) (m_code mX1_pop) (m_b mX1_pop).data.toList 0 = true := by decide +kernel
theorem ke_X1_pop : pwA3 prog mX1_pop (m_code mX1_pop) = true := by decide +kernel
theorem kx_X1_pop : cEqL (plnks prog mX1_pop ++ pmw mX1_pop) (([3, 3, 2, 3, 3, 2, 3, 5, 4, 0, 1] : List Nat).filterMap (nthT (pkT lw_tbl 1 [64, 61, 0, 300, 0]))) = true := by decide +kernel
theorem ku_X1_pop : (plnks prog mX1_pop ++ pmw mX1_pop).all uword = true := by decide +kernel
theorem ok_X1_pop : WFm prog mX1_pop := WFm.of4 kb_X1_pop kd_X1_pop ke_X1_pop kx_X1_pop ku_X1_pop
theorem kb_X1_named : pmB mX1_named = true := by decide +kernel
theorem kd_X1_named : dz_dchk (m_b mX1_named) (m_code mX1_named) (m_b mX1_named).data.toList 0 = true := by decide +kernel
theorem ke_X1_named : pwA3 prog mX1_named (m_code mX1_named) = true := by decide +kernel
theorem kx_X1_named : cEqL (plnks prog mX1_named ++ pmw mX1_named) (([4, 5, 3, 1, 2, 7, 6, 0] : List Nat).filterMap (nthT (pkT lw_tbl 66 [94, 3, 3, 24, 2, 228, 0]))) = true := by decide +kernel
theorem ku_X1_named : (plnks prog mX1_named ++ pmw mX1_named).all uword = true := by decide +kernel
theorem ok_X1_named : WFm prog mX1_named := WFm.of4 kb_X1_named kd_X1_named ke_X1_named kx_X1_named ku_X1_named
theorem kb_X1_joined : pmB mX1_joined = true := by decide +kernel
theorem kd_X1_joined : dz_dchk (m_b mX1_joined) (m_code mX1_joined) (m_b mX1_joined).data.toList 0 = true := by decide +kernel
theorem ke_X1_joined : pwA3 prog mX1_joined (m_code mX1_joined) = true := by decide +kernel
theorem kx_X1_joined : cEqL (plnks prog mX1_joined ++ pmw mX1_joined) (([2, 1, 0] : List Nat).filterMap (nthT (pkT lw_tbl 66 [366, 0]))) = true := by decide +kernel
theorem ku_X1_joined : (plnks prog mX1_joined ++ pmw mX1_joined).all uword = true := by decide +kernel
theorem ok_X1_joined : WFm prog mX1_joined := WFm.of4 kb_X1_joined kd_X1_joined ke_X1_joined kx_X1_joined ku_X1_joined
theorem kb_X2_init : pmB mX2_init = true := by decide +kernel
theorem kd_X2_init : dz_dchk (m_b mX2_init) (m_code mX2_init) (m_b mX2_init).data.toList 0 = true := by decide +kernel
theorem ke_X2_init : pwA3 prog mX2_init (m_code mX2_init) = true := by decide +kernel
theorem kx_X2_init : cEqL (plnks prog mX2_init ++ pmw mX2_init) (([6, 1, 2, 3, 7, 3, 8, 5, 4, 0] : List Nat).filterMap (nthT (pkT lw_tbl 71 [17, 0, 32, 101, 0, 0, 0, 6]))) = true := by decide +kernel
theorem ku_X2_init : (plnks prog mX2_init ++ pmw mX2_init).all uword = true := by decide +kernel
theorem ok_X2_init : WFm prog mX2_init := WFm.of4 kb_X2_init kd_X2_init ke_X2_init kx_X2_init ku_X2_init
theorem kb_X2_hasRoom : pmB mX2_hasRoom = true := by decide +kernel
theorem kd_X2_hasRoom : dz_dchk (m_b mX2_hasRoom) (m_code mX2_hasRoom) (m_b mX2_hasRoom).data.toList 0 = true := by decide +kernel
theorem ke_X2_hasRoom : pwA3 prog mX2_hasRoom (m_code mX2_hasRoom) = true := by decide +kernel
theorem kx_X2_hasRoom : cEqL (plnks prog mX2_hasRoom ++ pmw mX2_hasRoom) (([1, 4, 2, 3, 0] : List Nat).filterMap (nthT (pkT lw_tbl 71 [157, 499, 0, 0]))) = true := by decide +kernel
theorem ku_X2_hasRoom : (plnks prog mX2_hasRoom ++ pmw mX2_hasRoom).all uword = true := by decide +kernel
theorem ok_X2_hasRoom : WFm prog mX2_hasRoom := WFm.of4 kb_X2_hasRoom kd_X2_hasRoom ke_X2_hasRoom kx_X2_hasRoom ku_X2_hasRoom
theorem kb_X2_takeNumber : pmB mX2_takeNumber = true := by decide +kernel
theorem kd_X2_takeNumber : dz_dchk (m_b mX2_takeNumber) (m_code mX2_takeNumber) (m_b mX2_takeNumber).data.toList 0 = true := by decide +kernel
theorem ke_X2_takeNumber : pwA3 prog mX2_takeNumber (m_code mX2_takeNumber) = true := by decide +kernel
theorem kx_X2_takeNumber : cEqL (plnks prog mX2_takeNumber ++ pmw mX2_takeNumber) (([2, 2, 1, 1, 2, 2, 2, 5, 3, 4, 0] : List Nat).filterMap (nthT (pkT lw_tbl 71 [156, 0, 503, 0, 0]))) = true := by decide +kernel
theorem ku_X2_takeNumber : (plnks prog mX2_takeNumber ++ pmw mX2_takeNumber).all uword = true := by decide +kernel
theorem ok_X2_takeNumber : WFm prog mX2_takeNumber := WFm.of4 kb_X2_takeNumber kd_X2_takeNumber ke_X2_takeNumber kx_X2_takeNumber ku_X2_takeNumber
theorem kb_X2_readInto : pmB mX2_readInto = true := by decide +kernel
theorem kd_X2_readInto : dz_dchk (m_b mX2_readInto) (m_code mX2_readInto) (m_b mX2_readInto).data.toList 0 = true := by decide +kernel
theorem ke_X2_readInto : pwA3 prog mX2_readInto (m_code mX2_readInto) = true := by decide +kernel
theorem kx_X2_readInto : cEqL (plnks prog mX2_readInto ++ pmw mX2_readInto) (([3, 1, 11, 12, 2, 13, 4, 5, 6, 7, 11, 1, 14, 2, 11, 7, 5, 2, 15, 10, 8, 9, 0] : List Nat).filterMap (nthT (pkT lw_tbl 71 [159, 0, 0, 2, 0, 0, 0, 505, 0, 0, 0, 11, 58, 3, 15]))) = true := by decide +kernel
theorem ku_X2_readInto : (plnks prog mX2_readInto ++ pmw mX2_readInto).all uword = true := by decide +kernel
theorem ok_X2_readInto : WFm prog mX2_readInto := WFm.of4 kb_X2_readInto kd_X2_readInto ke_X2_readInto kx_X2_readInto ku_X2_readInto
theorem kb_X2_nextWord : pmB mX2_nextWord = true := by decide +kernel
theorem kd_X2_nextWord : dz_dchk (m_b mX2_nextWord) (m_code mX2_nextWord) (m_b mX2_nextWord).data.toList 0 = true := by decide +kernel
theorem ke_X2_nextWord : pwA3 prog mX2_nextWord (m_code mX2_nextWord) = true := by decide +kernel
theorem kx_X2_nextWord : cEqL (plnks prog mX2_nextWord ++ pmw mX2_nextWord) (([3, 3, 5, 5, 2, 5, 9, 5, 5, 5, 4, 4, 9, 10, 3, 4, 6, 3, 5, 5, 3, 5, 2, 5, 9, 10, 3, 5, 5, 8, 7, 0, 1] : List Nat).filterMap (nthT (pkT lw_tbl 5 [65, 157, 1, 0, 0, 0, 515, 0, 0, 3]))) = true := by decide +kernel
theorem ku_X2_nextWord : (plnks prog mX2_nextWord ++ pmw mX2_nextWord).all uword = true := by decide +kernel
theorem ok_X2_nextWord : WFm prog mX2_nextWord := WFm.of4 kb_X2_nextWord kd_X2_nextWord ke_X2_nextWord kx_X2_nextWord ku_X2_nextWord
theorem kb_X2_byteAt : pmB mX2_byteAt = true := by decide +kernel
theorem kd_X2_byteAt : dz_dchk (m_b mX2_byteAt) (m_code mX2_byteAt) (m_b mX2_byteAt).data.toList 0 = true := by decide +kernel
theorem ke_X2_byteAt : pwA3 prog mX2_byteAt (m_code mX2_byteAt) = true := by decide +kernel
theorem kx_X2_byteAt : cEqL (plnks prog mX2_byteAt ++ pmw mX2_byteAt) (([3, 2, 2, 5, 4, 0, 1] : List Nat).filterMap (nthT (pkT lw_tbl 6 [64, 156, 0, 524, 0]))) = true := by decide +kernel
theorem ku_X2_byteAt : (plnks prog mX2_byteAt ++ pmw mX2_byteAt).all uword = true := by decide +kernel
theorem ok_X2_byteAt : WFm prog mX2_byteAt := WFm.of4 kb_X2_byteAt kd_X2_byteAt ke_X2_byteAt kx_X2_byteAt ku_X2_byteAt
theorem kb_X2_sortOf : pmB mX2_sortOf = true := by decide +kernel
theorem kd_X2_sortOf : dz_dchk (m_b mX2_sortOf) (m_code mX2_sortOf) (m_b mX2_sortOf).data.toList 0 = true := by decide +kernel
theorem ke_X2_sortOf : pwA3 prog mX2_sortOf (m_code mX2_sortOf) = true := by decide +kernel
theorem kx_X2_sortOf : cEqL (plnks prog mX2_sortOf ++ pmw mX2_sortOf) (([3, 2, 1, 0] : List Nat).filterMap (nthT (pkT lw_tbl 71 [685, 0, 0]))) = true := by decide +kernel
theorem ku_X2_sortOf : (plnks prog mX2_sortOf ++ pmw mX2_sortOf).all uword = true := by decide +kernel
theorem ok_X2_sortOf : WFm prog mX2_sortOf := WFm.of4 kb_X2_sortOf kd_X2_sortOf ke_X2_sortOf kx_X2_sortOf ku_X2_sortOf
theorem kb_X2_isLetter : pmB mX2_isLetter = true := by decide +kernel
theorem kd_X2_isLetter : dz_dchk (m_b mX2_isLetter) (m_code mX2_isLetter) (m_b mX2_isLetter).data.toList 0 = true := by decide +kernel
theorem ke_X2_isLetter : pwA3 prog mX2_isLetter (m_code mX2_isLetter) = true := by decide +kernel
theorem kx_X2_isLetter : cEqL (plnks prog mX2_isLetter ++ pmw mX2_isLetter) (([2, 1, 0] : List Nat).filterMap (nthT (pkT lw_tbl 71 [351, 0]))) = true := by decide +kernel
theorem ku_X2_isLetter : (plnks prog mX2_isLetter ++ pmw mX2_isLetter).all uword = true := by decide +kernel
theorem ok_X2_isLetter : WFm prog mX2_isLetter := WFm.of4 kb_X2_isLetter kd_X2_isLetter ke_X2_isLetter kx_X2_isLetter ku_X2_isLetter
theorem kb_X2_keyRead : pmB mX2_keyRead = true := by decide +kernel
theorem kd_X2_keyRead : dz_dchk (m_b mX2_keyRead) (m_code mX2_keyRead) (m_b mX2_keyRead).data.toList 0 = true := by decide +kernel
theorem ke_X2_keyRead : pwA3 prog mX2_keyRead (m_code mX2_keyRead) = true := by decide +kernel
theorem kx_X2_keyRead : cEqL (plnks prog mX2_keyRead ++ pmw mX2_keyRead) (([3, 2, 0, 1] : List Nat).filterMap (nthT (pkT lw_tbl 7 [63, 690, 0]))) = true := by decide +kernel
theorem ku_X2_keyRead : (plnks prog mX2_keyRead ++ pmw mX2_keyRead).all uword = true := by decide +kernel
theorem ok_X2_keyRead : WFm prog mX2_keyRead := WFm.of4 kb_X2_keyRead kd_X2_keyRead ke_X2_keyRead kx_X2_keyRead ku_X2_keyRead
theorem kb_X2_isWord : pmB mX2_isWord = true := by decide +kernel
theorem kd_X2_isWord : dz_dchk (m_b mX2_isWord) (m_code mX2_isWord) (m_b mX2_isWord).data.toList 0 = true := by decide +kernel
theorem ke_X2_isWord : pwA3 prog mX2_isWord (m_code mX2_isWord) = true := by decide +kernel
theorem kx_X2_isWord : cEqL (plnks prog mX2_isWord ++ pmw mX2_isWord) (([3, 2, 0, 1] : List Nat).filterMap (nthT (pkT lw_tbl 8 [62, 695, 0]))) = true := by decide +kernel
theorem ku_X2_isWord : (plnks prog mX2_isWord ++ pmw mX2_isWord).all uword = true := by decide +kernel
theorem ok_X2_isWord : WFm prog mX2_isWord := WFm.of4 kb_X2_isWord kd_X2_isWord ke_X2_isWord kx_X2_isWord ku_X2_isWord
theorem kb_X2_goesOn : pmB mX2_goesOn = true := by decide +kernel
theorem kd_X2_goesOn : dz_dchk (m_b mX2_goesOn) (m_code mX2_goesOn) (m_b mX2_goesOn).data.toList 0 = true := by decide +kernel
theorem ke_X2_goesOn : pwA3 prog mX2_goesOn (m_code mX2_goesOn) = true := by decide +kernel
theorem kx_X2_goesOn : cEqL (plnks prog mX2_goesOn ++ pmw mX2_goesOn) (([2, 5, 3, 6, 9, 3, 6, 10, 5, 4, 11, 8, 7, 0, 1] : List Nat).filterMap (nthT (pkT lw_tbl 9 [61, 159, 0, 1, 4, 512, 72, 0, 0, 7, 22]))) = true := by decide +kernel
theorem ku_X2_goesOn : (plnks prog mX2_goesOn ++ pmw mX2_goesOn).all uword = true := by decide +kernel
theorem ok_X2_goesOn : WFm prog mX2_goesOn := WFm.of4 kb_X2_goesOn kd_X2_goesOn ke_X2_goesOn kx_X2_goesOn ku_X2_goesOn
theorem kb_X2_takePiece : pmB mX2_takePiece = true := by decide +kernel
theorem kd_X2_takePiece : dz_dchk (m_b mX2_takePiece) (m_code mX2_takePiece) (m_b mX2_takePiece).data.toList 0 = true := by decide +kernel
theorem ke_X2_takePiece : pwA3 prog mX2_takePiece (m_code mX2_takePiece) = true := by decide +kernel
theorem kx_X2_takePiece : cEqL (plnks prog mX2_takePiece ++ pmw mX2_takePiece) (([4, 9, 2, 11, 10, 5, 3, 3, 6, 8, 7, 0, 1] : List Nat).filterMap (nthT (pkT lw_tbl 16 [54, 36, 3, 118, 618, 3, 5, 0, 0, 3, 0]))) = true := by decide +kernel
theorem ku_X2_takePiece : (plnks prog mX2_takePiece ++ pmw mX2_takePiece).all uword = true := by decide +kernel
theorem ok_X2_takePiece : WFm prog mX2_takePiece := WFm.of4 kb_X2_takePiece kd_X2_takePiece ke_X2_takePiece kx_X2_takePiece ku_X2_takePiece
theorem kb_X2_numberRead : pmB mX2_numberRead = true := by decide +kernel
theorem kd_X2_numberRead : dz_dchk (m_b mX2_numberRead) (m_code mX2_numberRead) (m_b mX2_numberRead).data.toList 0 = true := by decide +kernel
theorem ke_X2_numberRead : pwA3 prog mX2_numberRead (m_code mX2_numberRead) = true := by decide +kernel
theorem kx_X2_numberRead : cEqL (plnks prog mX2_numberRead ++ pmw mX2_numberRead) (([3, 2, 7, 2, 3, 4, 6, 5, 0, 1] : List Nat).filterMap (nthT (pkT lw_tbl 17 [53, 160, 0, 518, 111, 0, 0]))) = true := by decide +kernel
theorem ku_X2_numberRead : (plnks prog mX2_numberRead ++ pmw mX2_numberRead).all uword = true := by decide +kernel
theorem ok_X2_numberRead : WFm prog mX2_numberRead := WFm.of4 kb_X2_numberRead kd_X2_numberRead ke_X2_numberRead kx_X2_numberRead ku_X2_numberRead
theorem kb_X2_nameRead : pmB mX2_nameRead = true := by decide +kernel
theorem kd_X2_nameRead : dz_dchk (m_b mX2_nameRead) (m_code mX2_nameRead) (m_b mX2_nameRead).data.toList 0 = true := by decide +kernel
theorem ke_X2_nameRead : pwA3 prog mX2_nameRead (m_code mX2_nameRead) = true := by decide +kernel
theorem kx_X2_nameRead : cEqL (plnks prog mX2_nameRead ++ pmw mX2_nameRead) (([3, 2, 0, 1] : List Nat).filterMap (nthT (pkT lw_tbl 18 [52, 797, 0]))) = true := by decide +kernel
theorem ku_X2_nameRead : (plnks prog mX2_nameRead ++ pmw mX2_nameRead).all uword = true := by decide +kernel
theorem ok_X2_nameRead : WFm prog mX2_nameRead := WFm.of4 kb_X2_nameRead kd_X2_nameRead ke_X2_nameRead kx_X2_nameRead ku_X2_nameRead
theorem kb_X2_takeAhead : pmB mX2_takeAhead = true := by decide +kernel
theorem kd_X2_takeAhead : dz_dchk (m_b mX2_takeAhead) (m_code mX2_takeAhead) (m_b mX2_takeAhead).data.toList 0 = true := by decide +kernel
theorem ke_X2_takeAhead : pwA3 prog mX2_takeAhead (m_code mX2_takeAhead) = true := by decide +kernel
theorem kx_X2_takeAhead : cEqL (plnks prog mX2_takeAhead ++ pmw mX2_takeAhead) (([2, 2, 2, 6, 3, 3, 3, 6, 5, 4, 0, 1] : List Nat).filterMap (nthT (pkT lw_tbl 10 [60, 165, 0, 590, 0, 0]))) = true := by decide +kernel
theorem ku_X2_takeAhead : (plnks prog mX2_takeAhead ++ pmw mX2_takeAhead).all uword = true := by decide +kernel
theorem ok_X2_takeAhead : WFm prog mX2_takeAhead := WFm.of4 kb_X2_takeAhead kd_X2_takeAhead ke_X2_takeAhead kx_X2_takeAhead ku_X2_takeAhead
theorem kb_X2_takeBehind : pmB mX2_takeBehind = true := by decide +kernel
theorem kd_X2_takeBehind : dz_dchk (m_b mX2_takeBehind) (m_code mX2_takeBehind) (m_b mX2_takeBehind).data.toList 0 = true := by decide +kernel
theorem ke_X2_takeBehind : pwA3 prog mX2_takeBehind (m_code mX2_takeBehind) = true := by decide +kernel
theorem kx_X2_takeBehind : cEqL (plnks prog mX2_takeBehind ++ pmw mX2_takeBehind) (([3, 8, 2, 2, 3, 3, 11, 10, 8, 9, 10, 5, 4, 7, 6, 0, 1] : List Nat).filterMap (nthT (pkT lw_tbl 12 [58, 164, 0, 1, 591, 5, 0, 0, 3, 3, 6]))) = true := by decide +kernel
theorem ku_X2_takeBehind : (plnks prog mX2_takeBehind ++ pmw mX2_takeBehind).all uword = true := by decide +kernel
theorem ok_X2_takeBehind : WFm prog mX2_takeBehind := WFm.of4 kb_X2_takeBehind kd_X2_takeBehind ke_X2_takeBehind kx_X2_takeBehind ku_X2_takeBehind
theorem kb_X2_endPiece : pmB mX2_endPiece = true := by decide +kernel
theorem kd_X2_endPiece : dz_dchk (m_b mX2_endPiece) (m_code mX2_endPiece) (m_b mX2_endPiece).data.toList 0 = true := by decide +kernel
theorem ke_X2_endPiece : pwA3 prog mX2_endPiece (m_code mX2_endPiece) = true := by decide +kernel
theorem kx_X2_endPiece : cEqL (plnks prog mX2_endPiece ++ pmw mX2_endPiece) (([2, 5, 5, 6, 2, 2, 3, 3, 4, 8, 7, 0, 1] : List Nat).filterMap (nthT (pkT lw_tbl 15 [55, 164, 1, 0, 603, 6, 5, 0]))) = true := by decide +kernel
theorem ku_X2_endPiece : (plnks prog mX2_endPiece ++ pmw mX2_endPiece).all uword = true := by decide +kernel
theorem ok_X2_endPiece : WFm prog mX2_endPiece := WFm.of4 kb_X2_endPiece kd_X2_endPiece ke_X2_endPiece kx_X2_endPiece ku_X2_endPiece
theorem kb_X2_unwind : pmB mX2_unwind = true := by decide +kernel
theorem kd_X2_unwind : dz_dchk (m_b mX2_unwind) (m_code mX2_unwind) (m_b mX2_unwind).data.toList 0 = true := by decide +kernel
theorem ke_X2_unwind : pwA3 prog mX2_unwind (m_code mX2_unwind) = true := by decide +kernel
theorem kx_X2_unwind : cEqL (plnks prog mX2_unwind ++ pmw mX2_unwind) (([2, 5, 6, 5, 7, 2, 2, 4, 3, 0, 1] : List Nat).filterMap (nthT (pkT lw_tbl 13 [57, 164, 604, 0, 0, 3, 2]))) = true := by decide +kernel
theorem ku_X2_unwind : (plnks prog mX2_unwind ++ pmw mX2_unwind).all uword = true := by decide +kernel
theorem ok_X2_unwind : WFm prog mX2_unwind := WFm.of4 kb_X2_unwind kd_X2_unwind ke_X2_unwind kx_X2_unwind ku_X2_unwind
theorem kb_X2_rankOf : pmB mX2_rankOf = true := by decide +kernel
theorem kd_X2_rankOf : dz_dchk (m_b mX2_rankOf) (m_code mX2_rankOf) (m_b mX2_rankOf).data.toList 0 = true := by decide +kernel
theorem ke_X2_rankOf : pwA3 prog mX2_rankOf (m_code mX2_rankOf) = true := by decide +kernel
theorem kx_X2_rankOf : cEqL (plnks prog mX2_rankOf ++ pmw mX2_rankOf) (([2, 1, 0] : List Nat).filterMap (nthT (pkT lw_tbl 71 [776, 0]))) = true := by decide +kernel
theorem ku_X2_rankOf : (plnks prog mX2_rankOf ++ pmw mX2_rankOf).all uword = true := by decide +kernel
theorem ok_X2_rankOf : WFm prog mX2_rankOf := WFm.of4 kb_X2_rankOf kd_X2_rankOf ke_X2_rankOf kx_X2_rankOf ku_X2_rankOf
theorem kb_X2_push : pmB mX2_push = true := by decide +kernel
theorem kd_X2_push : dz_dchk (m_b mX2_push) (m_code mX2_push) (m_b mX2_push).data.toList 0 = true := by decide +kernel
theorem ke_X2_push : pwA3 prog mX2_push (m_code mX2_push) = true := by decide +kernel
theorem kx_X2_push : cEqL (plnks prog mX2_push ++ pmw mX2_push) (([3, 3, 2, 2, 3, 3, 3, 5, 4, 0, 1] : List Nat).filterMap (nthT (pkT lw_tbl 11 [59, 163, 0, 596, 0]))) = true := by decide +kernel
theorem ku_X2_push : (plnks prog mX2_push ++ pmw mX2_push).all uword = true := by decide +kernel
theorem ok_X2_push : WFm prog mX2_push := WFm.of4 kb_X2_push kd_X2_push ke_X2_push kx_X2_push ku_X2_push
theorem kb_X2_peek : pmB mX2_peek = true := by decide +kernel
theorem kd_X2_peek : dz_dchk (m_b mX2_peek) (m_code mX2_peek) (m_b mX2_peek).data.toList 0 = true := by decide +kernel
theorem ke_X2_peek : pwA3 prog mX2_peek (m_code mX2_peek) = true := by decide +kernel
theorem kx_X2_peek : cEqL (plnks prog mX2_peek ++ pmw mX2_peek) (([3, 3, 2, 2, 3, 5, 4, 0, 1] : List Nat).filterMap (nthT (pkT lw_tbl 14 [56, 163, 0, 608, 0]))) = true := by decide +kernel
theorem ku_X2_peek : (plnks prog mX2_peek ++ pmw mX2_peek).all uword = true := by decide +kernel
theorem ok_X2_peek : WFm prog mX2_peek := WFm.of4 kb_X2_peek kd_X2_peek ke_X2_peek kx_X2_peek ku_X2_peek
theorem kb_X3_init : pmB mX3_init = true := by decide +kernel
theorem kd_X3_init : dz_dchk (m_b mX3_init) (m_code mX3_init) (m_b mX3_init).data.toList 0 = true := by decide +kernel
theorem ke_X3_init : pwA3 prog mX3_init (m_code mX3_init) = true := by decide +kernel
theorem kx_X3_init : cEqL (plnks prog mX3_init ++ pmw mX3_init) (([6, 1, 2, 3, 7, 8, 5, 4, 0] : List Nat).filterMap (nthT (pkT lw_tbl 72 [16, 0, 32, 145, 0, 0, 0, 1]))) = true := by decide +kernel
theorem ku_X3_init : (plnks prog mX3_init ++ pmw mX3_init).all uword = true := by decide +kernel
theorem ok_X3_init : WFm prog mX3_init := WFm.of4 kb_X3_init kd_X3_init ke_X3_init kx_X3_init ku_X3_init
theorem kb_X3_become : pmB mX3_become = true := by decide +kernel
theorem kd_X3_become : dz_dchk (m_b mX3_become) (m_code mX3_become) (m_b mX3_become).data.toList 0 = true := by decide +kernel
theorem ke_X3_become : pwA3 prog mX3_become (m_code mX3_become) = true := by decide +kernel
theorem kx_X3_become : cEqL (plnks prog mX3_become ++ pmw mX3_become) (([2, 3, 1, 7, 6, 4, 5, 0] : List Nat).filterMap (nthT (pkT lw_tbl 72 [199, 1, 1, 678, 0, 0, 0]))) = true := by decide +kernel
theorem ku_X3_become : (plnks prog mX3_become ++ pmw mX3_become).all uword = true := by decide +kernel
theorem ok_X3_become : WFm prog mX3_become := WFm.of4 kb_X3_become kd_X3_become ke_X3_become kx_X3_become ku_X3_become
theorem kb_X3_isMissing : pmB mX3_isMissing = true := by decide +kernel
theorem kd_X3_isMissing : dz_dchk (m_b mX3_isMissing) (m_code mX3_isMissing) (m_b mX3_isMissing).data.toList 0 = true := by decide +kernel
theorem ke_X3_isMissing : pwA3 prog mX3_isMissing (m_code mX3_isMissing) = true := by decide +kernel
theorem kx_X3_isMissing : cEqL (plnks prog mX3_isMissing ++ pmw mX3_isMissing) (([1, 4, 2, 3, 0] : List Nat).filterMap (nthT (pkT lw_tbl 72 [201, 421, 0, 0]))) = true := by decide +kernel
theorem ku_X3_isMissing : (plnks prog mX3_isMissing ++ pmw mX3_isMissing).all uword = true := by decide +kernel
theorem ok_X3_isMissing : WFm prog mX3_isMissing := WFm.of4 kb_X3_isMissing kd_X3_isMissing ke_X3_isMissing kx_X3_isMissing ku_X3_isMissing
theorem kb_X3_has : pmB mX3_has = true := by decide +kernel
theorem kd_X3_has : dz_dchk (m_b mX3_has) (m_code mX3_has) (m_b mX3_has).data.toList 0 = true := by decide +kernel
theorem ke_X3_has : pwA3 prog mX3_has (m_code mX3_has) = true := by decide +kernel
theorem kx_X3_has : cEqL (plnks prog mX3_has ++ pmw mX3_has) (([1, 4, 2, 3, 0] : List Nat).filterMap (nthT (pkT lw_tbl 72 [203, 431, 0, 0]))) = true := by decide +kernel
theorem ku_X3_has : (plnks prog mX3_has ++ pmw mX3_has).all uword = true := by decide +kernel
theorem ok_X3_has : WFm prog mX3_has := WFm.of4 kb_X3_has kd_X3_has ke_X3_has kx_X3_has ku_X3_has
theorem kb_X3_hasAll : pmB mX3_hasAll = true := by decide +kernel
theorem kd_X3_hasAll : dz_dchk (m_b mX3_hasAll) (m_code mX3_hasAll) (m_b mX3_hasAll).data.toList 0 = true := by decide +kernel
theorem ke_X3_hasAll : pwA3 prog mX3_hasAll (m_code mX3_hasAll) = true := by decide +kernel
theorem kx_X3_hasAll : cEqL (plnks prog mX3_hasAll ++ pmw mX3_hasAll) (([2, 1, 2, 2, 5, 3, 4, 0] : List Nat).filterMap (nthT (pkT lw_tbl 72 [199, 3, 709, 0, 0]))) = true := by decide +kernel
theorem ku_X3_hasAll : (plnks prog mX3_hasAll ++ pmw mX3_hasAll).all uword = true := by decide +kernel
theorem ok_X3_hasAll : WFm prog mX3_hasAll := WFm.of4 kb_X3_hasAll kd_X3_hasAll ke_X3_hasAll kx_X3_hasAll ku_X3_hasAll
