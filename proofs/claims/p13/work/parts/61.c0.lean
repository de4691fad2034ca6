/-! ===== checks of the tables, piece 0 (printed by program) ===== -/
theorem kb_X0_init : pwB prog mX0_init = true := by decide +kernel
theorem kl_X0_init : plnks prog mX0_init = ([103, 89, 90, 123, 104] : List Nat).filterMap (nthT lw_tbl) := by decide +kernel
theorem km_X0_init : pmw mX0_init = [102, 101, 67].filterMap (nthT lw_tbl) := by decide +kernel
theorem ku_X0_init : (plnks prog mX0_init ++ pmw mX0_init).all uword = true := by decide +kernel
theorem ok_X0_init : WFm prog mX0_init := WFm.of2 kb_X0_init kl_X0_init km_X0_init ku_X0_init
theorem kb_X0_begin : pwB prog mX0_begin = true := by decide +kernel
theorem kl_X0_begin : plnks prog mX0_begin = ([107, 105, 111] : List Nat).filterMap (nthT lw_tbl) := by decide +kernel
theorem km_X0_begin : pmw mX0_begin = [822, 820, 821, 67].filterMap (nthT lw_tbl) := by decide +kernel
theorem ku_X0_begin : (plnks prog mX0_begin ++ pmw mX0_begin).all uword = true := by decide +kernel
theorem ok_X0_begin : WFm prog mX0_begin := WFm.of2 kb_X0_begin kl_X0_begin km_X0_begin ku_X0_begin
theorem kb_X0_add : pwB prog mX0_add = true := by decide +kernel
theorem kl_X0_add : plnks prog mX0_add = ([105, 105, 104, 104, 105, 105, 105] : List Nat).filterMap (nthT lw_tbl) := by decide +kernel
theorem km_X0_add : pmw mX0_add = [853, 851, 852, 67].filterMap (nthT lw_tbl) := by decide +kernel
theorem ku_X0_add : (plnks prog mX0_add ++ pmw mX0_add).all uword = true := by decide +kernel
theorem ok_X0_add : WFm prog mX0_add := WFm.of2 kb_X0_add kl_X0_add km_X0_add ku_X0_add
theorem kb_X0_at : pwB prog mX0_at = true := by decide +kernel
theorem kl_X0_at : plnks prog mX0_at = ([104, 104] : List Nat).filterMap (nthT lw_tbl) := by decide +kernel
theorem km_X0_at : pmw mX0_at = [417, 415, 416, 67].filterMap (nthT lw_tbl) := by decide +kernel
theorem ku_X0_at : (plnks prog mX0_at ++ pmw mX0_at).all uword = true := by decide +kernel
theorem ok_X0_at : WFm prog mX0_at := WFm.of2 kb_X0_at kl_X0_at km_X0_at ku_X0_at
theorem kb_X0_takeFrom : pwB prog mX0_takeFrom = true := by decide +kernel
theorem kl_X0_takeFrom : plnks prog mX0_takeFrom = ([104, 104, 938, 664, 663, 77, 105, 105, 107, 107, 111, 111] : List Nat).filterMap (nthT lw_tbl) := by decide +kernel
theorem km_X0_takeFrom : pmw mX0_takeFrom = [937, 935, 936, 67].filterMap (nthT lw_tbl) := by decide +kernel
theorem ku_X0_takeFrom : (plnks prog mX0_takeFrom ++ pmw mX0_takeFrom).all uword = true := by decide +kernel
theorem ok_X0_takeFrom : WFm prog mX0_takeFrom := WFm.of2 kb_X0_takeFrom kl_X0_takeFrom km_X0_takeFrom ku_X0_takeFrom
theorem kb_X1_init : pwB prog mX1_init = true := by decide +kernel
theorem kl_X1_init : plnks prog mX1_init = ([96, 89, 90, 97, 98, 124, 97, 99, 67, 100, 125, 123, 128, 124, 124, 97, 99, 67, 100] : List Nat).filterMap (nthT lw_tbl) := by decide +kernel
theorem km_X1_init : pmw mX1_init = [95, 94, 66].filterMap (nthT lw_tbl) := by decide +kernel
theorem ku_X1_init : (plnks prog mX1_init ++ pmw mX1_init).all uword = true := by decide +kernel
theorem ok_X1_init : WFm prog mX1_init := WFm.of2 kb_X1_init kl_X1_init km_X1_init ku_X1_init
theorem kb_X1_one : pwB prog mX1_one = true := by decide +kernel
theorem kl_X1_one : plnks prog mX1_one = ([124, 124] : List Nat).filterMap (nthT lw_tbl) := by decide +kernel
theorem km_X1_one : pmw mX1_one = [409, 407, 408, 66].filterMap (nthT lw_tbl) := by decide +kernel
theorem ku_X1_one : (plnks prog mX1_one ++ pmw mX1_one).all uword = true := by decide +kernel
theorem ok_X1_one : WFm prog mX1_one := WFm.of2 kb_X1_one kl_X1_one km_X1_one ku_X1_one
theorem kb_X1_worked : pwB prog mX1_worked = true := by decide +kernel
theorem kl_X1_worked : plnks prog mX1_worked = ([129, 106, 414, 418, 422, 425, 418, 428, 418, 428, 428, 432, 418, 428] : List Nat).filterMap (nthT lw_tbl) := by decide +kernel
theorem km_X1_worked : pmw mX1_worked = [413, 411, 412, 66].filterMap (nthT lw_tbl) := by decide +kernel
theorem ku_X1_worked : (plnks prog mX1_worked ++ pmw mX1_worked).all uword = true := by decide +kernel
theorem ok_X1_worked : WFm prog mX1_worked := WFm.of2 kb_X1_worked kl_X1_worked km_X1_worked ku_X1_worked
theorem kb_X1_push : pwB prog mX1_push = true := by decide +kernel
theorem kl_X1_push : plnks prog mX1_push = ([129, 129, 128, 128, 129, 129, 129] : List Nat).filterMap (nthT lw_tbl) := by decide +kernel
theorem km_X1_push : pmw mX1_push = [421, 420, 0, 66].filterMap (nthT lw_tbl) := by decide +kernel
theorem ku_X1_push : (plnks prog mX1_push ++ pmw mX1_push).all uword = true := by decide +kernel
theorem ok_X1_push : WFm prog mX1_push := WFm.of2 kb_X1_push kl_X1_push km_X1_push ku_X1_push
theorem kb_X1_pop : pwB prog mX1_pop = true := by decide +kernel
theorem kl_X1_pop : plnks prog mX1_pop = ([129, 129, 128, 129, 129, 128, 129] : List Nat).filterMap (nthT lw_tbl) := by decide +kernel
theorem km_X1_pop : pmw mX1_pop = [431, 430, 1, 66].filterMap (nthT lw_tbl) := by decide +kernel
theorem ku_X1_pop : (plnks prog mX1_pop ++ pmw mX1_pop).all uword = true := by decide +kernel
theorem ok_X1_pop : WFm prog mX1_pop := WFm.of2 kb_X1_pop kl_X1_pop km_X1_pop ku_X1_pop
theorem kb_X1_named : pwB prog mX1_named = true := by decide +kernel
theorem kl_X1_named : plnks prog mX1_named = ([194, 197, 169, 161, 165] : List Nat).filterMap (nthT lw_tbl) := by decide +kernel
theorem km_X1_named : pmw mX1_named = [427, 426, 66].filterMap (nthT lw_tbl) := by decide +kernel
theorem ku_X1_named : (plnks prog mX1_named ++ pmw mX1_named).all uword = true := by decide +kernel
theorem ok_X1_named : WFm prog mX1_named := WFm.of2 kb_X1_named kl_X1_named km_X1_named ku_X1_named
theorem kb_X1_joined : pwB prog mX1_joined = true := by decide +kernel
theorem kl_X1_joined : plnks prog mX1_joined = ([] : List Nat).filterMap (nthT lw_tbl) := by decide +kernel
theorem km_X1_joined : pmw mX1_joined = [434, 433, 66].filterMap (nthT lw_tbl) := by decide +kernel
theorem ku_X1_joined : (plnks prog mX1_joined ++ pmw mX1_joined).all uword = true := by decide +kernel
theorem ok_X1_joined : WFm prog mX1_joined := WFm.of2 kb_X1_joined kl_X1_joined km_X1_joined ku_X1_joined
theorem kb_X2_init : pwB prog mX2_init = true := by decide +kernel
theorem kl_X2_init : plnks prog mX2_init = ([227, 89, 90, 123, 228, 123, 235] : List Nat).filterMap (nthT lw_tbl) := by decide +kernel
theorem km_X2_init : pmw mX2_init = [226, 225, 71].filterMap (nthT lw_tbl) := by decide +kernel
theorem ku_X2_init : (plnks prog mX2_init ++ pmw mX2_init).all uword = true := by decide +kernel
theorem ok_X2_init : WFm prog mX2_init := WFm.of2 kb_X2_init kl_X2_init km_X2_init ku_X2_init
theorem kb_X2_hasRoom : pwB prog mX2_hasRoom = true := by decide +kernel
theorem kl_X2_hasRoom : plnks prog mX2_hasRoom = ([229] : List Nat).filterMap (nthT lw_tbl) := by decide +kernel
theorem km_X2_hasRoom : pmw mX2_hasRoom = [731, 729, 730, 71].filterMap (nthT lw_tbl) := by decide +kernel
theorem ku_X2_hasRoom : (plnks prog mX2_hasRoom ++ pmw mX2_hasRoom).all uword = true := by decide +kernel
theorem ok_X2_hasRoom : WFm prog mX2_hasRoom := WFm.of2 kb_X2_hasRoom kl_X2_hasRoom km_X2_hasRoom ku_X2_hasRoom
theorem kb_X2_takeNumber : pwB prog mX2_takeNumber = true := by decide +kernel
theorem kl_X2_takeNumber : plnks prog mX2_takeNumber = ([229, 229, 228, 228, 229, 229, 229] : List Nat).filterMap (nthT lw_tbl) := by decide +kernel
theorem km_X2_takeNumber : pmw mX2_takeNumber = [735, 733, 734, 71].filterMap (nthT lw_tbl) := by decide +kernel
theorem ku_X2_takeNumber : (plnks prog mX2_takeNumber ++ pmw mX2_takeNumber).all uword = true := by decide +kernel
theorem ok_X2_takeNumber : WFm prog mX2_takeNumber := WFm.of2 kb_X2_takeNumber kl_X2_takeNumber km_X2_takeNumber ku_X2_takeNumber
theorem kb_X2_readInto : pwB prog mX2_readInto = true := by decide +kernel
theorem kl_X2_readInto : plnks prog mX2_readInto = ([233, 231, 748, 760, 232, 819, 236, 237, 238, 239, 748, 231, 823, 232, 748, 239, 237, 232, 839] : List Nat).filterMap (nthT lw_tbl) := by decide +kernel
theorem km_X2_readInto : pmw mX2_readInto = [747, 745, 746, 71].filterMap (nthT lw_tbl) := by decide +kernel
theorem ku_X2_readInto : (plnks prog mX2_readInto ++ pmw mX2_readInto).all uword = true := by decide +kernel
theorem ok_X2_readInto : WFm prog mX2_readInto := WFm.of2 kb_X2_readInto kl_X2_readInto km_X2_readInto ku_X2_readInto
theorem kb_X2_nextWord : pwB prog mX2_nextWord = true := by decide +kernel
theorem kl_X2_nextWord : plnks prog mX2_nextWord = ([231, 231, 233, 233, 229, 233, 752, 233, 233, 233, 232, 232, 752, 756, 231, 232, 234, 231, 233, 233, 231, 233, 229, 233, 752, 756, 231, 233, 233] : List Nat).filterMap (nthT lw_tbl) := by decide +kernel
theorem km_X2_nextWord : pmw mX2_nextWord = [751, 750, 5, 71].filterMap (nthT lw_tbl) := by decide +kernel
theorem ku_X2_nextWord : (plnks prog mX2_nextWord ++ pmw mX2_nextWord).all uword = true := by decide +kernel
theorem ok_X2_nextWord : WFm prog mX2_nextWord := WFm.of2 kb_X2_nextWord kl_X2_nextWord km_X2_nextWord ku_X2_nextWord
theorem kb_X2_byteAt : pwB prog mX2_byteAt = true := by decide +kernel
theorem kl_X2_byteAt : plnks prog mX2_byteAt = ([229, 228, 228] : List Nat).filterMap (nthT lw_tbl) := by decide +kernel
theorem km_X2_byteAt : pmw mX2_byteAt = [755, 754, 6, 71].filterMap (nthT lw_tbl) := by decide +kernel
theorem ku_X2_byteAt : (plnks prog mX2_byteAt ++ pmw mX2_byteAt).all uword = true := by decide +kernel
theorem ok_X2_byteAt : WFm prog mX2_byteAt := WFm.of2 kb_X2_byteAt kl_X2_byteAt km_X2_byteAt ku_X2_byteAt
theorem kb_X2_sortOf : pwB prog mX2_sortOf = true := by decide +kernel
theorem kl_X2_sortOf : plnks prog mX2_sortOf = ([759] : List Nat).filterMap (nthT lw_tbl) := by decide +kernel
theorem km_X2_sortOf : pmw mX2_sortOf = [758, 757, 71].filterMap (nthT lw_tbl) := by decide +kernel
theorem ku_X2_sortOf : (plnks prog mX2_sortOf ++ pmw mX2_sortOf).all uword = true := by decide +kernel
theorem ok_X2_sortOf : WFm prog mX2_sortOf := WFm.of2 kb_X2_sortOf kl_X2_sortOf km_X2_sortOf ku_X2_sortOf
theorem kb_X2_isLetter : pwB prog mX2_isLetter = true := by decide +kernel
theorem kl_X2_isLetter : plnks prog mX2_isLetter = ([] : List Nat).filterMap (nthT lw_tbl) := by decide +kernel
theorem km_X2_isLetter : pmw mX2_isLetter = [424, 423, 71].filterMap (nthT lw_tbl) := by decide +kernel
theorem ku_X2_isLetter : (plnks prog mX2_isLetter ++ pmw mX2_isLetter).all uword = true := by decide +kernel
theorem ok_X2_isLetter : WFm prog mX2_isLetter := WFm.of2 kb_X2_isLetter kl_X2_isLetter km_X2_isLetter ku_X2_isLetter
theorem kb_X2_keyRead : pwB prog mX2_keyRead = true := by decide +kernel
theorem kl_X2_keyRead : plnks prog mX2_keyRead = ([] : List Nat).filterMap (nthT lw_tbl) := by decide +kernel
theorem km_X2_keyRead : pmw mX2_keyRead = [763, 762, 7, 71].filterMap (nthT lw_tbl) := by decide +kernel
theorem ku_X2_keyRead : (plnks prog mX2_keyRead ++ pmw mX2_keyRead).all uword = true := by decide +kernel
theorem ok_X2_keyRead : WFm prog mX2_keyRead := WFm.of2 kb_X2_keyRead kl_X2_keyRead km_X2_keyRead ku_X2_keyRead
theorem kb_X2_isWord : pwB prog mX2_isWord = true := by decide +kernel
theorem kl_X2_isWord : plnks prog mX2_isWord = ([] : List Nat).filterMap (nthT lw_tbl) := by decide +kernel
theorem km_X2_isWord : pmw mX2_isWord = [768, 767, 8, 71].filterMap (nthT lw_tbl) := by decide +kernel
theorem ku_X2_isWord : (plnks prog mX2_isWord ++ pmw mX2_isWord).all uword = true := by decide +kernel
theorem ok_X2_isWord : WFm prog mX2_isWord := WFm.of2 kb_X2_isWord kl_X2_isWord km_X2_isWord ku_X2_isWord
theorem kb_X2_goesOn : pwB prog mX2_goesOn = true := by decide +kernel
theorem kl_X2_goesOn : plnks prog mX2_goesOn = ([231, 239, 232, 752, 827, 232, 752, 835, 239, 234, 858] : List Nat).filterMap (nthT lw_tbl) := by decide +kernel
theorem km_X2_goesOn : pmw mX2_goesOn = [826, 825, 9, 71].filterMap (nthT lw_tbl) := by decide +kernel
theorem ku_X2_goesOn : (plnks prog mX2_goesOn ++ pmw mX2_goesOn).all uword = true := by decide +kernel
theorem ok_X2_goesOn : WFm prog mX2_goesOn := WFm.of2 kb_X2_goesOn kl_X2_goesOn km_X2_goesOn ku_X2_goesOn
theorem kb_X2_takePiece : pwB prog mX2_takePiece = true := by decide +kernel
theorem kl_X2_takePiece : plnks prog mX2_takePiece = ([231, 862, 108, 867, 866, 850, 112, 112, 854] : List Nat).filterMap (nthT lw_tbl) := by decide +kernel
theorem km_X2_takePiece : pmw mX2_takePiece = [861, 860, 16, 71].filterMap (nthT lw_tbl) := by decide +kernel
theorem ku_X2_takePiece : (plnks prog mX2_takePiece ++ pmw mX2_takePiece).all uword = true := by decide +kernel
theorem ok_X2_takePiece : WFm prog mX2_takePiece := WFm.of2 kb_X2_takePiece kl_X2_takePiece km_X2_takePiece ku_X2_takePiece
theorem kb_X2_numberRead : pwB prog mX2_numberRead = true := by decide +kernel
theorem kl_X2_numberRead : plnks prog mX2_numberRead = ([233, 232, 866, 232, 233, 752] : List Nat).filterMap (nthT lw_tbl) := by decide +kernel
theorem km_X2_numberRead : pmw mX2_numberRead = [865, 864, 17, 71].filterMap (nthT lw_tbl) := by decide +kernel
theorem ku_X2_numberRead : (plnks prog mX2_numberRead ++ pmw mX2_numberRead).all uword = true := by decide +kernel
theorem ok_X2_numberRead : WFm prog mX2_numberRead := WFm.of2 kb_X2_numberRead kl_X2_numberRead km_X2_numberRead ku_X2_numberRead
theorem kb_X2_nameRead : pwB prog mX2_nameRead = true := by decide +kernel
theorem kl_X2_nameRead : plnks prog mX2_nameRead = ([] : List Nat).filterMap (nthT lw_tbl) := by decide +kernel
theorem km_X2_nameRead : pmw mX2_nameRead = [870, 869, 18, 71].filterMap (nthT lw_tbl) := by decide +kernel
theorem ku_X2_nameRead : (plnks prog mX2_nameRead ++ pmw mX2_nameRead).all uword = true := by decide +kernel
theorem ok_X2_nameRead : WFm prog mX2_nameRead := WFm.of2 kb_X2_nameRead kl_X2_nameRead km_X2_nameRead ku_X2_nameRead
theorem kb_X2_takeAhead : pwB prog mX2_takeAhead = true := by decide +kernel
theorem kl_X2_takeAhead : plnks prog mX2_takeAhead = ([237, 237, 237, 831, 238, 238, 238, 831] : List Nat).filterMap (nthT lw_tbl) := by decide +kernel
theorem km_X2_takeAhead : pmw mX2_takeAhead = [830, 829, 10, 71].filterMap (nthT lw_tbl) := by decide +kernel
theorem ku_X2_takeAhead : (plnks prog mX2_takeAhead ++ pmw mX2_takeAhead).all uword = true := by decide +kernel
theorem ok_X2_takeAhead : WFm prog mX2_takeAhead := WFm.of2 kb_X2_takeAhead kl_X2_takeAhead km_X2_takeAhead ku_X2_takeAhead
theorem kb_X2_takeBehind : pwB prog mX2_takeBehind = true := by decide +kernel
theorem kl_X2_takeBehind : plnks prog mX2_takeBehind = ([237, 839, 236, 236, 237, 237, 854, 847, 839, 843, 847, 831, 239] : List Nat).filterMap (nthT lw_tbl) := by decide +kernel
theorem km_X2_takeBehind : pmw mX2_takeBehind = [838, 837, 12, 71].filterMap (nthT lw_tbl) := by decide +kernel
theorem ku_X2_takeBehind : (plnks prog mX2_takeBehind ++ pmw mX2_takeBehind).all uword = true := by decide +kernel
theorem ok_X2_takeBehind : WFm prog mX2_takeBehind := WFm.of2 kb_X2_takeBehind kl_X2_takeBehind km_X2_takeBehind ku_X2_takeBehind
theorem kb_X2_endPiece : pwB prog mX2_endPiece = true := by decide +kernel
theorem kl_X2_endPiece : plnks prog mX2_endPiece = ([236, 843, 843, 850, 236, 236, 238, 238, 239] : List Nat).filterMap (nthT lw_tbl) := by decide +kernel
theorem km_X2_endPiece : pmw mX2_endPiece = [857, 856, 15, 71].filterMap (nthT lw_tbl) := by decide +kernel
theorem ku_X2_endPiece : (plnks prog mX2_endPiece ++ pmw mX2_endPiece).all uword = true := by decide +kernel
theorem ok_X2_endPiece : WFm prog mX2_endPiece := WFm.of2 kb_X2_endPiece kl_X2_endPiece km_X2_endPiece ku_X2_endPiece
theorem kb_X2_unwind : pwB prog mX2_unwind = true := by decide +kernel
theorem kl_X2_unwind : plnks prog mX2_unwind = ([236, 843, 847, 843, 850, 236, 236] : List Nat).filterMap (nthT lw_tbl) := by decide +kernel
theorem km_X2_unwind : pmw mX2_unwind = [842, 841, 13, 71].filterMap (nthT lw_tbl) := by decide +kernel
theorem ku_X2_unwind : (plnks prog mX2_unwind ++ pmw mX2_unwind).all uword = true := by decide +kernel
theorem ok_X2_unwind : WFm prog mX2_unwind := WFm.of2 kb_X2_unwind kl_X2_unwind km_X2_unwind ku_X2_unwind
theorem kb_X2_rankOf : pwB prog mX2_rankOf = true := by decide +kernel
theorem kl_X2_rankOf : plnks prog mX2_rankOf = ([] : List Nat).filterMap (nthT lw_tbl) := by decide +kernel
theorem km_X2_rankOf : pmw mX2_rankOf = [849, 848, 71].filterMap (nthT lw_tbl) := by decide +kernel
theorem ku_X2_rankOf : (plnks prog mX2_rankOf ++ pmw mX2_rankOf).all uword = true := by decide +kernel
theorem ok_X2_rankOf : WFm prog mX2_rankOf := WFm.of2 kb_X2_rankOf kl_X2_rankOf km_X2_rankOf ku_X2_rankOf
theorem kb_X2_push : pwB prog mX2_push = true := by decide +kernel
theorem kl_X2_push : plnks prog mX2_push = ([236, 236, 235, 235, 236, 236, 236] : List Nat).filterMap (nthT lw_tbl) := by decide +kernel
theorem km_X2_push : pmw mX2_push = [834, 833, 11, 71].filterMap (nthT lw_tbl) := by decide +kernel
theorem ku_X2_push : (plnks prog mX2_push ++ pmw mX2_push).all uword = true := by decide +kernel
theorem ok_X2_push : WFm prog mX2_push := WFm.of2 kb_X2_push kl_X2_push km_X2_push ku_X2_push
theorem kb_X2_peek : pwB prog mX2_peek = true := by decide +kernel
theorem kl_X2_peek : plnks prog mX2_peek = ([236, 236, 235, 235, 236] : List Nat).filterMap (nthT lw_tbl) := by decide +kernel
theorem km_X2_peek : pmw mX2_peek = [846, 845, 14, 71].filterMap (nthT lw_tbl) := by decide +kernel
theorem ku_X2_peek : (plnks prog mX2_peek ++ pmw mX2_peek).all uword = true := by decide +kernel
theorem ok_X2_peek : WFm prog mX2_peek := WFm.of2 kb_X2_peek kl_X2_peek km_X2_peek ku_X2_peek
theorem kb_X3_init : pwB prog mX3_init = true := by decide +kernel
theorem kl_X3_init : plnks prog mX3_init = ([271, 89, 90, 123, 272, 274] : List Nat).filterMap (nthT lw_tbl) := by decide +kernel
theorem km_X3_init : pmw mX3_init = [270, 269, 72].filterMap (nthT lw_tbl) := by decide +kernel
theorem ku_X3_init : (plnks prog mX3_init ++ pmw mX3_init).all uword = true := by decide +kernel
theorem ok_X3_init : WFm prog mX3_init := WFm.of2 kb_X3_init kl_X3_init km_X3_init ku_X3_init
theorem kb_X3_become : pwB prog mX3_become = true := by decide +kernel
theorem kl_X3_become : plnks prog mX3_become = ([274, 276, 272, 958] : List Nat).filterMap (nthT lw_tbl) := by decide +kernel
theorem km_X3_become : pmw mX3_become = [957, 955, 956, 72].filterMap (nthT lw_tbl) := by decide +kernel
theorem ku_X3_become : (plnks prog mX3_become ++ pmw mX3_become).all uword = true := by decide +kernel
theorem ok_X3_become : WFm prog mX3_become := WFm.of2 kb_X3_become kl_X3_become km_X3_become ku_X3_become
theorem kb_X3_isMissing : pwB prog mX3_isMissing = true := by decide +kernel
theorem kl_X3_isMissing : plnks prog mX3_isMissing = ([274] : List Nat).filterMap (nthT lw_tbl) := by decide +kernel
theorem km_X3_isMissing : pmw mX3_isMissing = [698, 696, 697, 72].filterMap (nthT lw_tbl) := by decide +kernel
theorem ku_X3_isMissing : (plnks prog mX3_isMissing ++ pmw mX3_isMissing).all uword = true := by decide +kernel
theorem ok_X3_isMissing : WFm prog mX3_isMissing := WFm.of2 kb_X3_isMissing kl_X3_isMissing km_X3_isMissing ku_X3_isMissing
theorem kb_X3_has : pwB prog mX3_has = true := by decide +kernel
theorem kl_X3_has : plnks prog mX3_has = ([276] : List Nat).filterMap (nthT lw_tbl) := by decide +kernel
theorem km_X3_has : pmw mX3_has = [710, 708, 709, 72].filterMap (nthT lw_tbl) := by decide +kernel
theorem ku_X3_has : (plnks prog mX3_has ++ pmw mX3_has).all uword = true := by decide +kernel
theorem ok_X3_has : WFm prog mX3_has := WFm.of2 kb_X3_has kl_X3_has km_X3_has ku_X3_has
theorem kb_X3_hasAll : pwB prog mX3_hasAll = true := by decide +kernel
theorem kl_X3_hasAll : plnks prog mX3_hasAll = ([276, 272, 276, 276] : List Nat).filterMap (nthT lw_tbl) := by decide +kernel
theorem km_X3_hasAll : pmw mX3_hasAll = [988, 986, 987, 72].filterMap (nthT lw_tbl) := by decide +kernel
theorem ku_X3_hasAll : (plnks prog mX3_hasAll ++ pmw mX3_hasAll).all uword = true := by decide +kernel
theorem ok_X3_hasAll : WFm prog mX3_hasAll := WFm.of2 kb_X3_hasAll kl_X3_hasAll km_X3_hasAll ku_X3_hasAll
