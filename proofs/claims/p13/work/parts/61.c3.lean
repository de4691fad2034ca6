/-! ===== checks of the tables, piece 3 (printed by program) ===== -/
theorem kb_X7_whose : pwB prog mX7_whose = true := by decide +kernel
theorem kl_X7_whose : plnks prog mX7_whose = ([691, 348, 352, 695, 699, 674, 674, 311, 190, 311, 374, 700] : List Nat).filterMap (nthT lw_tbl) := by decide +kernel
theorem km_X7_whose : pmw mX7_whose = [690, 688, 689, 65].filterMap (nthT lw_tbl) := by decide +kernel
theorem ku_X7_whose : (plnks prog mX7_whose ++ pmw mX7_whose).all uword = true := by decide +kernel
theorem ok_X7_whose : WFm prog mX7_whose := WFm.of2 kb_X7_whose kl_X7_whose km_X7_whose ku_X7_whose
theorem kb_X7_fee : pwB prog mX7_fee = true := by decide +kernel
theorem kl_X7_fee : plnks prog mX7_fee = ([311, 311, 198, 719] : List Nat).filterMap (nthT lw_tbl) := by decide +kernel
theorem km_X7_fee : pmw mX7_fee = [718, 716, 717, 65].filterMap (nthT lw_tbl) := by decide +kernel
theorem ku_X7_fee : (plnks prog mX7_fee ++ pmw mX7_fee).all uword = true := by decide +kernel
theorem ok_X7_fee : WFm prog mX7_fee := WFm.of2 kb_X7_fee kl_X7_fee km_X7_fee ku_X7_fee
theorem kb_X7_fine : pwB prog mX7_fine = true := by decide +kernel
theorem kl_X7_fine : plnks prog mX7_fine = ([311, 374, 352, 311, 170, 719] : List Nat).filterMap (nthT lw_tbl) := by decide +kernel
theorem km_X7_fine : pmw mX7_fine = [723, 721, 722, 65].filterMap (nthT lw_tbl) := by decide +kernel
theorem ku_X7_fine : (plnks prog mX7_fine ++ pmw mX7_fine).all uword = true := by decide +kernel
theorem ok_X7_fine : WFm prog mX7_fine := WFm.of2 kb_X7_fine kl_X7_fine km_X7_fine ku_X7_fine
theorem kb_X7_feed : pwB prog mX7_feed = true := by decide +kernel
theorem kl_X7_feed : plnks prog mX7_feed = ([314, 728, 369, 314, 732, 314, 732, 314, 732, 314, 230] : List Nat).filterMap (nthT lw_tbl) := by decide +kernel
theorem km_X7_feed : pmw mX7_feed = [727, 725, 726, 65].filterMap (nthT lw_tbl) := by decide +kernel
theorem ku_X7_feed : (plnks prog mX7_feed ++ pmw mX7_feed).all uword = true := by decide +kernel
theorem ok_X7_feed : WFm prog mX7_feed := WFm.of2 kb_X7_feed kl_X7_feed km_X7_feed ku_X7_feed
theorem kb_X7_trim : pwB prog mX7_trim = true := by decide +kernel
theorem kl_X7_trim : plnks prog mX7_trim = ([314, 230, 348, 352, 314, 230] : List Nat).filterMap (nthT lw_tbl) := by decide +kernel
theorem km_X7_trim : pmw mX7_trim = [739, 737, 738, 65].filterMap (nthT lw_tbl) := by decide +kernel
theorem ku_X7_trim : (plnks prog mX7_trim ++ pmw mX7_trim).all uword = true := by decide +kernel
theorem ok_X7_trim : WFm prog mX7_trim := WFm.of2 kb_X7_trim kl_X7_trim km_X7_trim ku_X7_trim
theorem kb_X7_text : pwB prog mX7_text = true := by decide +kernel
theorem kl_X7_text : plnks prog mX7_text = ([314, 310, 127, 744, 314, 230, 311, 192, 311, 929, 369] : List Nat).filterMap (nthT lw_tbl) := by decide +kernel
theorem km_X7_text : pmw mX7_text = [743, 741, 742, 65].filterMap (nthT lw_tbl) := by decide +kernel
theorem ku_X7_text : (plnks prog mX7_text ++ pmw mX7_text).all uword = true := by decide +kernel
theorem ok_X7_text : WFm prog mX7_text := WFm.of2 kb_X7_text kl_X7_text km_X7_text ku_X7_text
theorem kb_X7_textTold : pwB prog mX7_textTold = true := by decide +kernel
theorem kl_X7_textTold : plnks prog mX7_textTold = ([311, 944, 348, 352, 110, 113] : List Nat).filterMap (nthT lw_tbl) := by decide +kernel
theorem km_X7_textTold : pmw mX7_textTold = [943, 941, 942, 65].filterMap (nthT lw_tbl) := by decide +kernel
theorem ku_X7_textTold : (plnks prog mX7_textTold ++ pmw mX7_textTold).all uword = true := by decide +kernel
theorem ok_X7_textTold : WFm prog mX7_textTold := WFm.of2 kb_X7_textTold kl_X7_textTold km_X7_textTold ku_X7_textTold
theorem kb_X7_why : pwB prog mX7_why = true := by decide +kernel
theorem kl_X7_why : plnks prog mX7_why = ([348, 311, 949, 352] : List Nat).filterMap (nthT lw_tbl) := by decide +kernel
theorem km_X7_why : pmw mX7_why = [948, 946, 947, 65].filterMap (nthT lw_tbl) := by decide +kernel
theorem ku_X7_why : (plnks prog mX7_why ++ pmw mX7_why).all uword = true := by decide +kernel
theorem ok_X7_why : WFm prog mX7_why := WFm.of2 kb_X7_why kl_X7_why km_X7_why ku_X7_why
theorem kb_X7_sheet : pwB prog mX7_sheet = true := by decide +kernel
theorem kl_X7_sheet : plnks prog mX7_sheet = ([691, 348, 352, 954, 352, 959, 954] : List Nat).filterMap (nthT lw_tbl) := by decide +kernel
theorem km_X7_sheet : pmw mX7_sheet = [953, 951, 952, 65].filterMap (nthT lw_tbl) := by decide +kernel
theorem ku_X7_sheet : (plnks prog mX7_sheet ++ pmw mX7_sheet).all uword = true := by decide +kernel
theorem ok_X7_sheet : WFm prog mX7_sheet := WFm.of2 kb_X7_sheet kl_X7_sheet km_X7_sheet ku_X7_sheet
theorem kb_X7_mark : pwB prog mX7_mark = true := by decide +kernel
theorem kl_X7_mark : plnks prog mX7_mark = ([691, 352, 695, 699, 964, 965, 275, 674, 493, 966, 674, 970, 971, 348, 352, 966] : List Nat).filterMap (nthT lw_tbl) := by decide +kernel
theorem km_X7_mark : pmw mX7_mark = [963, 961, 962, 65].filterMap (nthT lw_tbl) := by decide +kernel
theorem ku_X7_mark : (plnks prog mX7_mark ++ pmw mX7_mark).all uword = true := by decide +kernel
theorem ok_X7_mark : WFm prog mX7_mark := WFm.of2 kb_X7_mark kl_X7_mark km_X7_mark ku_X7_mark
theorem kb_X7_pour : pwB prog mX7_pour = true := by decide +kernel
theorem kl_X7_pour : plnks prog mX7_pour = ([691, 352, 695, 699, 703, 976, 674, 311, 517, 311, 521] : List Nat).filterMap (nthT lw_tbl) := by decide +kernel
theorem km_X7_pour : pmw mX7_pour = [975, 973, 974, 65].filterMap (nthT lw_tbl) := by decide +kernel
theorem ku_X7_pour : (plnks prog mX7_pour ++ pmw mX7_pour).all uword = true := by decide +kernel
theorem ok_X7_pour : WFm prog mX7_pour := WFm.of2 kb_X7_pour kl_X7_pour km_X7_pour ku_X7_pour
theorem kb_X7_reads : pwB prog mX7_reads = true := by decide +kernel
theorem kl_X7_reads : plnks prog mX7_reads = ([691, 352, 695, 699, 277, 703, 311, 374, 674, 170, 674] : List Nat).filterMap (nthT lw_tbl) := by decide +kernel
theorem km_X7_reads : pmw mX7_reads = [980, 978, 979, 65].filterMap (nthT lw_tbl) := by decide +kernel
theorem ku_X7_reads : (plnks prog mX7_reads ++ pmw mX7_reads).all uword = true := by decide +kernel
theorem ok_X7_reads : WFm prog mX7_reads := WFm.of2 kb_X7_reads kl_X7_reads km_X7_reads ku_X7_reads
theorem kb_X7_copy : pwB prog mX7_copy = true := by decide +kernel
theorem kl_X7_copy : plnks prog mX7_copy = ([691, 691, 352, 695, 695, 699, 275, 275, 493, 985, 985, 965, 273, 273, 989, 664, 663, 77] : List Nat).filterMap (nthT lw_tbl) := by decide +kernel
theorem km_X7_copy : pmw mX7_copy = [984, 982, 983, 65].filterMap (nthT lw_tbl) := by decide +kernel
theorem ku_X7_copy : (plnks prog mX7_copy ++ pmw mX7_copy).all uword = true := by decide +kernel
theorem ok_X7_copy : WFm prog mX7_copy := WFm.of2 kb_X7_copy kl_X7_copy km_X7_copy ku_X7_copy
theorem kb_X7_lay : pwB prog mX7_lay = true := by decide +kernel
theorem kl_X7_lay : plnks prog mX7_lay = ([994, 348, 352, 311, 374, 691, 352, 695, 699, 299, 299, 295, 998, 297, 999, 300] : List Nat).filterMap (nthT lw_tbl) := by decide +kernel
theorem km_X7_lay : pmw mX7_lay = [993, 991, 992, 65].filterMap (nthT lw_tbl) := by decide +kernel
theorem ku_X7_lay : (plnks prog mX7_lay ++ pmw mX7_lay).all uword = true := by decide +kernel
theorem ok_X7_lay : WFm prog mX7_lay := WFm.of2 kb_X7_lay kl_X7_lay km_X7_lay ku_X7_lay
theorem kb_X7_ask : pwB prog mX7_ask = true := by decide +kernel
theorem kl_X7_ask : plnks prog mX7_ask = ([994, 345, 352, 299, 699, 299, 295, 487, 295, 452, 493] : List Nat).filterMap (nthT lw_tbl) := by decide +kernel
theorem km_X7_ask : pmw mX7_ask = [1007, 1005, 1006, 65].filterMap (nthT lw_tbl) := by decide +kernel
theorem ku_X7_ask : (plnks prog mX7_ask ++ pmw mX7_ask).all uword = true := by decide +kernel
theorem ok_X7_ask : WFm prog mX7_ask := WFm.of2 kb_X7_ask kl_X7_ask km_X7_ask ku_X7_ask
theorem kb_X7_item : pwB prog mX7_item = true := by decide +kernel
theorem kl_X7_item : plnks prog mX7_item = ([994, 352, 299, 699, 299, 493, 297, 964, 965, 297, 703, 674, 493] : List Nat).filterMap (nthT lw_tbl) := by decide +kernel
theorem km_X7_item : pmw mX7_item = [1011, 1009, 1010, 65].filterMap (nthT lw_tbl) := by decide +kernel
theorem ku_X7_item : (plnks prog mX7_item ++ pmw mX7_item).all uword = true := by decide +kernel
theorem ok_X7_item : WFm prog mX7_item := WFm.of2 kb_X7_item kl_X7_item km_X7_item ku_X7_item
theorem kb_X7_rest : pwB prog mX7_rest = true := by decide +kernel
theorem kl_X7_rest : plnks prog mX7_rest = ([994, 352, 299, 699, 299, 493, 1016, 300] : List Nat).filterMap (nthT lw_tbl) := by decide +kernel
theorem km_X7_rest : pmw mX7_rest = [1015, 1013, 1014, 65].filterMap (nthT lw_tbl) := by decide +kernel
theorem ku_X7_rest : (plnks prog mX7_rest ++ pmw mX7_rest).all uword = true := by decide +kernel
theorem ok_X7_rest : WFm prog mX7_rest := WFm.of2 kb_X7_rest kl_X7_rest km_X7_rest ku_X7_rest
theorem kb_X7_tell : pwB prog mX7_tell = true := by decide +kernel
theorem kl_X7_tell : plnks prog mX7_tell = ([318, 318, 317, 369, 317, 318, 318, 318, 318] : List Nat).filterMap (nthT lw_tbl) := by decide +kernel
theorem km_X7_tell : pmw mX7_tell = [1020, 1018, 1019, 65].filterMap (nthT lw_tbl) := by decide +kernel
theorem ku_X7_tell : (plnks prog mX7_tell ++ pmw mX7_tell).all uword = true := by decide +kernel
theorem ok_X7_tell : WFm prog mX7_tell := WFm.of2 kb_X7_tell kl_X7_tell km_X7_tell ku_X7_tell
theorem kb_X7_check : pwB prog mX7_check = true := by decide +kernel
theorem kl_X7_check : plnks prog mX7_check = ([318, 318, 348, 352, 319, 1016, 313, 312, 658, 312, 195, 438, 439, 75, 440, 313, 623, 313, 639, 313, 583, 591, 317, 317] : List Nat).filterMap (nthT lw_tbl) := by decide +kernel
theorem km_X7_check : pmw mX7_check = [1024, 1022, 1023, 65].filterMap (nthT lw_tbl) := by decide +kernel
theorem ku_X7_check : (plnks prog mX7_check ++ pmw mX7_check).all uword = true := by decide +kernel
theorem ok_X7_check : WFm prog mX7_check := WFm.of2 kb_X7_check kl_X7_check km_X7_check ku_X7_check
theorem kb_X7_keep : pwB prog mX7_keep = true := by decide +kernel
theorem kl_X7_keep : plnks prog mX7_keep = ([312, 311, 658, 319, 311, 190] : List Nat).filterMap (nthT lw_tbl) := by decide +kernel
theorem km_X7_keep : pmw mX7_keep = [1028, 1026, 1027, 65].filterMap (nthT lw_tbl) := by decide +kernel
theorem ku_X7_keep : (plnks prog mX7_keep ++ pmw mX7_keep).all uword = true := by decide +kernel
theorem ok_X7_keep : WFm prog mX7_keep := WFm.of2 kb_X7_keep kl_X7_keep km_X7_keep ku_X7_keep
theorem kb_X7_back : pwB prog mX7_back = true := by decide +kernel
theorem kl_X7_back : plnks prog mX7_back = ([319, 1016, 311, 312, 658, 311, 190] : List Nat).filterMap (nthT lw_tbl) := by decide +kernel
theorem km_X7_back : pmw mX7_back = [1032, 1030, 1031, 65].filterMap (nthT lw_tbl) := by decide +kernel
theorem ku_X7_back : (plnks prog mX7_back ++ pmw mX7_back).all uword = true := by decide +kernel
theorem ok_X7_back : WFm prog mX7_back := WFm.of2 kb_X7_back kl_X7_back km_X7_back ku_X7_back
theorem kb_X7_count : pwB prog mX7_count = true := by decide +kernel
theorem kl_X7_count : plnks prog mX7_count = ([311, 190, 311, 195, 311, 583, 591, 311, 192, 318, 314, 230, 311, 200, 352] : List Nat).filterMap (nthT lw_tbl) := by decide +kernel
theorem km_X7_count : pmw mX7_count = [1036, 1034, 1035, 65].filterMap (nthT lw_tbl) := by decide +kernel
theorem ku_X7_count : (plnks prog mX7_count ++ pmw mX7_count).all uword = true := by decide +kernel
theorem ok_X7_count : WFm prog mX7_count := WFm.of2 kb_X7_count kl_X7_count km_X7_count ku_X7_count
theorem kb_X7_within : pwB prog mX7_within = true := by decide +kernel
theorem kl_X7_within : plnks prog mX7_within = ([] : List Nat).filterMap (nthT lw_tbl) := by decide +kernel
theorem km_X7_within : pmw mX7_within = [350, 349, 65].filterMap (nthT lw_tbl) := by decide +kernel
theorem ku_X7_within : (plnks prog mX7_within ++ pmw mX7_within).all uword = true := by decide +kernel
theorem ok_X7_within : WFm prog mX7_within := WFm.of2 kb_X7_within kl_X7_within km_X7_within ku_X7_within
theorem kb_X7_held : pwB prog mX7_held = true := by decide +kernel
theorem kl_X7_held : plnks prog mX7_held = ([438, 439, 75, 440, 441, 442, 75, 443] : List Nat).filterMap (nthT lw_tbl) := by decide +kernel
theorem km_X7_held : pmw mX7_held = [437, 436, 65].filterMap (nthT lw_tbl) := by decide +kernel
theorem ku_X7_held : (plnks prog mX7_held ++ pmw mX7_held).all uword = true := by decide +kernel
theorem ok_X7_held : WFm prog mX7_held := WFm.of2 kb_X7_held kl_X7_held km_X7_held ku_X7_held
theorem kb_X7_isPlace : pwB prog mX7_isPlace = true := by decide +kernel
theorem kl_X7_isPlace : plnks prog mX7_isPlace = ([348] : List Nat).filterMap (nthT lw_tbl) := by decide +kernel
theorem km_X7_isPlace : pmw mX7_isPlace = [389, 388, 65].filterMap (nthT lw_tbl) := by decide +kernel
theorem ku_X7_isPlace : (plnks prog mX7_isPlace ++ pmw mX7_isPlace).all uword = true := by decide +kernel
theorem ok_X7_isPlace : WFm prog mX7_isPlace := WFm.of2 kb_X7_isPlace kl_X7_isPlace km_X7_isPlace ku_X7_isPlace
theorem kb_X7_isKind : pwB prog mX7_isKind = true := by decide +kernel
theorem kl_X7_isKind : plnks prog mX7_isKind = ([348] : List Nat).filterMap (nthT lw_tbl) := by decide +kernel
theorem km_X7_isKind : pmw mX7_isKind = [347, 346, 65].filterMap (nthT lw_tbl) := by decide +kernel
theorem ku_X7_isKind : (plnks prog mX7_isKind ++ pmw mX7_isKind).all uword = true := by decide +kernel
theorem ok_X7_isKind : WFm prog mX7_isKind := WFm.of2 kb_X7_isKind kl_X7_isKind km_X7_isKind ku_X7_isKind
theorem kb_X7_isSettable : pwB prog mX7_isSettable = true := by decide +kernel
theorem kl_X7_isSettable : plnks prog mX7_isSettable = ([348] : List Nat).filterMap (nthT lw_tbl) := by decide +kernel
theorem km_X7_isSettable : pmw mX7_isSettable = [458, 457, 65].filterMap (nthT lw_tbl) := by decide +kernel
theorem ku_X7_isSettable : (plnks prog mX7_isSettable ++ pmw mX7_isSettable).all uword = true := by decide +kernel
theorem ok_X7_isSettable : WFm prog mX7_isSettable := WFm.of2 kb_X7_isSettable kl_X7_isSettable km_X7_isSettable ku_X7_isSettable
theorem kb_X7_leastValue : pwB prog mX7_leastValue = true := by decide +kernel
theorem kl_X7_leastValue : plnks prog mX7_leastValue = ([] : List Nat).filterMap (nthT lw_tbl) := by decide +kernel
theorem km_X7_leastValue : pmw mX7_leastValue = [504, 503, 65].filterMap (nthT lw_tbl) := by decide +kernel
theorem ku_X7_leastValue : (plnks prog mX7_leastValue ++ pmw mX7_leastValue).all uword = true := by decide +kernel
theorem ok_X7_leastValue : WFm prog mX7_leastValue := WFm.of2 kb_X7_leastValue kl_X7_leastValue km_X7_leastValue ku_X7_leastValue
theorem kb_X7_mostValue : pwB prog mX7_mostValue = true := by decide +kernel
theorem kl_X7_mostValue : plnks prog mX7_mostValue = ([351] : List Nat).filterMap (nthT lw_tbl) := by decide +kernel
theorem km_X7_mostValue : pmw mX7_mostValue = [507, 506, 65].filterMap (nthT lw_tbl) := by decide +kernel
theorem ku_X7_mostValue : (plnks prog mX7_mostValue ++ pmw mX7_mostValue).all uword = true := by decide +kernel
theorem ok_X7_mostValue : WFm prog mX7_mostValue := WFm.of2 kb_X7_mostValue kl_X7_mostValue km_X7_mostValue ku_X7_mostValue
theorem kb_X7_isFewerOf : pwB prog mX7_isFewerOf = true := by decide +kernel
theorem kl_X7_isFewerOf : plnks prog mX7_isFewerOf = ([591, 591] : List Nat).filterMap (nthT lw_tbl) := by decide +kernel
theorem km_X7_isFewerOf : pmw mX7_isFewerOf = [590, 589, 65].filterMap (nthT lw_tbl) := by decide +kernel
theorem ku_X7_isFewerOf : (plnks prog mX7_isFewerOf ++ pmw mX7_isFewerOf).all uword = true := by decide +kernel
theorem ok_X7_isFewerOf : WFm prog mX7_isFewerOf := WFm.of2 kb_X7_isFewerOf kl_X7_isFewerOf km_X7_isFewerOf ku_X7_isFewerOf
theorem kb_X7_apart : pwB prog mX7_apart = true := by decide +kernel
theorem kl_X7_apart : plnks prog mX7_apart = ([277, 703, 674, 467, 712, 713, 75, 714] : List Nat).filterMap (nthT lw_tbl) := by decide +kernel
theorem km_X7_apart : pmw mX7_apart = [702, 701, 65].filterMap (nthT lw_tbl) := by decide +kernel
theorem ku_X7_apart : (plnks prog mX7_apart ++ pmw mX7_apart).all uword = true := by decide +kernel
theorem ok_X7_apart : WFm prog mX7_apart := WFm.of2 kb_X7_apart kl_X7_apart km_X7_apart ku_X7_apart
theorem kb_X7_rowOf : pwB prog mX7_rowOf = true := by decide +kernel
theorem kl_X7_rowOf : plnks prog mX7_rowOf = ([315, 315] : List Nat).filterMap (nthT lw_tbl) := by decide +kernel
theorem km_X7_rowOf : pmw mX7_rowOf = [694, 693, 4, 65].filterMap (nthT lw_tbl) := by decide +kernel
theorem ku_X7_rowOf : (plnks prog mX7_rowOf ++ pmw mX7_rowOf).all uword = true := by decide +kernel
theorem ok_X7_rowOf : WFm prog mX7_rowOf := WFm.of2 kb_X7_rowOf kl_X7_rowOf km_X7_rowOf ku_X7_rowOf
theorem kb_X7_slotOf : pwB prog mX7_slotOf = true := by decide +kernel
theorem kl_X7_slotOf : plnks prog mX7_slotOf = ([316, 316] : List Nat).filterMap (nthT lw_tbl) := by decide +kernel
theorem km_X7_slotOf : pmw mX7_slotOf = [997, 996, 19, 65].filterMap (nthT lw_tbl) := by decide +kernel
theorem ku_X7_slotOf : (plnks prog mX7_slotOf ++ pmw mX7_slotOf).all uword = true := by decide +kernel
theorem ok_X7_slotOf : WFm prog mX7_slotOf := WFm.of2 kb_X7_slotOf kl_X7_slotOf km_X7_slotOf ku_X7_slotOf
theorem kb_X8_init : pwB prog mX8_init = true := by decide +kernel
theorem kl_X8_init : plnks prog mX8_init = ([1042, 89, 90, 123, 1043, 123, 1044, 123, 1045, 123, 1047, 123, 1048, 123, 1049, 123, 1050, 123, 1051, 123, 1052, 123, 1053, 123, 1054, 123, 1055, 123, 1056, 123, 1057, 123, 1069, 123, 1070, 123, 1071, 123, 1072, 123, 1074, 1043, 1047] : List Nat).filterMap (nthT lw_tbl) := by decide +kernel
theorem km_X8_init : pmw mX8_init = [1041, 1040, 74].filterMap (nthT lw_tbl) := by decide +kernel
theorem ku_X8_init : (plnks prog mX8_init ++ pmw mX8_init).all uword = true := by decide +kernel
theorem ok_X8_init : WFm prog mX8_init := WFm.of2 kb_X8_init kl_X8_init km_X8_init ku_X8_init
