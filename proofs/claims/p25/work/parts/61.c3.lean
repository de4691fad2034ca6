/-! ===== checks of the tables, piece 3 (printed by program) ===== -/
theorem kb_X7_whose : pmB mX7_whose = true := by decide +kernel
theorem kd_X7_whose : dz_dchk (m_b mX7_whose) (m_code mX7_whose) (m_b mX7_whose).data.toList 0 = true := by decide +kernel
theorem ke_X7_whose : pwA3 prog mX7_whose (m_code mX7_whose) = true := by decide +kernel
theorem kx_X7_whose : cEqL (plnks prog mX7_whose ++ pmw mX7_whose) (([10, 3, 4, 11, 12, 6, 6, 2, 1, 2, 5, 13, 9, 7, 8, 0] : List Nat).filterMap (nthT (pkT lw_tbl 65 [124, 120, 36, 3, 21, 299, 13, 0, 0, 0, 3, 3, 0]))) = true := by decide +kernel
theorem ku_X7_whose : (plnks prog mX7_whose ++ pmw mX7_whose).all uword = true := by decide +kernel
theorem ok_X7_whose : WFm prog mX7_whose := WFm.of4 kb_X7_whose kd_X7_whose ke_X7_whose kx_X7_whose ku_X7_whose
theorem kb_X7_fee : pmB mX7_fee = true := by decide +kernel
theorem kd_X7_fee : dz_dchk (m_b mX7_fee) (m_code mX7_fee) (m_b mX7_fee).data.toList 0 = true := by decide +kernel
theorem ke_X7_fee : pwA3 prog mX7_fee (m_code mX7_fee) = true := by decide +kernel
theorem kx_X7_fee : cEqL (plnks prog mX7_fee ++ pmw mX7_fee) (([2, 2, 1, 6, 5, 3, 4, 0] : List Nat).filterMap (nthT (pkT lw_tbl 65 [132, 112, 404, 0, 0, 0]))) = true := by decide +kernel
theorem ku_X7_fee : (plnks prog mX7_fee ++ pmw mX7_fee).all uword = true := by decide +kernel
theorem ok_X7_fee : WFm prog mX7_fee := WFm.of4 kb_X7_fee kd_X7_fee ke_X7_fee kx_X7_fee ku_X7_fee
theorem kb_X7_fine : pmB mX7_fine = true := by decide +kernel
theorem kd_X7_fine : dz_dchk (m_b mX7_fine) (m_code mX7_fine) (m_b mX7_fine).data.toList 0 = true := by decide +kernel
theorem ke_X7_fine : pwA3 prog mX7_fine (m_code mX7_fine) = true := by decide +kernel
theorem kx_X7_fine : cEqL (plnks prog mX7_fine ++ pmw mX7_fine) (([2, 4, 3, 2, 1, 5, 8, 6, 7, 0] : List Nat).filterMap (nthT (pkT lw_tbl 65 [104, 140, 40, 21, 344, 1, 0, 0]))) = true := by decide +kernel
theorem ku_X7_fine : (plnks prog mX7_fine ++ pmw mX7_fine).all uword = true := by decide +kernel
theorem ok_X7_fine : WFm prog mX7_fine := WFm.of4 kb_X7_fine kd_X7_fine ke_X7_fine kx_X7_fine ku_X7_fine
theorem kb_X7_feed : pmB mX7_feed = true := by decide +kernel
theorem kd_X7_feed : dz_dchk (m_b mX7_feed) (m_code mX7_feed) (m_b mX7_feed).data.toList 0 = true := by decide +kernel
theorem ke_X7_feed : pwA3 prog mX7_feed (m_code mX7_feed) = true := by decide +kernel
theorem kx_X7_feed : cEqL (plnks prog mX7_feed ++ pmw mX7_feed) (([2, 7, 3, 2, 8, 2, 8, 2, 8, 2, 1, 6, 4, 5, 0] : List Nat).filterMap (nthT (pkT lw_tbl 65 [164, 83, 54, 355, 0, 0, 0, 3]))) = true := by decide +kernel
theorem ku_X7_feed : (plnks prog mX7_feed ++ pmw mX7_feed).all uword = true := by decide +kernel
theorem ok_X7_feed : WFm prog mX7_feed := WFm.of4 kb_X7_feed kd_X7_feed ke_X7_feed kx_X7_feed ku_X7_feed
theorem kb_X7_trim : pmB mX7_trim = true := by decide +kernel
theorem kd_X7_trim : dz_dchk (m_b mX7_trim) (m_code mX7_trim) (m_b mX7_trim).data.toList 0 = true := by decide +kernel
theorem ke_X7_trim : pwA3 prog mX7_trim (m_code mX7_trim) = true := by decide +kernel
theorem kx_X7_trim : cEqL (plnks prog mX7_trim ++ pmw mX7_trim) (([2, 1, 3, 4, 2, 1, 7, 5, 6, 0] : List Nat).filterMap (nthT (pkT lw_tbl 65 [164, 83, 33, 3, 384, 0, 0]))) = true := by decide +kernel
theorem ku_X7_trim : (plnks prog mX7_trim ++ pmw mX7_trim).all uword = true := by decide +kernel
theorem ok_X7_trim : WFm prog mX7_trim := WFm.of4 kb_X7_trim kd_X7_trim ke_X7_trim kx_X7_trim ku_X7_trim
theorem kb_X7_text : pmB mX7_text = true := by decide +kernel
theorem kd_X7_text : dz_dchk (m_b mX7_text) (m_code mX7_text) (m_b mX7_text).data.toList 0 = true := by decide +kernel
theorem ke_X7_text : pwA3 prog mX7_text (m_code mX7_text) = true := by decide +kernel
theorem kx_X7_text : cEqL (plnks prog mX7_text ++ pmw mX7_text) (([6, 4, 1, 11, 6, 3, 5, 2, 5, 12, 7, 10, 8, 9, 0] : List Nat).filterMap (nthT (pkT lw_tbl 65 [61, 64, 37, 79, 0, 2, 54, 371, 0, 0, 0, 184]))) = true := by decide +kernel
theorem ku_X7_text : (plnks prog mX7_text ++ pmw mX7_text).all uword = true := by decide +kernel
theorem ok_X7_text : WFm prog mX7_text := WFm.of4 kb_X7_text kd_X7_text ke_X7_text kx_X7_text ku_X7_text
theorem kb_X7_textTold : pmB mX7_textTold = true := by decide +kernel
theorem kd_X7_textTold : dz_dchk (m_b mX7_textTold) (m_code mX7_textTold) (m_b mX7_textTold).data.toList 0 = true := by decide +kernel
theorem ke_X7_textTold : pwA3 prog mX7_textTold (m_code mX7_textTold) = true := by decide +kernel
theorem kx_X7_textTold : cEqL (plnks prog mX7_textTold ++ pmw mX7_textTold) (([3, 9, 4, 5, 1, 2, 8, 6, 7, 0] : List Nat).filterMap (nthT (pkT lw_tbl 65 [44, 2, 197, 36, 3, 588, 0, 0, 0]))) = true := by decide +kernel
theorem ku_X7_textTold : (plnks prog mX7_textTold ++ pmw mX7_textTold).all uword = true := by decide +kernel
theorem ok_X7_textTold : WFm prog mX7_textTold := WFm.of4 kb_X7_textTold kd_X7_textTold ke_X7_textTold kx_X7_textTold ku_X7_textTold
theorem kb_X7_why : pmB mX7_why = true := by decide +kernel
theorem kd_X7_why : dz_dchk (m_b mX7_why) (m_code mX7_why) (m_b mX7_why).data.toList 0 = true := by decide +kernel
theorem ke_X7_why : pwA3 prog mX7_why (m_code mX7_why) = true := by decide +kernel
theorem kx_X7_why : cEqL (plnks prog mX7_why ++ pmw mX7_why) (([2, 1, 7, 3, 6, 4, 5, 0] : List Nat).filterMap (nthT (pkT lw_tbl 65 [245, 36, 3, 593, 0, 0, 0]))) = true := by decide +kernel
theorem ku_X7_why : (plnks prog mX7_why ++ pmw mX7_why).all uword = true := by decide +kernel
theorem ok_X7_why : WFm prog mX7_why := WFm.of4 kb_X7_why kd_X7_why ke_X7_why kx_X7_why ku_X7_why
theorem kb_X7_sheet : pmB mX7_sheet = true := by decide +kernel
theorem kd_X7_sheet : dz_dchk (m_b mX7_sheet) (m_code mX7_sheet) (m_b mX7_sheet).data.toList 0 = true := by decide +kernel
theorem ke_X7_sheet : pwA3 prog mX7_sheet (m_code mX7_sheet) = true := by decide +kernel
theorem kx_X7_sheet : cEqL (plnks prog mX7_sheet ++ pmw mX7_sheet) (([3, 1, 2, 7, 2, 8, 7, 6, 4, 5, 0] : List Nat).filterMap (nthT (pkT lw_tbl 65 [282, 3, 338, 259, 0, 0, 0, 4]))) = true := by decide +kernel
theorem ku_X7_sheet : (plnks prog mX7_sheet ++ pmw mX7_sheet).all uword = true := by decide +kernel
theorem ok_X7_sheet : WFm prog mX7_sheet := WFm.of4 kb_X7_sheet kd_X7_sheet ke_X7_sheet kx_X7_sheet ku_X7_sheet
theorem kb_X7_mark : pmB mX7_mark = true := by decide +kernel
theorem kd_X7_mark : dz_dchk (m_b mX7_mark) (m_code mX7_mark) (m_b mX7_mark).data.toList 0 = true := by decide +kernel
theorem ke_X7_mark : pwA3 prog mX7_mark (m_code mX7_mark) = true := by decide +kernel
theorem kx_X7_mark : cEqL (plnks prog mX7_mark ++ pmw mX7_mark) (([6, 3, 7, 8, 12, 13, 1, 5, 4, 14, 5, 15, 16, 2, 3, 14, 11, 9, 10, 0] : List Nat).filterMap (nthT (pkT lw_tbl 65 [209, 72, 3, 140, 180, 16, 3, 3, 261, 0, 0, 0, 0, 0, 3, 0]))) = true := by decide +kernel
theorem ku_X7_mark : (plnks prog mX7_mark ++ pmw mX7_mark).all uword = true := by decide +kernel
theorem ok_X7_mark : WFm prog mX7_mark := WFm.of4 kb_X7_mark kd_X7_mark ke_X7_mark kx_X7_mark ku_X7_mark
theorem kb_X7_pour : pmB mX7_pour = true := by decide +kernel
theorem kd_X7_pour : dz_dchk (m_b mX7_pour) (m_code mX7_pour) (m_b mX7_pour).data.toList 0 = true := by decide +kernel
theorem ke_X7_pour : pwA3 prog mX7_pour (m_code mX7_pour) = true := by decide +kernel
theorem kx_X7_pour : cEqL (plnks prog mX7_pour ++ pmw mX7_pour) (([6, 2, 7, 8, 9, 13, 5, 1, 3, 1, 4, 12, 10, 11, 0] : List Nat).filterMap (nthT (pkT lw_tbl 65 [245, 40, 164, 3, 152, 16, 3, 3, 3, 269, 0, 0, 0]))) = true := by decide +kernel
theorem ku_X7_pour : (plnks prog mX7_pour ++ pmw mX7_pour).all uword = true := by decide +kernel
theorem ok_X7_pour : WFm prog mX7_pour := WFm.of4 kb_X7_pour kd_X7_pour ke_X7_pour kx_X7_pour ku_X7_pour
theorem kb_X7_reads : pmB mX7_reads = true := by decide +kernel
theorem kd_X7_reads : dz_dchk (m_b mX7_reads) (m_code mX7_reads) (m_b mX7_reads).data.toList 0 = true := by decide +kernel
theorem ke_X7_reads : pwA3 prog mX7_reads (m_code mX7_reads) = true := by decide +kernel
theorem kx_X7_reads : cEqL (plnks prog mX7_reads ++ pmw mX7_reads) (([7, 4, 8, 9, 2, 10, 3, 5, 6, 1, 6, 13, 11, 12, 0] : List Nat).filterMap (nthT (pkT lw_tbl 65 [104, 106, 33, 40, 21, 299, 16, 3, 3, 3, 274, 0, 0]))) = true := by decide +kernel
theorem ku_X7_reads : (plnks prog mX7_reads ++ pmw mX7_reads).all uword = true := by decide +kernel
theorem ok_X7_reads : WFm prog mX7_reads := WFm.of4 kb_X7_reads kd_X7_reads ke_X7_reads kx_X7_reads ku_X7_reads
theorem kb_X7_copy : pmB mX7_copy = true := by decide +kernel
theorem kd_X7_copy : dz_dchk (m_b mX7_copy) (m_code mX7_copy) (m_b mX7_copy).data.toList 0 = true := by decide +kernel
theorem ke_X7_copy : pwA3 prog mX7_copy (m_code mX7_copy) = true := by decide +kernel
theorem kx_X7_copy : cEqL (plnks prog mX7_copy ++ pmw mX7_copy) (([8, 8, 4, 9, 9, 10, 3, 3, 5, 15, 15, 11, 2, 2, 16, 7, 6, 1, 14, 12, 13, 0] : List Nat).filterMap (nthT (pkT lw_tbl 65 [11, 195, 1, 76, 140, 169, 0, 26, 3, 3, 265, 16, 0, 0, 0, 3]))) = true := by decide +kernel
theorem ku_X7_copy : (plnks prog mX7_copy ++ pmw mX7_copy).all uword = true := by decide +kernel
theorem ok_X7_copy : WFm prog mX7_copy := WFm.of4 kb_X7_copy kd_X7_copy ke_X7_copy kx_X7_copy ku_X7_copy
theorem kb_X7_lay : pmB mX7_lay = true := by decide +kernel
theorem kd_X7_lay : dz_dchk (m_b mX7_lay) (m_code mX7_lay) (m_b mX7_lay).data.toList 0 = true := by decide +kernel
theorem ke_X7_lay : pwA3 prog mX7_lay (m_code mX7_lay) = true := by decide +kernel
theorem kx_X7_lay : cEqL (plnks prog mX7_lay ++ pmw mX7_lay) (([15, 6, 7, 5, 8, 9, 7, 10, 11, 3, 3, 1, 16, 2, 17, 4, 14, 12, 13, 0] : List Nat).filterMap (nthT (pkT lw_tbl 65 [229, 1, 1, 0, 10, 36, 3, 21, 316, 3, 3, 291, 0, 0, 0, 3, 0]))) = true := by decide +kernel
theorem ku_X7_lay : (plnks prog mX7_lay ++ pmw mX7_lay).all uword = true := by decide +kernel
theorem ok_X7_lay : WFm prog mX7_lay := WFm.of4 kb_X7_lay kd_X7_lay ke_X7_lay kx_X7_lay ku_X7_lay
theorem kb_X7_ask : pmB mX7_ask = true := by decide +kernel
theorem kd_X7_ask : dz_dchk (m_b mX7_ask) (m_code mX7_ask) (m_b mX7_ask).data.toList 0 = true := by decide +kernel
theorem ke_X7_ask : pwA3 prog mX7_ask (m_code mX7_ask) = true := by decide +kernel
theorem kx_X7_ask : cEqL (plnks prog mX7_ask ++ pmw mX7_ask) (([9, 3, 4, 2, 8, 2, 1, 6, 1, 5, 7, 12, 10, 11, 0] : List Nat).filterMap (nthT (pkT lw_tbl 65 [229, 3, 45, 6, 99, 34, 5, 205, 294, 10, 0, 0]))) = true := by decide +kernel
theorem ku_X7_ask : (plnks prog mX7_ask ++ pmw mX7_ask).all uword = true := by decide +kernel
theorem ok_X7_ask : WFm prog mX7_ask := WFm.of4 kb_X7_ask kd_X7_ask ke_X7_ask kx_X7_ask ku_X7_ask
theorem kb_X7_item : pmB mX7_item = true := by decide +kernel
theorem kd_X7_item : dz_dchk (m_b mX7_item) (m_code mX7_item) (m_b mX7_item).data.toList 0 = true := by decide +kernel
theorem ke_X7_item : pwA3 prog mX7_item (m_code mX7_item) = true := by decide +kernel
theorem kx_X7_item : cEqL (plnks prog mX7_item ++ pmw mX7_item) (([10, 3, 2, 6, 2, 4, 1, 8, 9, 1, 7, 5, 4, 13, 11, 12, 0] : List Nat).filterMap (nthT (pkT lw_tbl 65 [231, 1, 52, 140, 180, 24, 3, 260, 0, 28, 14, 0, 0]))) = true := by decide +kernel
theorem ku_X7_item : (plnks prog mX7_item ++ pmw mX7_item).all uword = true := by decide +kernel
theorem ok_X7_item : WFm prog mX7_item := WFm.of4 kb_X7_item kd_X7_item ke_X7_item kx_X7_item ku_X7_item
theorem kb_X7_rest : pmB mX7_rest = true := by decide +kernel
theorem kd_X7_rest : dz_dchk (m_b mX7_rest) (m_code mX7_rest) (m_b mX7_rest).data.toList 0 = true := by decide +kernel
theorem ke_X7_rest : pwA3 prog mX7_rest (m_code mX7_rest) = true := by decide +kernel
theorem kx_X7_rest : cEqL (plnks prog mX7_rest ++ pmw mX7_rest) (([6, 3, 1, 5, 1, 4, 10, 2, 9, 7, 8, 0] : List Nat).filterMap (nthT (pkT lw_tbl 65 [233, 0, 51, 140, 205, 294, 18, 0, 0, 0]))) = true := by decide +kernel
theorem ku_X7_rest : (plnks prog mX7_rest ++ pmw mX7_rest).all uword = true := by decide +kernel
theorem ok_X7_rest : WFm prog mX7_rest := WFm.of4 kb_X7_rest kd_X7_rest ke_X7_rest kx_X7_rest ku_X7_rest
theorem kb_X7_tell : pmB mX7_tell = true := by decide +kernel
theorem kd_X7_tell : dz_dchk (m_b mX7_tell) (m_code mX7_tell) (m_b mX7_tell).data.toList 0 = true := by decide +kernel
theorem ke_X7_tell : pwA3 prog mX7_tell (m_code mX7_tell) = true := by decide +kernel
theorem kx_X7_tell : cEqL (plnks prog mX7_tell ++ pmw mX7_tell) (([2, 2, 1, 3, 1, 2, 2, 2, 2, 6, 4, 5, 0] : List Nat).filterMap (nthT (pkT lw_tbl 65 [251, 0, 50, 648, 0, 0]))) = true := by decide +kernel
theorem ku_X7_tell : (plnks prog mX7_tell ++ pmw mX7_tell).all uword = true := by decide +kernel
theorem ok_X7_tell : WFm prog mX7_tell := WFm.of4 kb_X7_tell kd_X7_tell ke_X7_tell kx_X7_tell ku_X7_tell
theorem kb_X7_check : pmB mX7_check = true := by decide +kernel
theorem kd_X7_check : dz_dchk (m_b mX7_check) (m_code mX7_check) (m_b mX7_check).data.toList 0 = true := by decide +kernel
theorem ke_X7_check : pwA3 prog mX7_check (m_code mX7_check) = true := by decide +kernel
theorem kx_X7_check : cEqL (plnks prog mX7_check ++ pmw mX7_check) (([6, 6, 8, 9, 7, 18, 4, 3, 17, 3, 2, 10, 11, 1, 12, 4, 15, 4, 16, 4, 13, 14, 5, 5, 21, 19, 20, 0] : List Nat).filterMap (nthT (pkT lw_tbl 65 [9, 119, 116, 0, 3, 0, 0, 28, 3, 85, 0, 0, 142, 7, 31, 15, 18, 357, 5, 0, 0]))) = true := by decide +kernel
theorem ku_X7_check : (plnks prog mX7_check ++ pmw mX7_check).all uword = true := by decide +kernel
theorem ok_X7_check : WFm prog mX7_check := WFm.of4 kb_X7_check kd_X7_check ke_X7_check kx_X7_check ku_X7_check
theorem kb_X7_keep : pmB mX7_keep = true := by decide +kernel
theorem kd_X7_keep : dz_dchk (m_b mX7_keep) (m_code mX7_keep) (m_b mX7_keep).data.toList 0 = true := by decide +kernel
theorem ke_X7_keep : pwA3 prog mX7_keep (m_code mX7_keep) = true := by decide +kernel
theorem kx_X7_keep : cEqL (plnks prog mX7_keep ++ pmw mX7_keep) (([3, 2, 5, 4, 2, 1, 8, 6, 7, 0] : List Nat).filterMap (nthT (pkT lw_tbl 65 [124, 120, 0, 6, 338, 367, 0, 0]))) = true := by decide +kernel
theorem ku_X7_keep : (plnks prog mX7_keep ++ pmw mX7_keep).all uword = true := by decide +kernel
theorem ok_X7_keep : WFm prog mX7_keep := WFm.of4 kb_X7_keep kd_X7_keep ke_X7_keep kx_X7_keep ku_X7_keep
theorem kb_X7_back : pmB mX7_back = true := by decide +kernel
theorem kd_X7_back : dz_dchk (m_b mX7_back) (m_code mX7_back) (m_b mX7_back).data.toList 0 = true := by decide +kernel
theorem ke_X7_back : pwA3 prog mX7_back (m_code mX7_back) = true := by decide +kernel
theorem kx_X7_back : cEqL (plnks prog mX7_back ++ pmw mX7_back) (([4, 6, 2, 3, 5, 2, 1, 9, 7, 8, 0] : List Nat).filterMap (nthT (pkT lw_tbl 65 [124, 120, 0, 6, 338, 357, 13, 0, 0]))) = true := by decide +kernel
theorem ku_X7_back : (plnks prog mX7_back ++ pmw mX7_back).all uword = true := by decide +kernel
theorem ok_X7_back : WFm prog mX7_back := WFm.of4 kb_X7_back kd_X7_back ke_X7_back kx_X7_back ku_X7_back
theorem kb_X7_count : pmB mX7_count = true := by decide +kernel
theorem kd_X7_count : dz_dchk (m_b mX7_count) (m_code mX7_count) (m_b mX7_count).data.toList 0 = true := by decide +kernel
theorem ke_X7_count : pwA3 prog mX7_count (m_code mX7_count) = true := by decide +kernel
theorem kx_X7_count : cEqL (plnks prog mX7_count ++ pmw mX7_count) (([6, 1, 6, 3, 6, 10, 11, 6, 2, 8, 7, 5, 6, 4, 9, 14, 12, 13, 0] : List Nat).filterMap (nthT (pkT lw_tbl 65 [124, 1, 2, 4, 29, 80, 2, 3, 33, 230, 7, 442, 0, 0]))) = true := by decide +kernel
theorem ku_X7_count : (plnks prog mX7_count ++ pmw mX7_count).all uword = true := by decide +kernel
theorem ok_X7_count : WFm prog mX7_count := WFm.of4 kb_X7_count kd_X7_count ke_X7_count kx_X7_count ku_X7_count
theorem kb_X7_within : pmB mX7_within = true := by decide +kernel
theorem kd_X7_within : dz_dchk (m_b mX7_within) (m_code mX7_within) (m_b mX7_within).data.toList 0 = true := by decide +kernel
theorem ke_X7_within : pwA3 prog mX7_within (m_code mX7_within) = true := by decide +kernel
theorem kx_X7_within : cEqL (plnks prog mX7_within ++ pmw mX7_within) (([2, 1, 0] : List Nat).filterMap (nthT (pkT lw_tbl 65 [283, 0]))) = true := by decide +kernel
theorem ku_X7_within : (plnks prog mX7_within ++ pmw mX7_within).all uword = true := by decide +kernel
theorem ok_X7_within : WFm prog mX7_within := WFm.of4 kb_X7_within kd_X7_within ke_X7_within kx_X7_within ku_X7_within
theorem kb_X7_held : pmB mX7_held = true := by decide +kernel
theorem kd_X7_held : dz_dchk (m_b mX7_held) (m_code mX7_held) (m_b mX7_held).data.toList 0 = true := by decide +kernel
theorem ke_X7_held : pwA3 prog mX7_held (m_code mX7_held) = true := by decide +kernel
theorem kx_X7_held : cEqL (plnks prog mX7_held ++ pmw mX7_held) (([4, 5, 1, 6, 7, 8, 1, 9, 3, 2, 0] : List Nat).filterMap (nthT (pkT lw_tbl 65 [9, 360, 0, 0, 0, 0, 0, 0, 0]))) = true := by decide +kernel
theorem ku_X7_held : (plnks prog mX7_held ++ pmw mX7_held).all uword = true := by decide +kernel
theorem ok_X7_held : WFm prog mX7_held := WFm.of4 kb_X7_held kd_X7_held ke_X7_held kx_X7_held ku_X7_held
theorem kb_X7_isPlace : pmB mX7_isPlace = true := by decide +kernel
theorem kd_X7_isPlace : dz_dchk (m_b mX7_isPlace) (m_code mX7_isPlace) (m_b mX7_isPlace).data.toList 0 = true := by decide +kernel
theorem ke_X7_isPlace : pwA3 prog mX7_isPlace (m_code mX7_isPlace) = true := by decide +kernel
theorem kx_X7_isPlace : cEqL (plnks prog mX7_isPlace ++ pmw mX7_isPlace) (([1, 3, 2, 0] : List Nat).filterMap (nthT (pkT lw_tbl 65 [282, 39, 0]))) = true := by decide +kernel
theorem ku_X7_isPlace : (plnks prog mX7_isPlace ++ pmw mX7_isPlace).all uword = true := by decide +kernel
theorem ok_X7_isPlace : WFm prog mX7_isPlace := WFm.of4 kb_X7_isPlace kd_X7_isPlace ke_X7_isPlace kx_X7_isPlace ku_X7_isPlace
theorem kb_X7_isKind : pmB mX7_isKind = true := by decide +kernel
theorem kd_X7_isKind : dz_dchk (m_b mX7_isKind) (m_code mX7_isKind) (m_b mX7_isKind).data.toList 0 = true := by decide +kernel
theorem ke_X7_isKind : pwA3 prog mX7_isKind (m_code mX7_isKind) = true := by decide +kernel
theorem kx_X7_isKind : cEqL (plnks prog mX7_isKind ++ pmw mX7_isKind) (([3, 2, 1, 0] : List Nat).filterMap (nthT (pkT lw_tbl 65 [280, 0, 0]))) = true := by decide +kernel
theorem ku_X7_isKind : (plnks prog mX7_isKind ++ pmw mX7_isKind).all uword = true := by decide +kernel
theorem ok_X7_isKind : WFm prog mX7_isKind := WFm.of4 kb_X7_isKind kd_X7_isKind ke_X7_isKind kx_X7_isKind ku_X7_isKind
theorem kb_X7_isSettable : pmB mX7_isSettable = true := by decide +kernel
theorem kd_X7_isSettable : dz_dchk (m_b mX7_isSettable) (m_code mX7_isSettable) (m_b mX7_isSettable).data.toList 0 = true := by decide +kernel
theorem ke_X7_isSettable : pwA3 prog mX7_isSettable (m_code mX7_isSettable) = true := by decide +kernel
theorem kx_X7_isSettable : cEqL (plnks prog mX7_isSettable ++ pmw mX7_isSettable) (([1, 3, 2, 0] : List Nat).filterMap (nthT (pkT lw_tbl 65 [282, 108, 0]))) = true := by decide +kernel
theorem ku_X7_isSettable : (plnks prog mX7_isSettable ++ pmw mX7_isSettable).all uword = true := by decide +kernel
theorem ok_X7_isSettable : WFm prog mX7_isSettable := WFm.of4 kb_X7_isSettable kd_X7_isSettable ke_X7_isSettable kx_X7_isSettable ku_X7_isSettable
theorem kb_X7_leastValue : pmB mX7_leastValue = true := by decide +kernel
theorem kd_X7_leastValue : dz_dchk (m_b mX7_leastValue) (m_code mX7_leastValue) (m_b mX7_leastValue).data.toList 0 = true := by decide +kernel
theorem ke_X7_leastValue : pwA3 prog mX7_leastValue (m_code mX7_leastValue) = true := by decide +kernel
theorem kx_X7_leastValue : cEqL (plnks prog mX7_leastValue ++ pmw mX7_leastValue) (([2, 1, 0] : List Nat).filterMap (nthT (pkT lw_tbl 65 [437, 0]))) = true := by decide +kernel
theorem ku_X7_leastValue : (plnks prog mX7_leastValue ++ pmw mX7_leastValue).all uword = true := by decide +kernel
theorem ok_X7_leastValue : WFm prog mX7_leastValue := WFm.of4 kb_X7_leastValue kd_X7_leastValue ke_X7_leastValue kx_X7_leastValue ku_X7_leastValue
theorem kb_X7_mostValue : pmB mX7_mostValue = true := by decide +kernel
theorem kd_X7_mostValue : dz_dchk (m_b mX7_mostValue) (m_code mX7_mostValue) (m_b mX7_mostValue).data.toList 0 = true := by decide +kernel
theorem ke_X7_mostValue : pwA3 prog mX7_mostValue (m_code mX7_mostValue) = true := by decide +kernel
theorem kx_X7_mostValue : cEqL (plnks prog mX7_mostValue ++ pmw mX7_mostValue) (([1, 3, 2, 0] : List Nat).filterMap (nthT (pkT lw_tbl 65 [285, 154, 0]))) = true := by decide +kernel
theorem ku_X7_mostValue : (plnks prog mX7_mostValue ++ pmw mX7_mostValue).all uword = true := by decide +kernel
theorem ok_X7_mostValue : WFm prog mX7_mostValue := WFm.of4 kb_X7_mostValue kd_X7_mostValue ke_X7_mostValue kx_X7_mostValue ku_X7_mostValue
theorem kb_X7_isFewerOf : pmB mX7_isFewerOf = true := by decide +kernel
theorem kd_X7_isFewerOf : dz_dchk (m_b mX7_isFewerOf) (m_code mX7_isFewerOf) (m_b mX7_isFewerOf).data.toList 0 = true := by decide +kernel
theorem ke_X7_isFewerOf : pwA3 prog mX7_isFewerOf (m_code mX7_isFewerOf) = true := by decide +kernel
theorem kx_X7_isFewerOf : cEqL (plnks prog mX7_isFewerOf ++ pmw mX7_isFewerOf) (([3, 3, 2, 1, 0] : List Nat).filterMap (nthT (pkT lw_tbl 65 [523, 0, 0]))) = true := by decide +kernel
theorem ku_X7_isFewerOf : (plnks prog mX7_isFewerOf ++ pmw mX7_isFewerOf).all uword = true := by decide +kernel
theorem ok_X7_isFewerOf : WFm prog mX7_isFewerOf := WFm.of4 kb_X7_isFewerOf kd_X7_isFewerOf ke_X7_isFewerOf kx_X7_isFewerOf ku_X7_isFewerOf
theorem kb_X7_apart : pmB mX7_apart = true := by decide +kernel
theorem kd_X7_apart : dz_dchk (m_b mX7_apart) (m_code mX7_apart) (m_b mX7_apart).data.toList 0 = true := by decide +kernel
theorem ke_X7_apart : pwA3 prog mX7_apart (m_code mX7_apart) = true := by decide +kernel
theorem kx_X7_apart : cEqL (plnks prog mX7_apart ++ pmw mX7_apart) (([2, 7, 4, 3, 8, 9, 1, 10, 6, 5, 0] : List Nat).filterMap (nthT (pkT lw_tbl 65 [9, 201, 189, 206, 26, 0, 0, 8, 0, 0]))) = true := by decide +kernel
theorem ku_X7_apart : (plnks prog mX7_apart ++ pmw mX7_apart).all uword = true := by decide +kernel
theorem ok_X7_apart : WFm prog mX7_apart := WFm.of4 kb_X7_apart kd_X7_apart ke_X7_apart kx_X7_apart ku_X7_apart
theorem kb_X7_rowOf : pmB mX7_rowOf = true := by decide +kernel
theorem kd_X7_rowOf : dz_dchk (m_b mX7_rowOf) (m_code mX7_rowOf) (m_b mX7_rowOf).data.toList 0 = true := by decide +kernel
theorem ke_X7_rowOf : pwA3 prog mX7_rowOf (m_code mX7_rowOf) = true := by decide +kernel
theorem kx_X7_rowOf : cEqL (plnks prog mX7_rowOf ++ pmw mX7_rowOf) (([2, 2, 4, 3, 0, 1] : List Nat).filterMap (nthT (pkT lw_tbl 4 [60, 249, 377, 0]))) = true := by decide +kernel
theorem ku_X7_rowOf : (plnks prog mX7_rowOf ++ pmw mX7_rowOf).all uword = true := by decide +kernel
theorem ok_X7_rowOf : WFm prog mX7_rowOf := WFm.of4 kb_X7_rowOf kd_X7_rowOf ke_X7_rowOf kx_X7_rowOf ku_X7_rowOf
theorem kb_X7_slotOf : pmB mX7_slotOf = true := by decide +kernel
theorem kd_X7_slotOf : dz_dchk (m_b mX7_slotOf) (m_code mX7_slotOf) (m_b mX7_slotOf).data.toList 0 = true := by decide +kernel
theorem ke_X7_slotOf : pwA3 prog mX7_slotOf (m_code mX7_slotOf) = true := by decide +kernel
theorem kx_X7_slotOf : cEqL (plnks prog mX7_slotOf ++ pmw mX7_slotOf) (([2, 2, 4, 3, 0, 1] : List Nat).filterMap (nthT (pkT lw_tbl 19 [45, 250, 679, 0]))) = true := by decide +kernel
theorem ku_X7_slotOf : (plnks prog mX7_slotOf ++ pmw mX7_slotOf).all uword = true := by decide +kernel
theorem ok_X7_slotOf : WFm prog mX7_slotOf := WFm.of4 kb_X7_slotOf kd_X7_slotOf ke_X7_slotOf kx_X7_slotOf ku_X7_slotOf
theorem kb_X8_init : pmB mX8_init = true := by decide +kernel
theorem kd_X8_init : dz_dchk (m_b mX8_init) (m_code mX8_init) (m_b mX8_init).data.toList 0 = true := by decide +kernel
theorem ke_X8_init : pwA3 prog mX8_init (m_code mX8_init) = true := by decide +kernel
theorem kx_X8_init : cEqL (plnks prog mX8_init ++ pmw mX8_init) (([6, 1, 2, 3, 7, 3, 8, 3, 9, 3, 10, 3, 11, 3, 12, 3, 13, 3, 14, 3, 15, 3, 16, 3, 17, 3, 18, 3, 19, 3, 20, 3, 21, 3, 22, 3, 23, 3, 24, 3, 25, 7, 10, 5, 4, 0] : List Nat).filterMap (nthT (pkT lw_tbl 74 [14, 0, 32, 916, 0, 0, 0, 0, 0, 1, 0, 0, 0, 0, 0, 0, 0, 0, 0, 0, 11, 0, 0, 0, 1]))) = true := by decide +kernel
theorem ku_X8_init : (plnks prog mX8_init ++ pmw mX8_init).all uword = true := by decide +kernel
theorem ok_X8_init : WFm prog mX8_init := WFm.of4 kb_X8_init kd_X8_init ke_X8_init kx_X8_init ku_X8_init
