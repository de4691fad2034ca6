/-! ===== checks of the tables, piece 7 (printed by program) ===== -/
theorem kb_X8_reads : pmB mX8_reads = true := by decide +kernel
theorem kd_X8_reads : dz_dchk (m_b mX8_reads) (m_code mX8_reads) (m_b mX8_reads).data.toList 0 = true := by decide +kernel
theorem ke_X8_reads : pwA3 prog mX8_reads (m_code mX8_reads) = true := by decide +kernel
theorem kx_X8_reads : cEqL (plnks prog mX8_reads ++ pmw mX8_reads) (([8, 5, 2, 9, 3, 4, 7, 1, 6, 7, 12, 10, 11, 0] : List Nat).filterMap (nthT (pkT lw_tbl 74 [968, 3, 0, 0, 100, 17, 204, 109, 8, 8, 0, 0]))) = true := by decide +kernel
theorem ku_X8_reads : (plnks prog mX8_reads ++ pmw mX8_reads).all uword = true := by decide +kernel
theorem ok_X8_reads : WFm prog mX8_reads := WFm.of4 kb_X8_reads kd_X8_reads ke_X8_reads kx_X8_reads ku_X8_reads
theorem kb_X8_whose : pmB mX8_whose = true := by decide +kernel
theorem kd_X8_whose : dz_dchk (m_b mX8_whose) (m_code mX8_whose) (m_b mX8_whose).data.toList 0 = true := by decide +kernel
theorem ke_X8_whose : pwA3 prog mX8_whose (m_code mX8_whose) = true := by decide +kernel
theorem kx_X8_whose : cEqL (plnks prog mX8_whose ++ pmw mX8_whose) (([10, 5, 6, 2, 11, 1, 3, 4, 9, 7, 8, 15, 9, 14, 12, 13, 0] : List Nat).filterMap (nthT (pkT lw_tbl 74 [968, 3, 0, 0, 95, 4, 17, 46, 157, 109, 8, 12, 0, 0, 0]))) = true := by decide +kernel
theorem ku_X8_whose : (plnks prog mX8_whose ++ pmw mX8_whose).all uword = true := by decide +kernel
theorem ok_X8_whose : WFm prog mX8_whose := WFm.of4 kb_X8_whose kd_X8_whose ke_X8_whose kx_X8_whose ku_X8_whose
theorem kb_X8_copy : pmB mX8_copy = true := by decide +kernel
theorem kd_X8_copy : dz_dchk (m_b mX8_copy) (m_code mX8_copy) (m_b mX8_copy).data.toList 0 = true := by decide +kernel
theorem ke_X8_copy : pwA3 prog mX8_copy (m_code mX8_copy) = true := by decide +kernel
theorem kx_X8_copy : cEqL (plnks prog mX8_copy ++ pmw mX8_copy) (([7, 7, 5, 1, 1, 8, 1, 1, 6, 2, 2, 9, 4, 3, 3, 4, 12, 10, 11, 0] : List Nat).filterMap (nthT (pkT lw_tbl 74 [972, 0, 0, 21, 78, 78, 253, 8, 0, 18, 0, 0]))) = true := by decide +kernel
theorem ku_X8_copy : (plnks prog mX8_copy ++ pmw mX8_copy).all uword = true := by decide +kernel
theorem ok_X8_copy : WFm prog mX8_copy := WFm.of4 kb_X8_copy kd_X8_copy ke_X8_copy kx_X8_copy ku_X8_copy
theorem kb_X8_isSlot : pmB mX8_isSlot = true := by decide +kernel
theorem kd_X8_isSlot : dz_dchk (m_b mX8_isSlot) (m_code mX8_isSlot) (m_b mX8_isSlot).data.toList 0 = true := by decide +kernel
theorem ke_X8_isSlot : pwA3 prog mX8_isSlot (m_code mX8_isSlot) = true := by decide +kernel
theorem kx_X8_isSlot : cEqL (plnks prog mX8_isSlot ++ pmw mX8_isSlot) (([4, 1, 3, 2, 0] : List Nat).filterMap (nthT (pkT lw_tbl 74 [1070, 374, 0, 0]))) = true := by decide +kernel
theorem ku_X8_isSlot : (plnks prog mX8_isSlot ++ pmw mX8_isSlot).all uword = true := by decide +kernel
theorem ok_X8_isSlot : WFm prog mX8_isSlot := WFm.of4 kb_X8_isSlot kd_X8_isSlot ke_X8_isSlot kx_X8_isSlot ku_X8_isSlot
theorem kb_X8_lay : pmB mX8_lay = true := by decide +kernel
theorem kd_X8_lay : dz_dchk (m_b mX8_lay) (m_code mX8_lay) (m_b mX8_lay).data.toList 0 = true := by decide +kernel
theorem ke_X8_lay : pwA3 prog mX8_lay (m_code mX8_lay) = true := by decide +kernel
theorem kx_X8_lay : cEqL (plnks prog mX8_lay ++ pmw mX8_lay) (([10, 13, 18, 9, 1, 14, 4, 4, 5, 11, 6, 12, 7, 2, 8, 3, 17, 15, 16, 0] : List Nat).filterMap (nthT (pkT lw_tbl 74 [972, 0, 0, 0, 0, 0, 0, 0, 95, 13, 3, 38, 275, 8, 23, 0, 0, 0]))) = true := by decide +kernel
theorem ku_X8_lay : (plnks prog mX8_lay ++ pmw mX8_lay).all uword = true := by decide +kernel
theorem ok_X8_lay : WFm prog mX8_lay := WFm.of4 kb_X8_lay kd_X8_lay ke_X8_lay kx_X8_lay ku_X8_lay
theorem kb_X8_ask : pmB mX8_ask = true := by decide +kernel
theorem kd_X8_ask : dz_dchk (m_b mX8_ask) (m_code mX8_ask) (m_b mX8_ask).data.toList 0 = true := by decide +kernel
theorem ke_X8_ask : pwA3 prog mX8_ask (m_code mX8_ask) = true := by decide +kernel
theorem kx_X8_ask : cEqL (plnks prog mX8_ask ++ pmw mX8_ask) (([10, 4, 5, 6, 1, 9, 1, 2, 7, 3, 8, 13, 11, 12, 0] : List Nat).filterMap (nthT (pkT lw_tbl 74 [975, 0, 0, 91, 0, 4, 75, 2, 262, 26, 4, 0, 0]))) = true := by decide +kernel
theorem ku_X8_ask : (plnks prog mX8_ask ++ pmw mX8_ask).all uword = true := by decide +kernel
theorem ok_X8_ask : WFm prog mX8_ask := WFm.of4 kb_X8_ask kd_X8_ask ke_X8_ask kx_X8_ask ku_X8_ask
theorem kb_X8_item : pmB mX8_item = true := by decide +kernel
theorem kd_X8_item : dz_dchk (m_b mX8_item) (m_code mX8_item) (m_b mX8_item).data.toList 0 = true := by decide +kernel
theorem ke_X8_item : pwA3 prog mX8_item (m_code mX8_item) = true := by decide +kernel
theorem kx_X8_item : cEqL (plnks prog mX8_item ++ pmw mX8_item) (([10, 5, 1, 1, 8, 6, 2, 4, 9, 3, 7, 6, 13, 11, 12, 0] : List Nat).filterMap (nthT (pkT lw_tbl 74 [975, 2, 0, 90, 4, 78, 143, 118, 0, 25, 8, 0, 0]))) = true := by decide +kernel
theorem ku_X8_item : (plnks prog mX8_item ++ pmw mX8_item).all uword = true := by decide +kernel
theorem ok_X8_item : WFm prog mX8_item := WFm.of4 kb_X8_item kd_X8_item ke_X8_item kx_X8_item ku_X8_item
theorem kb_X8_rest : pmB mX8_rest = true := by decide +kernel
theorem kd_X8_rest : dz_dchk (m_b mX8_rest) (m_code mX8_rest) (m_b mX8_rest).data.toList 0 = true := by decide +kernel
theorem ke_X8_rest : pwA3 prog mX8_rest (m_code mX8_rest) = true := by decide +kernel
theorem kx_X8_rest : cEqL (plnks prog mX8_rest ++ pmw mX8_rest) (([6, 3, 1, 1, 5, 4, 10, 2, 9, 7, 8, 0] : List Nat).filterMap (nthT (pkT lw_tbl 74 [975, 0, 98, 78, 262, 26, 12, 0, 0, 0]))) = true := by decide +kernel
theorem ku_X8_rest : (plnks prog mX8_rest ++ pmw mX8_rest).all uword = true := by decide +kernel
theorem ok_X8_rest : WFm prog mX8_rest := WFm.of4 kb_X8_rest kd_X8_rest ke_X8_rest kx_X8_rest ku_X8_rest
theorem kb_X8_tell : pmB mX8_tell = true := by decide +kernel
theorem kd_X8_tell : dz_dchk (m_b mX8_tell) (m_code mX8_tell) (m_b mX8_tell).data.toList 0 = true := by decide +kernel
theorem ke_X8_tell : pwA3 prog mX8_tell (m_code mX8_tell) = true := by decide +kernel
theorem kx_X8_tell : cEqL (plnks prog mX8_tell ++ pmw mX8_tell) (([2, 3, 1, 2, 2, 2, 2, 6, 4, 5, 0] : List Nat).filterMap (nthT (pkT lw_tbl 74 [997, 0, 77, 385, 0, 0]))) = true := by decide +kernel
theorem ku_X8_tell : (plnks prog mX8_tell ++ pmw mX8_tell).all uword = true := by decide +kernel
theorem ok_X8_tell : WFm prog mX8_tell := WFm.of4 kb_X8_tell kd_X8_tell ke_X8_tell kx_X8_tell ku_X8_tell
theorem kb_X8_setAside : pmB mX8_setAside = true := by decide +kernel
theorem kd_X8_setAside : dz_dchk (m_b mX8_setAside) (m_code mX8_setAside) (m_b mX8_setAside).data.toList 0 = true := by decide +kernel
theorem ke_X8_setAside : pwA3 prog mX8_setAside (m_code mX8_setAside) = true := by decide +kernel
theorem kx_X8_setAside : cEqL (plnks prog mX8_setAside ++ pmw mX8_setAside) (([3, 2, 0, 1] : List Nat).filterMap (nthT (pkT lw_tbl 63 [10, 1472, 0]))) = true := by decide +kernel
theorem ku_X8_setAside : (plnks prog mX8_setAside ++ pmw mX8_setAside).all uword = true := by decide +kernel
theorem ok_X8_setAside : WFm prog mX8_setAside := WFm.of4 kb_X8_setAside kd_X8_setAside ke_X8_setAside kx_X8_setAside ku_X8_setAside
theorem kb_X8_check : pmB mX8_check = true := by decide +kernel
theorem kd_X8_check : dz_dchk (m_b mX8_check) (m_code mX8_check) (m_b mX8_check).data.toList 0 = true := by decide +kernel
theorem ke_X8_check : pwA3 prog mX8_check (m_code mX8_check) = true := by decide +kernel
theorem kx_X8_check : cEqL (plnks prog mX8_check ++ pmw mX8_check) (([6, 6, 18, 8, 9, 4, 14, 1, 3, 19, 2, 1, 19, 1, 12, 7, 13, 7, 10, 11, 3, 1, 19, 5, 7, 17, 15, 16, 0] : List Nat).filterMap (nthT (pkT lw_tbl 74 [968, 0, 0, 0, 25, 0, 0, 70, 4, 155, 3, 27, 7, 188, 5, 0, 0, 0, 0]))) = true := by decide +kernel
theorem ku_X8_check : (plnks prog mX8_check ++ pmw mX8_check).all uword = true := by decide +kernel
theorem ok_X8_check : WFm prog mX8_check := WFm.of4 kb_X8_check kd_X8_check ke_X8_check kx_X8_check ku_X8_check
theorem kb_X8_keep : pmB mX8_keep = true := by decide +kernel
theorem kd_X8_keep : dz_dchk (m_b mX8_keep) (m_code mX8_keep) (m_b mX8_keep).data.toList 0 = true := by decide +kernel
theorem ke_X8_keep : pwA3 prog mX8_keep (m_code mX8_keep) = true := by decide +kernel
theorem kx_X8_keep : cEqL (plnks prog mX8_keep ++ pmw mX8_keep) (([3, 1, 2, 4, 1, 7, 5, 6, 0] : List Nat).filterMap (nthT (pkT lw_tbl 74 [968, 0, 1, 498, 4, 0, 0]))) = true := by decide +kernel
theorem ku_X8_keep : (plnks prog mX8_keep ++ pmw mX8_keep).all uword = true := by decide +kernel
theorem ok_X8_keep : WFm prog mX8_keep := WFm.of4 kb_X8_keep kd_X8_keep ke_X8_keep kx_X8_keep ku_X8_keep
theorem kb_X8_back : pmB mX8_back = true := by decide +kernel
theorem kd_X8_back : dz_dchk (m_b mX8_back) (m_code mX8_back) (m_b mX8_back).data.toList 0 = true := by decide +kernel
theorem ke_X8_back : pwA3 prog mX8_back (m_code mX8_back) = true := by decide +kernel
theorem kx_X8_back : cEqL (plnks prog mX8_back ++ pmw mX8_back) (([3, 4, 2, 1, 5, 1, 8, 6, 7, 0] : List Nat).filterMap (nthT (pkT lw_tbl 74 [968, 0, 1, 488, 9, 8, 0, 0]))) = true := by decide +kernel
theorem ku_X8_back : (plnks prog mX8_back ++ pmw mX8_back).all uword = true := by decide +kernel
theorem ok_X8_back : WFm prog mX8_back := WFm.of4 kb_X8_back kd_X8_back ke_X8_back kx_X8_back ku_X8_back
theorem kb_X8_count : pmB mX8_count = true := by decide +kernel
theorem kd_X8_count : dz_dchk (m_b mX8_count) (m_code mX8_count) (m_b mX8_count).data.toList 0 = true := by decide +kernel
theorem ke_X8_count : pwA3 prog mX8_count (m_code mX8_count) = true := by decide +kernel
theorem kx_X8_count : cEqL (plnks prog mX8_count ++ pmw mX8_count) (([1, 1, 5, 6, 1, 3, 2, 1, 4, 9, 7, 8, 0] : List Nat).filterMap (nthT (pkT lw_tbl 74 [968, 14, 14, 76, 155, 3, 247, 0, 0]))) = true := by decide +kernel
theorem ku_X8_count : (plnks prog mX8_count ++ pmw mX8_count).all uword = true := by decide +kernel
theorem ok_X8_count : WFm prog mX8_count := WFm.of4 kb_X8_count kd_X8_count ke_X8_count kx_X8_count ku_X8_count
theorem kb_J6_bitCount_0f7a4 : pmB mJ6_bitCount_0f7a4 = true := by decide +kernel
theorem kd_J6_bitCount_0f7a4 : dz_dchk (m_b mJ6_bitCount_0f7a4) (m_code mJ6_bitCount_0f7a4) (m_b mJ6_bitCount_0f7a4).data.toList 0 = true := by decide +kernel
theorem ke_J6_bitCount_0f7a4 : pwA3 prog mJ6_bitCount_0f7a4 (m_code mJ6_bitCount_0f7a4) = true := by decide +kernel
theorem kx_J6_bitCount_0f7a4 : cEqL (plnks prog mJ6_bitCount_0f7a4 ++ pmw mJ6_bitCount_0f7a4) (([3, 4, 4, 5, 2, 1, 0] : List Nat).filterMap (nthT (pkT lw_tbl 76 [515, 0, 0, 0, 0]))) = true := by decide +kernel
theorem ku_J6_bitCount_0f7a4 : (plnks prog mJ6_bitCount_0f7a4 ++ pmw mJ6_bitCount_0f7a4).all uword = true := by decide +kernel
theorem ok_J6_bitCount_0f7a4 : WFm prog mJ6_bitCount_0f7a4 := WFm.of4 kb_J6_bitCount_0f7a4 kd_J6_bitCount_0f7a4 ke_J6_bitCount_0f7a4 kx_J6_bitCount_0f7a4 ku_J6_bitCount_0f7a4
theorem kb_J7_fill_53178 : pmB mJ7_fill_53178 = true := by decide +kernel
theorem kd_J7_fill_53178 : dz_dchk (m_b mJ7_fill_53178) (m_code mJ7_fill_53178) (m_b mJ7_fill_53178).data.toList 0 = true := by decide +kernel
theorem ke_J7_fill_53178 : pwA3 prog mJ7_fill_53178 (m_code mJ7_fill_53178) = true := by decide +kernel
theorem kx_J7_fill_53178 : cEqL (plnks prog mJ7_fill_53178 ++ pmw mJ7_fill_53178) (([2, 1, 0] : List Nat).filterMap (nthT (pkT lw_tbl 69 [79, 0]))) = true := by decide +kernel
theorem ku_J7_fill_53178 : (plnks prog mJ7_fill_53178 ++ pmw mJ7_fill_53178).all uword = true := by decide +kernel
theorem ok_J7_fill_53178 : WFm prog mJ7_fill_53178 := WFm.of4 kb_J7_fill_53178 kd_J7_fill_53178 ke_J7_fill_53178 kx_J7_fill_53178 ku_J7_fill_53178
