/-! ===== contracts checked, piece 3 (printed by program) ===== -/
set_option maxRecDepth 100000 in
set_option maxHeartbeats 40000000 in
theorem ck_endPiece : kchk prog HT kc_endPiece tb_endPiece 66 28 k_endPiece = true := by decide +kernel
set_option maxRecDepth 100000 in
set_option maxHeartbeats 40000000 in
theorem ck_nextWord : kchk prog HT kc_nextWord tb_nextWord 174 16 k_nextWord = true := by decide +kernel
set_option maxRecDepth 100000 in
set_option maxHeartbeats 40000000 in
theorem ck_numberRead : kchk prog HT kc_numberRead tb_numberRead 50 24 k_numberRead = true := by decide +kernel
set_option maxRecDepth 100000 in
set_option maxHeartbeats 40000000 in
theorem ck_takePiece : kchk prog HT kc_takePiece tb_takePiece 29 23 k_takePiece = true := by decide +kernel
set_option maxRecDepth 100000 in
set_option maxHeartbeats 40000000 in
theorem ck_takeAhead : kchk prog HT kc_takeAhead tb_takeAhead 46 26 k_takeAhead = true := by decide +kernel
set_option maxRecDepth 100000 in
set_option maxHeartbeats 40000000 in
theorem ck_takeBehind : kchk prog HT kc_takeBehind tb_takeBehind 85 27 k_takeBehind = true := by decide +kernel
set_option maxRecDepth 100000 in
set_option maxHeartbeats 40000000 in
theorem ck_goesOn : kchk prog HT kc_goesOn tb_goesOn 35 22 k_goesOn = true := by decide +kernel
set_option maxRecDepth 100000 in
set_option maxHeartbeats 40000000 in
theorem ck_readInto : kchk prog HT kc_readInto tb_readInto 64 15 k_readInto = true := by decide +kernel
set_option maxRecDepth 100000 in
set_option maxHeartbeats 40000000 in
theorem ck_addText : kchk prog HT kc_addText tb_addText 79 84 k_addText = true := by decide +kernel
set_option maxRecDepth 100000 in
set_option maxHeartbeats 40000000 in
theorem ck_c_text : kchk prog HT kc_c_text tb_c_text 26 114 k_c_text = true := by decide +kernel
