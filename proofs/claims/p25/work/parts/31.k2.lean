/-! ===== contracts checked, piece 2 (printed by program) ===== -/
set_option maxRecDepth 100000 in
set_option maxHeartbeats 40000000 in
theorem ck_c_book : kchk prog HT kc_c_book tb_c_book 18 104 k_c_book = true := by decide +kernel
set_option maxRecDepth 100000 in
set_option maxHeartbeats 40000000 in
theorem ck_c_behind : kchk prog HT kc_c_behind tb_c_behind 79 105 k_c_behind = true := by decide +kernel
set_option maxRecDepth 100000 in
set_option maxHeartbeats 40000000 in
theorem ck_c_lasts : kchk prog HT kc_c_lasts tb_c_lasts 25 106 k_c_lasts = true := by decide +kernel
set_option maxRecDepth 100000 in
set_option maxHeartbeats 40000000 in
theorem ck_c_best : kchk prog HT kc_c_best tb_c_best 145 107 k_c_best = true := by decide +kernel
set_option maxRecDepth 100000 in
set_option maxHeartbeats 40000000 in
theorem ck_c_taught : kchk prog HT kc_c_taught tb_c_taught 102 108 k_c_taught = true := by decide +kernel
set_option maxRecDepth 100000 in
set_option maxHeartbeats 40000000 in
theorem ck_apart : kchk prog HT kc_apart tb_apart 57 139 k_apart = true := by decide +kernel
set_option maxRecDepth 100000 in
set_option maxHeartbeats 40000000 in
theorem ck_c_whose : kchk prog HT kc_c_whose tb_c_whose 93 109 k_c_whose = true := by decide +kernel
set_option maxRecDepth 100000 in
set_option maxHeartbeats 40000000 in
theorem ck_c_fine : kchk prog HT kc_c_fine tb_c_fine 86 111 k_c_fine = true := by decide +kernel
set_option maxRecDepth 100000 in
set_option maxHeartbeats 40000000 in
theorem ck_c_feed : kchk prog HT kc_c_feed tb_c_feed 396 112 k_c_feed = true := by decide +kernel
set_option maxRecDepth 100000 in
set_option maxHeartbeats 40000000 in
theorem ck_c_trim : kchk prog HT kc_c_trim tb_c_trim 25 113 k_c_trim = true := by decide +kernel
set_option maxRecDepth 100000 in
set_option maxHeartbeats 40000000 in
theorem ck_c_textTold : kchk prog HT kc_c_textTold tb_c_textTold 53 115 k_c_textTold = true := by decide +kernel
set_option maxRecDepth 100000 in
set_option maxHeartbeats 40000000 in
theorem ck_c_why : kchk prog HT kc_c_why tb_c_why 36 116 k_c_why = true := by decide +kernel
set_option maxRecDepth 100000 in
set_option maxHeartbeats 40000000 in
theorem ck_c_sheet : kchk prog HT kc_c_sheet tb_c_sheet 286 117 k_c_sheet = true := by decide +kernel
set_option maxRecDepth 100000 in
set_option maxHeartbeats 40000000 in
theorem ck_c_mark : kchk prog HT kc_c_mark tb_c_mark 94 118 k_c_mark = true := by decide +kernel
set_option maxRecDepth 100000 in
set_option maxHeartbeats 40000000 in
theorem ck_c_pour : kchk prog HT kc_c_pour tb_c_pour 122 119 k_c_pour = true := by decide +kernel
set_option maxRecDepth 100000 in
set_option maxHeartbeats 40000000 in
theorem ck_c_reads : kchk prog HT kc_c_reads tb_c_reads 100 120 k_c_reads = true := by decide +kernel
set_option maxRecDepth 100000 in
set_option maxHeartbeats 40000000 in
theorem ck_c_copy : kchk prog HT kc_c_copy tb_c_copy 130 121 k_c_copy = true := by decide +kernel
set_option maxRecDepth 100000 in
set_option maxHeartbeats 40000000 in
theorem ck_c_lay : kchk prog HT kc_c_lay tb_c_lay 135 122 k_c_lay = true := by decide +kernel
set_option maxRecDepth 100000 in
set_option maxHeartbeats 40000000 in
theorem ck_c_fee : kchk prog HT kc_c_fee tb_c_fee 63 110 k_c_fee = true := by decide +kernel
set_option maxRecDepth 100000 in
set_option maxHeartbeats 40000000 in
theorem ck_c_ask : kchk prog HT kc_c_ask tb_c_ask 56 123 k_c_ask = true := by decide +kernel
set_option maxRecDepth 100000 in
set_option maxHeartbeats 40000000 in
theorem ck_c_as : kchk prog HT kc_c_as tb_c_as 52 89 k_c_as = true := by decide +kernel
set_option maxRecDepth 100000 in
set_option maxHeartbeats 40000000 in
theorem ck_c_item : kchk prog HT kc_c_item tb_c_item 78 124 k_c_item = true := by decide +kernel
set_option maxRecDepth 100000 in
set_option maxHeartbeats 40000000 in
theorem ck_c_rest : kchk prog HT kc_c_rest tb_c_rest 36 125 k_c_rest = true := by decide +kernel
set_option maxRecDepth 100000 in
set_option maxHeartbeats 40000000 in
theorem ck_c_tell : kchk prog HT kc_c_tell tb_c_tell 27 126 k_c_tell = true := by decide +kernel
set_option maxRecDepth 100000 in
set_option maxHeartbeats 40000000 in
theorem ck_c_check : kchk prog HT kc_c_check tb_c_check 124 127 k_c_check = true := by decide +kernel
set_option maxRecDepth 100000 in
set_option maxHeartbeats 40000000 in
theorem ck_c_keep : kchk prog HT kc_c_keep tb_c_keep 15 128 k_c_keep = true := by decide +kernel
set_option maxRecDepth 100000 in
set_option maxHeartbeats 40000000 in
theorem ck_c_back : kchk prog HT kc_c_back tb_c_back 15 129 k_c_back = true := by decide +kernel
set_option maxRecDepth 100000 in
set_option maxHeartbeats 40000000 in
theorem ck_c_count : kchk prog HT kc_c_count tb_c_count 52 130 k_c_count = true := by decide +kernel
set_option maxRecDepth 100000 in
set_option maxHeartbeats 40000000 in
theorem ck_add : kchk prog HT kc_add tb_add 25 2 k_add = true := by decide +kernel
set_option maxRecDepth 100000 in
set_option maxHeartbeats 40000000 in
theorem ck_unwind : kchk prog HT kc_unwind tb_unwind 65 29 k_unwind = true := by decide +kernel
