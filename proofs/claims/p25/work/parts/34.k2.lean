/-! ===== contracts checked, piece 2 (printed by program) ===== -/
set_option maxRecDepth 100000 in
set_option maxHeartbeats 40000000 in
theorem ck_r_why : kchk prog HT kc_r_why tb_r_why 31 223 k_r_why = true := by decide +kernel
set_option maxRecDepth 100000 in
set_option maxHeartbeats 40000000 in
theorem ck_r_sheet : kchk prog HT kc_r_sheet tb_r_sheet 79 227 k_r_sheet = true := by decide +kernel
set_option maxRecDepth 100000 in
set_option maxHeartbeats 40000000 in
theorem ck_r_mark : kchk prog HT kc_r_mark tb_r_mark 98 228 k_r_mark = true := by decide +kernel
set_option maxRecDepth 100000 in
set_option maxHeartbeats 40000000 in
theorem ck_r_pour : kchk prog HT kc_r_pour tb_r_pour 94 229 k_r_pour = true := by decide +kernel
set_option maxRecDepth 100000 in
set_option maxHeartbeats 40000000 in
theorem ck_r_reads : kchk prog HT kc_r_reads tb_r_reads 75 230 k_r_reads = true := by decide +kernel
set_option maxRecDepth 100000 in
set_option maxHeartbeats 40000000 in
theorem ck_r_lay : kchk prog HT kc_r_lay tb_r_lay 129 234 k_r_lay = true := by decide +kernel
set_option maxRecDepth 100000 in
set_option maxHeartbeats 40000000 in
theorem ck_r_ask : kchk prog HT kc_r_ask tb_r_ask 81 235 k_r_ask = true := by decide +kernel
set_option maxRecDepth 100000 in
set_option maxHeartbeats 40000000 in
theorem ck_r_item : kchk prog HT kc_r_item tb_r_item 67 236 k_r_item = true := by decide +kernel
set_option maxRecDepth 100000 in
set_option maxHeartbeats 40000000 in
theorem ck_r_rest : kchk prog HT kc_r_rest tb_r_rest 38 237 k_r_rest = true := by decide +kernel
set_option maxRecDepth 100000 in
set_option maxHeartbeats 40000000 in
theorem ck_r_tell : kchk prog HT kc_r_tell tb_r_tell 22 238 k_r_tell = true := by decide +kernel
set_option maxRecDepth 100000 in
set_option maxHeartbeats 40000000 in
theorem ck_r_count : kchk prog HT kc_r_count tb_r_count 10 243 k_r_count = true := by decide +kernel
