/-! ===== contracts checked, piece 1 (printed by program) ===== -/
set_option maxRecDepth 100000 in
set_option maxHeartbeats 40000000 in
theorem ck_r_set : kchk prog HT kc_r_set tb_r_set 97 170 k_r_set = true := by decide +kernel
set_option maxRecDepth 100000 in
set_option maxHeartbeats 40000000 in
theorem ck_r_carve : kchk prog HT kc_r_carve tb_r_carve 57 171 k_r_carve = true := by decide +kernel
set_option maxRecDepth 100000 in
set_option maxHeartbeats 40000000 in
theorem ck_r_carved : kchk prog HT kc_r_carved tb_r_carved 28 172 k_r_carved = true := by decide +kernel
set_option maxRecDepth 100000 in
set_option maxHeartbeats 40000000 in
theorem ck_r_deal : kchk prog HT kc_r_deal tb_r_deal 228 173 k_r_deal = true := by decide +kernel
set_option maxRecDepth 100000 in
set_option maxHeartbeats 40000000 in
theorem ck_r_seed : kchk prog HT kc_r_seed tb_r_seed 20 174 k_r_seed = true := by decide +kernel
set_option maxRecDepth 100000 in
set_option maxHeartbeats 40000000 in
theorem ck_r_falseAt : kchk prog HT kc_r_falseAt tb_r_falseAt 53 176 k_r_falseAt = true := by decide +kernel
set_option maxRecDepth 100000 in
set_option maxHeartbeats 40000000 in
theorem ck_r_fits : kchk prog HT kc_r_fits tb_r_fits 86 177 k_r_fits = true := by decide +kernel
set_option maxRecDepth 100000 in
set_option maxHeartbeats 40000000 in
theorem ck_r_join : kchk prog HT kc_r_join tb_r_join 116 179 k_r_join = true := by decide +kernel
set_option maxRecDepth 100000 in
set_option maxHeartbeats 40000000 in
theorem ck_r_clash : kchk prog HT kc_r_clash tb_r_clash 68 181 k_r_clash = true := by decide +kernel
set_option maxRecDepth 100000 in
set_option maxHeartbeats 40000000 in
theorem ck_r_undone : kchk prog HT kc_r_undone tb_r_undone 45 186 k_r_undone = true := by decide +kernel
set_option maxRecDepth 100000 in
set_option maxHeartbeats 40000000 in
theorem ck_r_borne : kchk prog HT kc_r_borne tb_r_borne 44 187 k_r_borne = true := by decide +kernel
set_option maxRecDepth 100000 in
set_option maxHeartbeats 40000000 in
theorem ck_r_look : kchk prog HT kc_r_look tb_r_look 41 189 k_r_look = true := by decide +kernel
set_option maxRecDepth 100000 in
set_option maxHeartbeats 40000000 in
theorem ck_r_tides : kchk prog HT kc_r_tides tb_r_tides 44 192 k_r_tides = true := by decide +kernel
set_option maxRecDepth 100000 in
set_option maxHeartbeats 40000000 in
theorem ck_r_book : kchk prog HT kc_r_book tb_r_book 14 194 k_r_book = true := by decide +kernel
set_option maxRecDepth 100000 in
set_option maxHeartbeats 40000000 in
theorem ck_r_whose : kchk prog HT kc_r_whose tb_r_whose 119 231 k_r_whose = true := by decide +kernel
set_option maxRecDepth 100000 in
set_option maxHeartbeats 40000000 in
theorem ck_r_feed : kchk prog HT kc_r_feed tb_r_feed 433 203 k_r_feed = true := by decide +kernel
set_option maxRecDepth 100000 in
set_option maxHeartbeats 40000000 in
theorem ck_r_trim : kchk prog HT kc_r_trim tb_r_trim 27 204 k_r_trim = true := by decide +kernel
set_option maxRecDepth 100000 in
set_option maxHeartbeats 40000000 in
theorem ck_r_textTold : kchk prog HT kc_r_textTold tb_r_textTold 62 221 k_r_textTold = true := by decide +kernel
