/-! ===== contracts checked, piece 1 (printed by program) ===== -/
set_option maxRecDepth 100000 in
set_option maxHeartbeats 40000000 in
theorem ck_falsehood34 : kchk prog HT kc_falsehood34 tb_falsehood34 43 70 k_falsehood34 = true := by decide +kernel
set_option maxRecDepth 100000 in
set_option maxHeartbeats 40000000 in
theorem ck_trustOfAll34 : kchk prog HT kc_trustOfAll34 tb_trustOfAll34 47 71 k_trustOfAll34 = true := by decide +kernel
set_option maxRecDepth 100000 in
set_option maxHeartbeats 40000000 in
theorem ck_laidSet34 : kchk prog HT kc_laidSet34 tb_laidSet34 54 72 k_laidSet34 = true := by decide +kernel
set_option maxRecDepth 100000 in
set_option maxHeartbeats 40000000 in
theorem ck_coveredBy34 : kchk prog HT kc_coveredBy34 tb_coveredBy34 50 73 k_coveredBy34 = true := by decide +kernel
set_option maxRecDepth 100000 in
set_option maxHeartbeats 40000000 in
theorem ck_deniers34 : kchk prog HT kc_deniers34 tb_deniers34 66 77 k_deniers34 = true := by decide +kernel
set_option maxRecDepth 100000 in
set_option maxHeartbeats 40000000 in
theorem ck_gainOf34 : kchk prog HT kc_gainOf34 tb_gainOf34 71 80 k_gainOf34 = true := by decide +kernel
set_option maxRecDepth 100000 in
set_option maxHeartbeats 40000000 in
theorem ck_seeAgain34 : kchk prog HT kc_seeAgain34 tb_seeAgain34 53 79 k_seeAgain34 = true := by decide +kernel
set_option maxRecDepth 100000 in
set_option maxHeartbeats 40000000 in
theorem ck_flow34 : kchk prog HT kc_flow34 tb_flow34 68 78 k_flow34 = true := by decide +kernel
set_option maxRecDepth 100000 in
set_option maxHeartbeats 40000000 in
theorem ck_falsehood62 : kchk prog HT kc_falsehood62 tb_falsehood62 43 70 k_falsehood62 = true := by decide +kernel
set_option maxRecDepth 100000 in
set_option maxHeartbeats 40000000 in
theorem ck_trustOfAll62 : kchk prog HT kc_trustOfAll62 tb_trustOfAll62 47 71 k_trustOfAll62 = true := by decide +kernel
set_option maxRecDepth 100000 in
set_option maxHeartbeats 40000000 in
theorem ck_laidSet62 : kchk prog HT kc_laidSet62 tb_laidSet62 54 72 k_laidSet62 = true := by decide +kernel
set_option maxRecDepth 100000 in
set_option maxHeartbeats 40000000 in
theorem ck_coveredBy62 : kchk prog HT kc_coveredBy62 tb_coveredBy62 50 73 k_coveredBy62 = true := by decide +kernel
set_option maxRecDepth 100000 in
set_option maxHeartbeats 40000000 in
theorem ck_deniers62 : kchk prog HT kc_deniers62 tb_deniers62 66 77 k_deniers62 = true := by decide +kernel
set_option maxRecDepth 100000 in
set_option maxHeartbeats 40000000 in
theorem ck_gainOf62 : kchk prog HT kc_gainOf62 tb_gainOf62 71 80 k_gainOf62 = true := by decide +kernel
set_option maxRecDepth 100000 in
set_option maxHeartbeats 40000000 in
theorem ck_seeAgain62 : kchk prog HT kc_seeAgain62 tb_seeAgain62 53 79 k_seeAgain62 = true := by decide +kernel
set_option maxRecDepth 100000 in
set_option maxHeartbeats 40000000 in
theorem ck_flow62 : kchk prog HT kc_flow62 tb_flow62 68 78 k_flow62 = true := by decide +kernel
set_option maxRecDepth 100000 in
set_option maxHeartbeats 40000000 in
theorem ck_take62_34 : kchk prog HT kc_take62_34 tb_take62_34 121 61 k_take62_34 = true := by decide +kernel
set_option maxRecDepth 100000 in
set_option maxHeartbeats 40000000 in
theorem ck_take62_48 : kchk prog HT kc_take62_48 tb_take62_48 121 61 k_take62_48 = true := by decide +kernel
set_option maxRecDepth 100000 in
set_option maxHeartbeats 40000000 in
theorem ck_take48_34 : kchk prog HT kc_take48_34 tb_take48_34 121 61 k_take48_34 = true := by decide +kernel
set_option maxRecDepth 100000 in
set_option maxHeartbeats 40000000 in
theorem ck_take34_48 : kchk prog HT kc_take34_48 tb_take34_48 121 61 k_take34_48 = true := by decide +kernel
set_option maxRecDepth 100000 in
set_option maxHeartbeats 40000000 in
theorem ck_noteClashes : kchk prog HT kc_noteClashes tb_noteClashes 93 75 k_noteClashes = true := by decide +kernel
set_option maxRecDepth 100000 in
set_option maxHeartbeats 40000000 in
theorem ck_anyClash : kchk prog HT kc_anyClash tb_anyClash 32 76 k_anyClash = true := by decide +kernel
set_option maxRecDepth 100000 in
set_option maxHeartbeats 40000000 in
theorem ck_c_rubbing : kchk prog HT kc_c_rubbing tb_c_rubbing 125 86 k_c_rubbing = true := by decide +kernel
set_option maxRecDepth 100000 in
set_option maxHeartbeats 40000000 in
theorem ck_c_told : kchk prog HT kc_c_told tb_c_told 51 87 k_c_told = true := by decide +kernel
set_option maxRecDepth 100000 in
set_option maxHeartbeats 40000000 in
theorem ck_c_says : kchk prog HT kc_c_says tb_c_says 49 88 k_c_says = true := by decide +kernel
set_option maxRecDepth 100000 in
set_option maxHeartbeats 40000000 in
theorem ck_c_turns : kchk prog HT kc_c_turns tb_c_turns 52 90 k_c_turns = true := by decide +kernel
set_option maxRecDepth 100000 in
set_option maxHeartbeats 40000000 in
theorem ck_c_set : kchk prog HT kc_c_set tb_c_set 87 91 k_c_set = true := by decide +kernel
set_option maxRecDepth 100000 in
set_option maxHeartbeats 40000000 in
theorem ck_c_carve : kchk prog HT kc_c_carve tb_c_carve 72 92 k_c_carve = true := by decide +kernel
set_option maxRecDepth 100000 in
set_option maxHeartbeats 40000000 in
theorem ck_c_carved : kchk prog HT kc_c_carved tb_c_carved 39 93 k_c_carved = true := by decide +kernel
set_option maxRecDepth 100000 in
set_option maxHeartbeats 40000000 in
theorem ck_c_deal : kchk prog HT kc_c_deal tb_c_deal 161 94 k_c_deal = true := by decide +kernel
set_option maxRecDepth 100000 in
set_option maxHeartbeats 40000000 in
theorem ck_c_seed : kchk prog HT kc_c_seed tb_c_seed 13 95 k_c_seed = true := by decide +kernel
set_option maxRecDepth 100000 in
set_option maxHeartbeats 40000000 in
theorem ck_c_falseAt : kchk prog HT kc_c_falseAt tb_c_falseAt 51 96 k_c_falseAt = true := by decide +kernel
set_option maxRecDepth 100000 in
set_option maxHeartbeats 40000000 in
theorem ck_c_fits : kchk prog HT kc_c_fits tb_c_fits 74 97 k_c_fits = true := by decide +kernel
set_option maxRecDepth 100000 in
set_option maxHeartbeats 40000000 in
theorem ck_c_join : kchk prog HT kc_c_join tb_c_join 97 98 k_c_join = true := by decide +kernel
set_option maxRecDepth 100000 in
set_option maxHeartbeats 40000000 in
theorem ck_c_clash : kchk prog HT kc_c_clash tb_c_clash 61 99 k_c_clash = true := by decide +kernel
set_option maxRecDepth 100000 in
set_option maxHeartbeats 40000000 in
theorem ck_c_undone : kchk prog HT kc_c_undone tb_c_undone 135 100 k_c_undone = true := by decide +kernel
set_option maxRecDepth 100000 in
set_option maxHeartbeats 40000000 in
theorem ck_c_borne : kchk prog HT kc_c_borne tb_c_borne 134 101 k_c_borne = true := by decide +kernel
set_option maxRecDepth 100000 in
set_option maxHeartbeats 40000000 in
theorem ck_c_look : kchk prog HT kc_c_look tb_c_look 45 102 k_c_look = true := by decide +kernel
set_option maxRecDepth 100000 in
set_option maxHeartbeats 40000000 in
theorem ck_c_tides : kchk prog HT kc_c_tides tb_c_tides 37 103 k_c_tides = true := by decide +kernel
