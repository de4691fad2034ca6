/-! ===== contracts checked, piece 0 (printed by program) ===== -/
set_option maxRecDepth 100000 in
set_option maxHeartbeats 40000000 in
theorem ck_covers : kchk prog HT kc_covers tb_covers 44 48 k_covers = true := by decide +kernel
set_option maxRecDepth 100000 in
set_option maxHeartbeats 40000000 in
theorem ck_sayAt : kchk prog HT kc_sayAt tb_sayAt 57 50 k_sayAt = true := by decide +kernel
set_option maxRecDepth 100000 in
set_option maxHeartbeats 40000000 in
theorem ck_value : kchk prog HT kc_value tb_value 8 44 k_value = true := by decide +kernel
set_option maxRecDepth 100000 in
set_option maxHeartbeats 40000000 in
theorem ck_gainOver : kchk prog HT kc_gainOver tb_gainOver 12 54 k_gainOver = true := by decide +kernel
set_option maxRecDepth 100000 in
set_option maxHeartbeats 40000000 in
theorem ck_loss : kchk prog HT kc_loss tb_loss 8 55 k_loss = true := by decide +kernel
set_option maxRecDepth 100000 in
set_option maxHeartbeats 40000000 in
theorem ck_worth : kchk prog HT kc_worth tb_worth 13 56 k_worth = true := by decide +kernel
set_option maxRecDepth 100000 in
set_option maxHeartbeats 40000000 in
theorem ck_covered : kchk prog HT kc_covered tb_covered 24 49 k_covered = true := by decide +kernel
set_option maxRecDepth 100000 in
set_option maxHeartbeats 40000000 in
theorem ck_joined : kchk prog HT kc_joined tb_joined 35 57 k_joined = true := by decide +kernel
set_option maxRecDepth 100000 in
set_option maxHeartbeats 40000000 in
theorem ck_clashes : kchk prog HT kc_clashes tb_clashes 33 58 k_clashes = true := by decide +kernel
set_option maxRecDepth 100000 in
set_option maxHeartbeats 40000000 in
theorem ck_workedR34 : kchk prog HT kc_workedR34 tb_workedR34 134 7 k_workedR34 = true := by decide +kernel
set_option maxRecDepth 100000 in
set_option maxHeartbeats 40000000 in
theorem ck_workedR62 : kchk prog HT kc_workedR62 tb_workedR62 134 7 k_workedR62 = true := by decide +kernel
set_option maxRecDepth 100000 in
set_option maxHeartbeats 40000000 in
theorem ck_workedN34 : kchk prog HT kc_workedN34 tb_workedN34 134 7 k_workedN34 = true := by decide +kernel
