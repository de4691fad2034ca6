/-! ===== contracts checked, piece 0 (printed by program) ===== -/
set_option maxRecDepth 100000 in
set_option maxHeartbeats 40000000 in
theorem ck_m_saysAt : kchk prog HT kc_m_saysAt tb_m_saysAt 110 158 k_m_saysAt = true := by decide +kernel
set_option maxRecDepth 100000 in
set_option maxHeartbeats 40000000 in
theorem ck_m_loses : kchk prog HT kc_m_loses tb_m_loses 21 160 k_m_loses = true := by decide +kernel
set_option maxRecDepth 100000 in
set_option maxHeartbeats 40000000 in
theorem ck_m_worth : kchk prog HT kc_m_worth tb_m_worth 41 161 k_m_worth = true := by decide +kernel
set_option maxRecDepth 100000 in
set_option maxHeartbeats 40000000 in
theorem ck_m_covers : kchk prog HT kc_m_covers tb_m_covers 46 163 k_m_covers = true := by decide +kernel
set_option maxRecDepth 100000 in
set_option maxHeartbeats 40000000 in
theorem ck_m_counts : kchk prog HT kc_m_counts tb_m_counts 34 222 k_m_counts = true := by decide +kernel
set_option maxRecDepth 100000 in
set_option maxHeartbeats 40000000 in
theorem ck_m_falseOf : kchk prog HT kc_m_falseOf tb_m_falseOf 51 175 k_m_falseOf = true := by decide +kernel
set_option maxRecDepth 100000 in
set_option maxHeartbeats 40000000 in
theorem ck_m_joinBy : kchk prog HT kc_m_joinBy tb_m_joinBy 63 178 k_m_joinBy = true := by decide +kernel
set_option maxRecDepth 100000 in
set_option maxHeartbeats 40000000 in
theorem ck_m_doClash : kchk prog HT kc_m_doClash tb_m_doClash 68 180 k_m_doClash = true := by decide +kernel
set_option maxRecDepth 100000 in
set_option maxHeartbeats 40000000 in
theorem ck_m_laidOnes : kchk prog HT kc_m_laidOnes tb_m_laidOnes 41 182 k_m_laidOnes = true := by decide +kernel
set_option maxRecDepth 100000 in
set_option maxHeartbeats 40000000 in
theorem ck_m_coveredBy : kchk prog HT kc_m_coveredBy tb_m_coveredBy 31 183 k_m_coveredBy = true := by decide +kernel
set_option maxRecDepth 100000 in
set_option maxHeartbeats 40000000 in
theorem ck_m_findClashing : kchk prog HT kc_m_findClashing tb_m_findClashing 48 184 k_m_findClashing = true := by decide +kernel
set_option maxRecDepth 100000 in
set_option maxHeartbeats 40000000 in
theorem ck_m_areAtPeace : kchk prog HT kc_m_areAtPeace tb_m_areAtPeace 29 185 k_m_areAtPeace = true := by decide +kernel
set_option maxRecDepth 100000 in
set_option maxHeartbeats 40000000 in
theorem ck_m_otherwiseAt : kchk prog HT kc_m_otherwiseAt tb_m_otherwiseAt 58 188 k_m_otherwiseAt = true := by decide +kernel
set_option maxRecDepth 100000 in
set_option maxHeartbeats 40000000 in
theorem ck_m_allTrust : kchk prog HT kc_m_allTrust tb_m_allTrust 35 193 k_m_allTrust = true := by decide +kernel
set_option maxRecDepth 100000 in
set_option maxHeartbeats 40000000 in
theorem ck_m_goesOn : kchk prog HT kc_m_goesOn tb_m_goesOn 155 190 k_m_goesOn = true := by decide +kernel
set_option maxRecDepth 100000 in
set_option maxHeartbeats 40000000 in
theorem ck_m_goesOnMany : kchk prog HT kc_m_goesOnMany tb_m_goesOnMany 14 191 k_m_goesOnMany = true := by decide +kernel
set_option maxRecDepth 100000 in
set_option maxHeartbeats 40000000 in
theorem ck_r_rubbing : kchk prog HT kc_r_rubbing tb_r_rubbing 188 156 k_r_rubbing = true := by decide +kernel
set_option maxRecDepth 100000 in
set_option maxHeartbeats 40000000 in
theorem ck_r_told : kchk prog HT kc_r_told tb_r_told 48 164 k_r_told = true := by decide +kernel
set_option maxRecDepth 100000 in
set_option maxHeartbeats 40000000 in
theorem ck_r_says : kchk prog HT kc_r_says tb_r_says 70 165 k_r_says = true := by decide +kernel
set_option maxRecDepth 100000 in
set_option maxHeartbeats 40000000 in
theorem ck_r_as : kchk prog HT kc_r_as tb_r_as 99 167 k_r_as = true := by decide +kernel
set_option maxRecDepth 100000 in
set_option maxHeartbeats 40000000 in
theorem ck_r_turns : kchk prog HT kc_r_turns tb_r_turns 69 168 k_r_turns = true := by decide +kernel
