/-! ===== checks of the table of the law, piece 1 (printed by program) ===== -/
set_option maxRecDepth 100000 in
set_option maxHeartbeats 60000000 in
theorem kp_L1 : pwAll prog mL_law 134 (((m_code mL_law).drop 134).take 134) = true := by decide +kernel
