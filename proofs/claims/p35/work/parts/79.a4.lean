/-! ===== checks of the table of the law, piece 4 (printed by program) ===== -/
set_option maxRecDepth 100000 in
set_option maxHeartbeats 60000000 in
theorem kp_L4 : pwAll prog mL_law 536 (((m_code mL_law).drop 536).take 134) = true := by decide +kernel
