/-! ===== checks of the table of the law, piece 7 (printed by program) ===== -/
set_option maxRecDepth 100000 in
set_option maxHeartbeats 60000000 in
theorem kp_L7 : pwAll prog mL_law 938 (((m_code mL_law).drop 938).take 134) = true := by decide +kernel
