/-! ===== checks of the table of the law, piece 6 (printed by program) ===== -/
set_option maxRecDepth 100000 in
set_option maxHeartbeats 60000000 in
theorem kp_L6 : pwAll prog mL_law 804 (((m_code mL_law).drop 804).take 134) = true := by decide +kernel
