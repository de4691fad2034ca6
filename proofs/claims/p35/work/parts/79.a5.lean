/-! ===== checks of the table of the law, piece 5 (printed by program) ===== -/
set_option maxRecDepth 100000 in
set_option maxHeartbeats 60000000 in
theorem kp_L5 : pwAll prog mL_law 670 (((m_code mL_law).drop 670).take 134) = true := by decide +kernel
