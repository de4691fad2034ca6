/-! ===== checks of the table of the law, piece 0 (printed by program) ===== -/
set_option maxRecDepth 100000 in
set_option maxHeartbeats 60000000 in
theorem kp_L0 : pwAll prog mL_law 0 (((m_code mL_law).drop 0).take 134) = true := by decide +kernel
