/-! ===== checks of the table of the law, piece 2 (printed by program) ===== -/
set_option maxRecDepth 100000 in
set_option maxHeartbeats 60000000 in
theorem kp_L2 : pwAll prog mL_law 268 (((m_code mL_law).drop 268).take 134) = true := by decide +kernel
