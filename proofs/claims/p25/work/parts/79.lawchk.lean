/-! ===== checks of the table of the law (printed by program) ===== -/
set_option maxRecDepth 100000 in
set_option maxHeartbeats 60000000 in
theorem kd_L : dz_dchk (m_b mL_law) (m_code mL_law) (m_b mL_law).data.toList 0 = true := by decide +kernel
set_option maxRecDepth 100000 in
set_option maxHeartbeats 60000000 in
theorem ke_L : pwA3 prog mL_law (m_code mL_law) = true := by decide +kernel
theorem kp_L : pwAll prog mL_law 0 (m_code mL_law) = true := pwA3_ok (m_code mL_law) 0 List.drop_zero (dz_dchk_ok (m_code mL_law) _ 0 List.drop_zero kd_L) ke_L
set_option maxRecDepth 100000 in
set_option maxHeartbeats 60000000 in
theorem kl_L : plnks prog mL_law = ([83, 84, 65, 85, 1037, 1038, 74, 1039, 341, 1140, 370, 1160, 463, 1211, 483, 1222, 494, 1230, 498, 1238, 512, 1245, 525, 1251, 529, 1255, 539, 1266, 543, 1270, 553, 1278, 557, 1282, 566, 1290, 574, 1298, 601, 1317, 610, 1325, 619, 1333, 635, 1342, 654, 1350, 670, 1366, 675, 1374, 683, 1379, 687, 1504, 715, 1383, 720, 1387, 724, 1391, 736, 1395, 740, 1399, 940, 1466, 945, 1474, 950, 1479, 960, 1488, 972, 1496, 977, 1500, 981, 1511, 990, 1515, 1004, 1523, 1008, 1527, 1012, 1531, 1017, 1536, 1021, 1540, 1025, 1549, 1029, 1553, 1033, 1557] : List Nat).filterMap (fun i => lw_tbl[i]?) := by decide +kernel
set_option maxRecDepth 100000 in
theorem ku_L : (plnks prog mL_law).all uword = true := by decide +kernel
theorem ok_L : WFe prog mL_law := by
  refine ⟨kp_L, fun w hw => ?_⟩
  have hu : uword w = true := List.all_eq_true.mp ku_L w hw
  rw [kl_L] at hw
  obtain ⟨i, -, hi⟩ := List.mem_filterMap.mp hw
  exact List.mem_filter.mpr ⟨List.mem_of_getElem? hi, hu⟩
