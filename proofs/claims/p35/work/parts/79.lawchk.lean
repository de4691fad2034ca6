/-! ===== checks of the table of the law (printed by program) ===== -/
theorem pwAll_app {P : List pM} {M : pM} : ∀ (a b : List pE) (i : Nat), pwAll P M i a = true → pwAll P M (i + a.length) b = true → pwAll P M i (a ++ b) = true
  | [], b, i, _, h => h
  | u :: r, b, i, ha, hb => by
    rw [List.cons_append]
    unfold pwAll at ha ⊢
    rw [Bool.and_eq_true] at ha ⊢
    refine ⟨ha.1, pwAll_app r b (i + 1) ha.2 ?_⟩
    rw [List.length_cons] at hb
    rw [show i + 1 + r.length = i + (r.length + 1) by omega]
    exact hb
theorem pwAll_cut {P : List pM} {M : pM} {l : List pE} {i n : Nat} (hn : (l.take n).length = n) (h1 : pwAll P M i (l.take n) = true) (h2 : pwAll P M (i + n) (l.drop n) = true) : pwAll P M i l = true := by
  have h := pwAll_app (l.take n) (l.drop n) i h1 (by rw [hn]; exact h2)
  rw [List.take_append_drop] at h
  exact h
set_option maxRecDepth 100000 in
theorem kp_L : pwAll prog mL_law 0 (m_code mL_law) = true := by
  have h7 : pwAll prog mL_law 938 ((m_code mL_law).drop 938) = true := by
    have e : ((m_code mL_law).drop 938).take 134 = (m_code mL_law).drop 938 := List.take_of_length_le (Nat.le_of_ble_eq_true rfl)
    rw [← e]
    exact kp_L7
  have h6 : pwAll prog mL_law 804 ((m_code mL_law).drop 804) = true := pwAll_cut (n := 134) rfl kp_L6 (by rw [List.drop_drop]; exact h7)
  have h5 : pwAll prog mL_law 670 ((m_code mL_law).drop 670) = true := pwAll_cut (n := 134) rfl kp_L5 (by rw [List.drop_drop]; exact h6)
  have h4 : pwAll prog mL_law 536 ((m_code mL_law).drop 536) = true := pwAll_cut (n := 134) rfl kp_L4 (by rw [List.drop_drop]; exact h5)
  have h3 : pwAll prog mL_law 402 ((m_code mL_law).drop 402) = true := pwAll_cut (n := 134) rfl kp_L3 (by rw [List.drop_drop]; exact h4)
  have h2 : pwAll prog mL_law 268 ((m_code mL_law).drop 268) = true := pwAll_cut (n := 134) rfl kp_L2 (by rw [List.drop_drop]; exact h3)
  have h1 : pwAll prog mL_law 134 ((m_code mL_law).drop 134) = true := pwAll_cut (n := 134) rfl kp_L1 (by rw [List.drop_drop]; exact h2)
  exact pwAll_cut (n := 134) rfl kp_L0 h1
set_option maxRecDepth 100000 in
set_option maxHeartbeats 60000000 in
theorem kl_L : plnks prog mL_law = ([83, 84, 65, 85, 1037, 1038, 74, 1039, 341, 1140, 370, 1160, 463, 1211, 483, 1222, 494, 1230, 498, 1238, 512, 1245, 525, 1251, 529, 1255, 539, 1266, 543, 1270, 553, 1278, 557, 1282, 566, 1290, 574, 1298, 601, 1317, 610, 1325, 619, 1333, 635, 1342, 654, 1350, 670, 1366, 675, 1374, 683, 1379, 687, 1504, 715, 1383, 720, 1387, 724, 1391, 736, 1395, 740, 1399, 940, 1466, 945, 1474, 950, 1479, 960, 1488, 972, 1496, 977, 1500, 981, 1511, 990, 1515, 1004, 1523, 1008, 1527, 1012, 1531, 1017, 1536, 1021, 1540, 1025, 1549, 1029, 1553, 1033, 1557] : List Nat).filterMap (fun i => lw_tbl[i]?) := by decide +kernel
set_option maxRecDepth 100000 in
theorem ku_L : (plnks prog mL_law).all uword = true := by decide +kernel
theorem ok_L : WFe prog mL_law := by
  refine ⟨kp_L, fun w hw => ?_⟩
  have hu : uword w = true := List.all_eq_true.mp ku_L w hw
  rw [kl_L] at hw
  obtain ⟨i, -, hi⟩ := List.mem_filterMap.mp hw
  exact List.mem_filter.mpr ⟨List.mem_of_getElem? hi, hu⟩
