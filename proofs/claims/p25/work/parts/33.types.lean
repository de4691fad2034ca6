/-! ===== contracts (printed by program) ===== -/
def k_m_manyIn : aK := ([.inl ((-2147483648), 2147483647)], some ((-2147483648), 2147483647), [], 8)
def k_m_saysAt : aK := ([.inr (false, [110]), .inl (0, 8), .inl ((-2147483648), 2147483647)], some ((-2147483648), 2147483647), [], 10)
def tb_m_saysAt : aTb := fun mi i => none
def kc_m_saysAt : List (Nat × aK) := []
def k_m_loses : aK := ([.inr (false, [110]), .inl (0, 8)], some ((-2147483648), 2147483647), [], 10)
def tb_m_loses : aTb := fun mi i => none
def kc_m_loses : List (Nat × aK) := []
def k_m_worth : aK := ([.inr (false, [110]), .inl (0, 8)], some ((-2147483648), 2147483647), [], 10)
def tb_m_worth : aTb := fun mi i => none
def kc_m_worth : List (Nat × aK) := []
def k_m_covers : aK := ([.inr (false, [110]), .inl (0, 8)], some ((-2147483648), 2147483647), [], 10)
def tb_m_covers : aTb := fun mi i => none
def kc_m_covers : List (Nat × aK) := []
def k_m_counts : aK := ([.inr (false, [110]), .inl ((-2147483648), 2147483647)], some ((-1), 13), [], 10)
def tb_m_counts : aTb := fun mi i => if mi = 222 ∧ i = 4 then some ([((-1), 13, .inl 2), (0, 2147483647, .inl 3)], [], [], [], 1, true) else none
def kc_m_counts : List (Nat × aK) := []
def k_m_gains : aK := ([.inr (false, [110]), .inl (0, 8)], some ((-2147483648), 2147483647), [(125, 125, 0, 127), (126, 126, 0, 99)], 20)
def k_m_falseOf : aK := ([.inr (false, [110]), .inl (0, 8), .inl (0, 16)], some ((-2147483648), 2147483647), [], 14)
def tb_m_falseOf : aTb := fun mi i => if mi = 175 ∧ i = 4 then some ([((-2147483648), 2147483647, .inl 3), (0, 2147483647, .inl 4)], [], [], [], 1, true) else none
def kc_m_falseOf : List (Nat × aK) := [(158, k_m_saysAt), (160, k_m_loses), (161, k_m_worth), (163, k_m_covers), (222, k_m_counts), (159, k_m_gains), (147, k_m_manyIn)]
def k_m_joinBy : aK := ([.inr (false, [110]), .inl (0, 8), .inl (0, 8), .inl (0, 8)], some ((-2147483648), 2147483647), [], 14)
def tb_m_joinBy : aTb := fun mi i => if mi = 178 ∧ i = 4 then some ([((-2147483648), 2147483647, .inl 4), (0, 2147483647, .inl 5)], [], [], [], 1, true) else none
def kc_m_joinBy : List (Nat × aK) := [(158, k_m_saysAt), (160, k_m_loses), (161, k_m_worth), (163, k_m_covers), (222, k_m_counts), (159, k_m_gains), (147, k_m_manyIn)]
def k_m_doClash : aK := ([.inr (false, [110]), .inl (0, 8), .inl (0, 8)], some (0, 1), [], 14)
def tb_m_doClash : aTb := fun mi i => if mi = 180 ∧ i = 10 then some ([(0, 2147483647, .inl 4)], [], [], [], 0, true) else none
def kc_m_doClash : List (Nat × aK) := [(158, k_m_saysAt), (160, k_m_loses), (161, k_m_worth), (163, k_m_covers), (222, k_m_counts), (159, k_m_gains), (147, k_m_manyIn)]
def k_m_laidOnes : aK := ([.inr (false, [110])], some ((-2147483648), 2147483647), [], 14)
def tb_m_laidOnes : aTb := fun mi i => if mi = 182 ∧ i = 4 then some ([((-2147483648), 2147483647, .inl 1), (0, 2147483647, .inl 2)], [], [], [], 1, true) else none
def kc_m_laidOnes : List (Nat × aK) := [(158, k_m_saysAt), (160, k_m_loses), (161, k_m_worth), (163, k_m_covers), (222, k_m_counts), (159, k_m_gains), (147, k_m_manyIn)]
def k_m_coveredBy : aK := ([.inr (false, [110]), .inl ((-2147483648), 2147483647)], some ((-2147483648), 2147483647), [], 14)
def tb_m_coveredBy : aTb := fun mi i => if mi = 183 ∧ i = 4 then some ([((-2147483648), 2147483647, .inl 2), (0, 2147483647, .inl 3)], [], [], [], 1, true) else none
def kc_m_coveredBy : List (Nat × aK) := [(158, k_m_saysAt), (160, k_m_loses), (161, k_m_worth), (163, k_m_covers), (222, k_m_counts), (159, k_m_gains), (147, k_m_manyIn)]
def k_m_findClashing : aK := ([.inr (false, [110])], none, [(122, 122, 0, 8)], 18)
def tb_m_findClashing : aTb := fun mi i => if mi = 184 ∧ i = 2 then some ([(0, 2147483647, .inl 1)], [], [2], [(122, 122, 0, 8)], 0, true) else if mi = 184 ∧ i = 15 then some ([(0, 2147483647, .inl 2)], [], [], [(122, 122, 0, 8)], 0, true) else none
def kc_m_findClashing : List (Nat × aK) := [(158, k_m_saysAt), (160, k_m_loses), (161, k_m_worth), (163, k_m_covers), (222, k_m_counts), (159, k_m_gains), (147, k_m_manyIn), (175, k_m_falseOf), (178, k_m_joinBy), (180, k_m_doClash), (182, k_m_laidOnes), (183, k_m_coveredBy)]
def k_m_areAtPeace : aK := ([.inr (false, [110]), .inl ((-2147483648), 2147483647)], some (0, 1), [], 18)
def tb_m_areAtPeace : aTb := fun mi i => if mi = 185 ∧ i = 2 then some ([(0, 2147483647, .inl 2)], [], [], [], 0, true) else none
def kc_m_areAtPeace : List (Nat × aK) := [(158, k_m_saysAt), (160, k_m_loses), (161, k_m_worth), (163, k_m_covers), (222, k_m_counts), (159, k_m_gains), (147, k_m_manyIn), (175, k_m_falseOf), (178, k_m_joinBy), (180, k_m_doClash), (182, k_m_laidOnes), (183, k_m_coveredBy)]
def k_m_otherwiseAt : aK := ([.inr (false, [110]), .inl (0, 15)], some ((-2147483648), 2147483647), [], 18)
def tb_m_otherwiseAt : aTb := fun mi i => if mi = 188 ∧ i = 4 then some ([((-2147483648), 2147483647, .inl 2), (0, 2147483647, .inl 3)], [], [], [], 1, true) else none
def kc_m_otherwiseAt : List (Nat × aK) := [(158, k_m_saysAt), (160, k_m_loses), (161, k_m_worth), (163, k_m_covers), (222, k_m_counts), (159, k_m_gains), (147, k_m_manyIn), (175, k_m_falseOf), (178, k_m_joinBy), (180, k_m_doClash), (182, k_m_laidOnes), (183, k_m_coveredBy)]
def k_m_allTrust : aK := ([.inr (false, [110])], some ((-2147483648), 2147483647), [], 18)
def tb_m_allTrust : aTb := fun mi i => if mi = 193 ∧ i = 4 then some ([((-2147483648), 2147483647, .inl 1), (0, 2147483647, .inl 2)], [], [], [], 1, true) else none
def kc_m_allTrust : List (Nat × aK) := [(158, k_m_saysAt), (160, k_m_loses), (161, k_m_worth), (163, k_m_covers), (222, k_m_counts), (159, k_m_gains), (147, k_m_manyIn), (175, k_m_falseOf), (178, k_m_joinBy), (180, k_m_doClash), (182, k_m_laidOnes), (183, k_m_coveredBy)]
def k_m_goesOn : aK := ([.inr (false, [110])], none, [(125, 125, 0, 127), (126, 126, 0, 99), (111, 111, 0, 0), (111, 111, 2, 74)], 24)
def tb_m_goesOn : aTb := fun mi i => if mi = 190 ∧ i = 7 then some ([(0, 2147483647, .inl 2)], [], [3, 4], [(125, 125, 0, 127), (126, 126, 0, 99), (111, 111, 0, 0), (111, 111, 2, 74)], 0, true) else none
def kc_m_goesOn : List (Nat × aK) := [(158, k_m_saysAt), (160, k_m_loses), (161, k_m_worth), (163, k_m_covers), (222, k_m_counts), (159, k_m_gains), (147, k_m_manyIn), (175, k_m_falseOf), (178, k_m_joinBy), (180, k_m_doClash), (182, k_m_laidOnes), (183, k_m_coveredBy)]
def k_m_goesOnMany : aK := ([.inr (false, [110]), .inl ((-2147483648), 2147483647)], none, [(125, 125, 0, 127), (126, 126, 0, 99), (111, 111, 0, 0), (111, 111, 2, 74)], 28)
def tb_m_goesOnMany : aTb := fun mi i => if mi = 191 ∧ i = 2 then some ([(0, 2147483647, .inl 2)], [], [], [(125, 125, 0, 127), (126, 126, 0, 99), (111, 111, 0, 0), (111, 111, 2, 74)], 0, true) else none
def kc_m_goesOnMany : List (Nat × aK) := [(158, k_m_saysAt), (160, k_m_loses), (161, k_m_worth), (163, k_m_covers), (222, k_m_counts), (159, k_m_gains), (147, k_m_manyIn), (175, k_m_falseOf), (178, k_m_joinBy), (180, k_m_doClash), (182, k_m_laidOnes), (183, k_m_coveredBy), (184, k_m_findClashing), (185, k_m_areAtPeace), (188, k_m_otherwiseAt), (193, k_m_allTrust), (190, k_m_goesOn)]
def k_m_laysBy : aK := ([.inr (false, [110])], none, [(123, 123, 0, 74)], 10)
def k_m_laysBack : aK := ([.inr (false, [110])], none, [(111, 111, 0, 0), (111, 111, 2, 74)], 10)
def k_m_parse : aK := ([.inr (false, [110])], some ((-1), 2), [(110, 110, 15, 25), (111, 111, 75, 3074)], 100)
def k_r_rubbing : aK := ([.inr (false, [110]), .inl ((-2147483648), 2147483647), .inl ((-2147483648), 2147483647), .inl ((-2147483648), 2147483647)], some ((-2147483648), 2147483647), [(111, 111, 0, 0), (111, 111, 2, 74)], 50)
def tb_r_rubbing : aTb := fun mi i => none
def kc_r_rubbing : List (Nat × aK) := [(158, k_m_saysAt), (160, k_m_loses), (161, k_m_worth), (163, k_m_covers), (222, k_m_counts), (159, k_m_gains), (147, k_m_manyIn), (175, k_m_falseOf), (178, k_m_joinBy), (180, k_m_doClash), (182, k_m_laidOnes), (183, k_m_coveredBy), (184, k_m_findClashing), (185, k_m_areAtPeace), (188, k_m_otherwiseAt), (193, k_m_allTrust), (190, k_m_goesOn), (191, k_m_goesOnMany)]
def k_r_told : aK := ([.inr (false, [110]), .inl ((-2147483648), 2147483647), .inl ((-2147483648), 2147483647)], some ((-2147483648), 2147483647), [(125, 125, 0, 127), (126, 126, 0, 99)], 50)
def tb_r_told : aTb := fun mi i => none
def kc_r_told : List (Nat × aK) := [(158, k_m_saysAt), (160, k_m_loses), (161, k_m_worth), (163, k_m_covers), (222, k_m_counts), (159, k_m_gains), (147, k_m_manyIn), (175, k_m_falseOf), (178, k_m_joinBy), (180, k_m_doClash), (182, k_m_laidOnes), (183, k_m_coveredBy), (184, k_m_findClashing), (185, k_m_areAtPeace), (188, k_m_otherwiseAt), (193, k_m_allTrust), (190, k_m_goesOn), (191, k_m_goesOnMany)]
def k_r_says : aK := ([.inr (false, [110]), .inl ((-2147483648), 2147483647), .inl ((-2147483648), 2147483647)], some ((-2147483648), 2147483647), [], 50)
def tb_r_says : aTb := fun mi i => none
def kc_r_says : List (Nat × aK) := [(158, k_m_saysAt), (160, k_m_loses), (161, k_m_worth), (163, k_m_covers), (222, k_m_counts), (159, k_m_gains), (147, k_m_manyIn), (175, k_m_falseOf), (178, k_m_joinBy), (180, k_m_doClash), (182, k_m_laidOnes), (183, k_m_coveredBy), (184, k_m_findClashing), (185, k_m_areAtPeace), (188, k_m_otherwiseAt), (193, k_m_allTrust), (190, k_m_goesOn), (191, k_m_goesOnMany)]
def k_r_as : aK := ([.inr (false, [110]), .inl ((-2147483648), 2147483647), .inl ((-2147483648), 2147483647)], some ((-2147483648), 2147483647), [], 50)
def tb_r_as : aTb := fun mi i => none
def kc_r_as : List (Nat × aK) := [(158, k_m_saysAt), (160, k_m_loses), (161, k_m_worth), (163, k_m_covers), (222, k_m_counts), (159, k_m_gains), (147, k_m_manyIn), (175, k_m_falseOf), (178, k_m_joinBy), (180, k_m_doClash), (182, k_m_laidOnes), (183, k_m_coveredBy), (184, k_m_findClashing), (185, k_m_areAtPeace), (188, k_m_otherwiseAt), (193, k_m_allTrust), (190, k_m_goesOn), (191, k_m_goesOnMany)]
def k_r_turns : aK := ([.inr (false, [110]), .inl ((-2147483648), 2147483647), .inl ((-2147483648), 2147483647)], some ((-2147483648), 2147483647), [(111, 111, 0, 0), (111, 111, 2, 74)], 50)
def tb_r_turns : aTb := fun mi i => none
def kc_r_turns : List (Nat × aK) := [(158, k_m_saysAt), (160, k_m_loses), (161, k_m_worth), (163, k_m_covers), (222, k_m_counts), (159, k_m_gains), (147, k_m_manyIn), (175, k_m_falseOf), (178, k_m_joinBy), (180, k_m_doClash), (182, k_m_laidOnes), (183, k_m_coveredBy), (184, k_m_findClashing), (185, k_m_areAtPeace), (188, k_m_otherwiseAt), (193, k_m_allTrust), (190, k_m_goesOn), (191, k_m_goesOnMany)]
def k_r_set : aK := ([.inr (false, [110]), .inl ((-2147483648), 2147483647), .inl ((-2147483648), 2147483647), .inl ((-2147483648), 2147483647)], some ((-2147483648), 2147483647), [(111, 111, 0, 0), (111, 111, 2, 74)], 50)
def tb_r_set : aTb := fun mi i => none
def kc_r_set : List (Nat × aK) := [(158, k_m_saysAt), (160, k_m_loses), (161, k_m_worth), (163, k_m_covers), (222, k_m_counts), (159, k_m_gains), (147, k_m_manyIn), (175, k_m_falseOf), (178, k_m_joinBy), (180, k_m_doClash), (182, k_m_laidOnes), (183, k_m_coveredBy), (184, k_m_findClashing), (185, k_m_areAtPeace), (188, k_m_otherwiseAt), (193, k_m_allTrust), (190, k_m_goesOn), (191, k_m_goesOnMany)]
def k_r_carve : aK := ([.inr (false, [110]), .inl ((-2147483648), 2147483647), .inl ((-2147483648), 2147483647)], some ((-2147483648), 2147483647), [(111, 111, 0, 0), (111, 111, 2, 74)], 50)
def tb_r_carve : aTb := fun mi i => none
def kc_r_carve : List (Nat × aK) := [(158, k_m_saysAt), (160, k_m_loses), (161, k_m_worth), (163, k_m_covers), (222, k_m_counts), (159, k_m_gains), (147, k_m_manyIn), (175, k_m_falseOf), (178, k_m_joinBy), (180, k_m_doClash), (182, k_m_laidOnes), (183, k_m_coveredBy), (184, k_m_findClashing), (185, k_m_areAtPeace), (188, k_m_otherwiseAt), (193, k_m_allTrust), (190, k_m_goesOn), (191, k_m_goesOnMany)]
def k_r_carved : aK := ([.inr (false, [110]), .inl ((-2147483648), 2147483647)], some ((-2147483648), 2147483647), [], 50)
def tb_r_carved : aTb := fun mi i => none
def kc_r_carved : List (Nat × aK) := [(158, k_m_saysAt), (160, k_m_loses), (161, k_m_worth), (163, k_m_covers), (222, k_m_counts), (159, k_m_gains), (147, k_m_manyIn), (175, k_m_falseOf), (178, k_m_joinBy), (180, k_m_doClash), (182, k_m_laidOnes), (183, k_m_coveredBy), (184, k_m_findClashing), (185, k_m_areAtPeace), (188, k_m_otherwiseAt), (193, k_m_allTrust), (190, k_m_goesOn), (191, k_m_goesOnMany)]
def k_r_deal : aK := ([.inr (false, [110]), .inl ((-2147483648), 2147483647)], some ((-2147483648), 2147483647), [(111, 111, 0, 0), (111, 111, 2, 74)], 50)
def tb_r_deal : aTb := fun mi i => if mi = 173 ∧ i = 10 then some ([(0, 2147483647, .inl 2)], [], [3, 4], [(111, 111, 0, 0), (111, 111, 2, 74)], 0, true) else none
def kc_r_deal : List (Nat × aK) := [(158, k_m_saysAt), (160, k_m_loses), (161, k_m_worth), (163, k_m_covers), (222, k_m_counts), (159, k_m_gains), (147, k_m_manyIn), (175, k_m_falseOf), (178, k_m_joinBy), (180, k_m_doClash), (182, k_m_laidOnes), (183, k_m_coveredBy), (184, k_m_findClashing), (185, k_m_areAtPeace), (188, k_m_otherwiseAt), (193, k_m_allTrust), (190, k_m_goesOn), (191, k_m_goesOnMany)]
def k_r_seed : aK := ([.inr (false, [110]), .inl ((-2147483648), 2147483647)], some ((-2147483648), 2147483647), [(111, 111, 0, 0), (111, 111, 2, 74)], 50)
def tb_r_seed : aTb := fun mi i => none
def kc_r_seed : List (Nat × aK) := [(158, k_m_saysAt), (160, k_m_loses), (161, k_m_worth), (163, k_m_covers), (222, k_m_counts), (159, k_m_gains), (147, k_m_manyIn), (175, k_m_falseOf), (178, k_m_joinBy), (180, k_m_doClash), (182, k_m_laidOnes), (183, k_m_coveredBy), (184, k_m_findClashing), (185, k_m_areAtPeace), (188, k_m_otherwiseAt), (193, k_m_allTrust), (190, k_m_goesOn), (191, k_m_goesOnMany)]
def k_r_falseAt : aK := ([.inr (false, [110]), .inl ((-2147483648), 2147483647), .inl ((-2147483648), 2147483647)], some ((-2147483648), 2147483647), [], 50)
def tb_r_falseAt : aTb := fun mi i => none
def kc_r_falseAt : List (Nat × aK) := [(158, k_m_saysAt), (160, k_m_loses), (161, k_m_worth), (163, k_m_covers), (222, k_m_counts), (159, k_m_gains), (147, k_m_manyIn), (175, k_m_falseOf), (178, k_m_joinBy), (180, k_m_doClash), (182, k_m_laidOnes), (183, k_m_coveredBy), (184, k_m_findClashing), (185, k_m_areAtPeace), (188, k_m_otherwiseAt), (193, k_m_allTrust), (190, k_m_goesOn), (191, k_m_goesOnMany)]
def k_r_fits : aK := ([.inr (false, [110]), .inl ((-2147483648), 2147483647), .inl ((-2147483648), 2147483647)], some ((-2147483648), 2147483647), [], 50)
def tb_r_fits : aTb := fun mi i => if mi = 177 ∧ i = 16 then some ([(0, 16, .inl 3), (0, 2147483647, .inl 4)], [], [], [], 1, true) else none
def kc_r_fits : List (Nat × aK) := [(158, k_m_saysAt), (160, k_m_loses), (161, k_m_worth), (163, k_m_covers), (222, k_m_counts), (159, k_m_gains), (147, k_m_manyIn), (175, k_m_falseOf), (178, k_m_joinBy), (180, k_m_doClash), (182, k_m_laidOnes), (183, k_m_coveredBy), (184, k_m_findClashing), (185, k_m_areAtPeace), (188, k_m_otherwiseAt), (193, k_m_allTrust), (190, k_m_goesOn), (191, k_m_goesOnMany)]
def k_r_join : aK := ([.inr (false, [110]), .inl ((-2147483648), 2147483647), .inl ((-2147483648), 2147483647), .inl ((-2147483648), 2147483647)], some ((-2147483648), 2147483647), [], 50)
def tb_r_join : aTb := fun mi i => if mi = 179 ∧ i = 23 then some ([(0, 8, .inl 4), (0, 2147483647, .inl 5)], [], [], [], 1, true) else none
def kc_r_join : List (Nat × aK) := [(158, k_m_saysAt), (160, k_m_loses), (161, k_m_worth), (163, k_m_covers), (222, k_m_counts), (159, k_m_gains), (147, k_m_manyIn), (175, k_m_falseOf), (178, k_m_joinBy), (180, k_m_doClash), (182, k_m_laidOnes), (183, k_m_coveredBy), (184, k_m_findClashing), (185, k_m_areAtPeace), (188, k_m_otherwiseAt), (193, k_m_allTrust), (190, k_m_goesOn), (191, k_m_goesOnMany)]
def k_r_clash : aK := ([.inr (false, [110]), .inl ((-2147483648), 2147483647), .inl ((-2147483648), 2147483647)], some ((-2147483648), 2147483647), [], 50)
def tb_r_clash : aTb := fun mi i => none
def kc_r_clash : List (Nat × aK) := [(158, k_m_saysAt), (160, k_m_loses), (161, k_m_worth), (163, k_m_covers), (222, k_m_counts), (159, k_m_gains), (147, k_m_manyIn), (175, k_m_falseOf), (178, k_m_joinBy), (180, k_m_doClash), (182, k_m_laidOnes), (183, k_m_coveredBy), (184, k_m_findClashing), (185, k_m_areAtPeace), (188, k_m_otherwiseAt), (193, k_m_allTrust), (190, k_m_goesOn), (191, k_m_goesOnMany)]
def k_r_undone : aK := ([.inr (false, [110])], some ((-2147483648), 2147483647), [(122, 122, 0, 8)], 50)
def tb_r_undone : aTb := fun mi i => if mi = 186 ∧ i = 9 then some ([((-2147483648), 2147483647, .inl 2), ((-2147483648), 2147483647, .inl 3)], [], [4], [(122, 122, 0, 8)], 1, false) else none
def kc_r_undone : List (Nat × aK) := [(158, k_m_saysAt), (160, k_m_loses), (161, k_m_worth), (163, k_m_covers), (222, k_m_counts), (159, k_m_gains), (147, k_m_manyIn), (175, k_m_falseOf), (178, k_m_joinBy), (180, k_m_doClash), (182, k_m_laidOnes), (183, k_m_coveredBy), (184, k_m_findClashing), (185, k_m_areAtPeace), (188, k_m_otherwiseAt), (193, k_m_allTrust), (190, k_m_goesOn), (191, k_m_goesOnMany)]
def k_r_borne : aK := ([.inr (false, [110])], some ((-2147483648), 2147483647), [], 50)
def tb_r_borne : aTb := fun mi i => if mi = 187 ∧ i = 11 then some ([((-2147483648), 2147483647, .inl 3), ((-2147483648), 2147483647, .inl 4)], [], [5], [], 1, false) else none
def kc_r_borne : List (Nat × aK) := [(158, k_m_saysAt), (160, k_m_loses), (161, k_m_worth), (163, k_m_covers), (222, k_m_counts), (159, k_m_gains), (147, k_m_manyIn), (175, k_m_falseOf), (178, k_m_joinBy), (180, k_m_doClash), (182, k_m_laidOnes), (183, k_m_coveredBy), (184, k_m_findClashing), (185, k_m_areAtPeace), (188, k_m_otherwiseAt), (193, k_m_allTrust), (190, k_m_goesOn), (191, k_m_goesOnMany)]
def k_r_look : aK := ([.inr (false, [110]), .inl ((-2147483648), 2147483647)], some ((-2147483648), 2147483647), [], 50)
def tb_r_look : aTb := fun mi i => if mi = 189 ∧ i = 12 then some ([(0, 15, .inl 2), (0, 2147483647, .inl 3)], [], [], [], 1, true) else none
def kc_r_look : List (Nat × aK) := [(158, k_m_saysAt), (160, k_m_loses), (161, k_m_worth), (163, k_m_covers), (222, k_m_counts), (159, k_m_gains), (147, k_m_manyIn), (175, k_m_falseOf), (178, k_m_joinBy), (180, k_m_doClash), (182, k_m_laidOnes), (183, k_m_coveredBy), (184, k_m_findClashing), (185, k_m_areAtPeace), (188, k_m_otherwiseAt), (193, k_m_allTrust), (190, k_m_goesOn), (191, k_m_goesOnMany)]
def k_r_tides : aK := ([.inr (false, [110]), .inl ((-2147483648), 2147483647)], some ((-2147483648), 2147483647), [(125, 125, 0, 127), (126, 126, 0, 99), (111, 111, 0, 0), (111, 111, 2, 74)], 50)
def tb_r_tides : aTb := fun mi i => if mi = 192 ∧ i = 15 then some ([(0, 2147483647, .inl 3)], [], [], [(125, 125, 0, 127), (126, 126, 0, 99), (111, 111, 0, 0), (111, 111, 2, 74)], 0, true) else none
def kc_r_tides : List (Nat × aK) := [(158, k_m_saysAt), (160, k_m_loses), (161, k_m_worth), (163, k_m_covers), (222, k_m_counts), (159, k_m_gains), (147, k_m_manyIn), (175, k_m_falseOf), (178, k_m_joinBy), (180, k_m_doClash), (182, k_m_laidOnes), (183, k_m_coveredBy), (184, k_m_findClashing), (185, k_m_areAtPeace), (188, k_m_otherwiseAt), (193, k_m_allTrust), (190, k_m_goesOn), (191, k_m_goesOnMany)]
def k_r_book : aK := ([.inr (false, [110]), .inl ((-2147483648), 2147483647)], some ((-2147483648), 2147483647), [], 50)
def tb_r_book : aTb := fun mi i => none
def kc_r_book : List (Nat × aK) := [(158, k_m_saysAt), (160, k_m_loses), (161, k_m_worth), (163, k_m_covers), (222, k_m_counts), (159, k_m_gains), (147, k_m_manyIn), (175, k_m_falseOf), (178, k_m_joinBy), (180, k_m_doClash), (182, k_m_laidOnes), (183, k_m_coveredBy), (184, k_m_findClashing), (185, k_m_areAtPeace), (188, k_m_otherwiseAt), (193, k_m_allTrust), (190, k_m_goesOn), (191, k_m_goesOnMany)]
def k_r_behind : aK := ([.inr (false, [110]), .inl ((-2147483648), 2147483647), .inl ((-2147483648), 2147483647)], some ((-2147483648), 2147483647), [(125, 125, 0, 127), (126, 126, 0, 99), (123, 123, 0, 74)], 50)
def k_r_lasts : aK := ([.inr (false, [110])], some ((-2147483648), 2147483647), [(125, 125, 0, 127), (126, 126, 0, 99), (123, 123, 0, 74)], 50)
def k_r_best : aK := ([.inr (false, [110]), .inl ((-2147483648), 2147483647), .inl ((-2147483648), 2147483647), .inl ((-2147483648), 2147483647)], some ((-2147483648), 2147483647), [(125, 125, 0, 127), (126, 126, 0, 99), (123, 123, 0, 74)], 50)
def k_r_taught : aK := ([.inr (false, [110]), .inl ((-2147483648), 2147483647), .inl ((-2147483648), 2147483647)], some ((-2147483648), 2147483647), [(125, 125, 0, 127), (126, 126, 0, 99), (123, 123, 0, 74)], 50)
def k_r_whose : aK := ([.inr (false, [110]), .inl ((-2147483648), 2147483647), .inl ((-2147483648), 2147483647)], some ((-2147483648), 2147483647), [], 50)
def tb_r_whose : aTb := fun mi i => if mi = 231 ∧ i = 24 then some ([((-2147483648), 2147483647, .inl 3), ((-2147483648), 2147483647, .inl 4), (0, 2147483647, .inl 5)], [], [6, 7, 8], [], 2, true) else if mi = 231 ∧ i = 34 then some ([((-2147483648), 2147483647, .inl 6), (0, 2147483647, .inl 7)], [], [8], [], 1, true) else none
def kc_r_whose : List (Nat × aK) := [(158, k_m_saysAt), (160, k_m_loses), (161, k_m_worth), (163, k_m_covers), (222, k_m_counts), (159, k_m_gains), (147, k_m_manyIn), (175, k_m_falseOf), (178, k_m_joinBy), (180, k_m_doClash), (182, k_m_laidOnes), (183, k_m_coveredBy), (184, k_m_findClashing), (185, k_m_areAtPeace), (188, k_m_otherwiseAt), (193, k_m_allTrust), (190, k_m_goesOn), (191, k_m_goesOnMany)]
def k_r_fee : aK := ([.inr (false, [110])], some ((-2147483648), 2147483647), [(125, 125, 0, 127), (126, 126, 0, 99)], 50)
def k_r_fine : aK := ([.inr (false, [110]), .inl ((-2147483648), 2147483647)], some ((-2147483648), 2147483647), [(125, 125, 0, 127), (126, 126, 0, 99)], 50)
def k_r_feed : aK := ([.inr (false, [110]), .inl ((-2147483648), 2147483647), .inl ((-2147483648), 2147483647), .inl ((-2147483648), 2147483647)], some ((-2147483648), 2147483647), [(124, 124, 0, 95), (110, 110, 15, 15)], 50)
def tb_r_feed : aTb := fun mi i => none
def kc_r_feed : List (Nat × aK) := [(158, k_m_saysAt), (160, k_m_loses), (161, k_m_worth), (163, k_m_covers), (222, k_m_counts), (159, k_m_gains), (147, k_m_manyIn), (175, k_m_falseOf), (178, k_m_joinBy), (180, k_m_doClash), (182, k_m_laidOnes), (183, k_m_coveredBy), (184, k_m_findClashing), (185, k_m_areAtPeace), (188, k_m_otherwiseAt), (193, k_m_allTrust), (190, k_m_goesOn), (191, k_m_goesOnMany)]
def k_r_trim : aK := ([.inr (false, [110]), .inl ((-2147483648), 2147483647)], some ((-2147483648), 2147483647), [(110, 110, 15, 15)], 50)
def tb_r_trim : aTb := fun mi i => none
def kc_r_trim : List (Nat × aK) := [(158, k_m_saysAt), (160, k_m_loses), (161, k_m_worth), (163, k_m_covers), (222, k_m_counts), (159, k_m_gains), (147, k_m_manyIn), (175, k_m_falseOf), (178, k_m_joinBy), (180, k_m_doClash), (182, k_m_laidOnes), (183, k_m_coveredBy), (184, k_m_findClashing), (185, k_m_areAtPeace), (188, k_m_otherwiseAt), (193, k_m_allTrust), (190, k_m_goesOn), (191, k_m_goesOnMany)]
def k_r_textTold : aK := ([.inr (false, [110]), .inl ((-2147483648), 2147483647), .inl ((-2147483648), 2147483647)], some ((-2147483648), 2147483647), [], 50)
def tb_r_textTold : aTb := fun mi i => none
def kc_r_textTold : List (Nat × aK) := [(158, k_m_saysAt), (160, k_m_loses), (161, k_m_worth), (163, k_m_covers), (222, k_m_counts), (159, k_m_gains), (147, k_m_manyIn), (175, k_m_falseOf), (178, k_m_joinBy), (180, k_m_doClash), (182, k_m_laidOnes), (183, k_m_coveredBy), (184, k_m_findClashing), (185, k_m_areAtPeace), (188, k_m_otherwiseAt), (193, k_m_allTrust), (190, k_m_goesOn), (191, k_m_goesOnMany)]
def k_r_why : aK := ([.inr (false, [110]), .inl ((-2147483648), 2147483647)], some ((-2147483648), 2147483647), [], 50)
def tb_r_why : aTb := fun mi i => none
def kc_r_why : List (Nat × aK) := [(158, k_m_saysAt), (160, k_m_loses), (161, k_m_worth), (163, k_m_covers), (222, k_m_counts), (159, k_m_gains), (147, k_m_manyIn), (175, k_m_falseOf), (178, k_m_joinBy), (180, k_m_doClash), (182, k_m_laidOnes), (183, k_m_coveredBy), (184, k_m_findClashing), (185, k_m_areAtPeace), (188, k_m_otherwiseAt), (193, k_m_allTrust), (190, k_m_goesOn), (191, k_m_goesOnMany)]
def k_r_sheet : aK := ([.inr (false, [110]), .inl ((-2147483648), 2147483647), .inl ((-2147483648), 2147483647), .inl ((-2147483648), 2147483647)], some ((-2147483648), 2147483647), [(114, 114, 0, 3), (115, 115, 0, 3), (116, 116, 0, 95)], 50)
def tb_r_sheet : aTb := fun mi i => if mi = 227 ∧ i = 38 then some ([(0, 2147483647, .inl 4)], [], [], [(114, 114, 0, 3), (115, 115, 0, 3), (116, 116, 0, 95)], 0, true) else none
def kc_r_sheet : List (Nat × aK) := [(158, k_m_saysAt), (160, k_m_loses), (161, k_m_worth), (163, k_m_covers), (222, k_m_counts), (159, k_m_gains), (147, k_m_manyIn), (175, k_m_falseOf), (178, k_m_joinBy), (180, k_m_doClash), (182, k_m_laidOnes), (183, k_m_coveredBy), (184, k_m_findClashing), (185, k_m_areAtPeace), (188, k_m_otherwiseAt), (193, k_m_allTrust), (190, k_m_goesOn), (191, k_m_goesOnMany)]
def k_r_mark : aK := ([.inr (false, [110]), .inl ((-2147483648), 2147483647), .inl ((-2147483648), 2147483647), .inl ((-2147483648), 2147483647)], some ((-2147483648), 2147483647), [(114, 114, 0, 3), (115, 115, 0, 3), (116, 116, 0, 95)], 50)
def tb_r_mark : aTb := fun mi i => none
def kc_r_mark : List (Nat × aK) := [(158, k_m_saysAt), (160, k_m_loses), (161, k_m_worth), (163, k_m_covers), (222, k_m_counts), (159, k_m_gains), (147, k_m_manyIn), (175, k_m_falseOf), (178, k_m_joinBy), (180, k_m_doClash), (182, k_m_laidOnes), (183, k_m_coveredBy), (184, k_m_findClashing), (185, k_m_areAtPeace), (188, k_m_otherwiseAt), (193, k_m_allTrust), (190, k_m_goesOn), (191, k_m_goesOnMany)]
def k_r_pour : aK := ([.inr (false, [110]), .inl ((-2147483648), 2147483647)], some ((-2147483648), 2147483647), [(111, 111, 0, 0), (111, 111, 2, 74)], 50)
def tb_r_pour : aTb := fun mi i => if mi = 229 ∧ i = 16 then some ([((-2147483648), 2147483647, .inl 2), (0, 2147483647, .inl 3)], [], [4, 5], [(111, 111, 0, 0), (111, 111, 2, 74)], 1, true) else none
def kc_r_pour : List (Nat × aK) := [(158, k_m_saysAt), (160, k_m_loses), (161, k_m_worth), (163, k_m_covers), (222, k_m_counts), (159, k_m_gains), (147, k_m_manyIn), (175, k_m_falseOf), (178, k_m_joinBy), (180, k_m_doClash), (182, k_m_laidOnes), (183, k_m_coveredBy), (184, k_m_findClashing), (185, k_m_areAtPeace), (188, k_m_otherwiseAt), (193, k_m_allTrust), (190, k_m_goesOn), (191, k_m_goesOnMany)]
def k_r_reads : aK := ([.inr (false, [110]), .inl ((-2147483648), 2147483647)], some ((-2147483648), 2147483647), [], 50)
def tb_r_reads : aTb := fun mi i => if mi = 230 ∧ i = 14 then some ([(0, 2147483647, .inl 2)], [], [3], [], 0, true) else none
def kc_r_reads : List (Nat × aK) := [(158, k_m_saysAt), (160, k_m_loses), (161, k_m_worth), (163, k_m_covers), (222, k_m_counts), (159, k_m_gains), (147, k_m_manyIn), (175, k_m_falseOf), (178, k_m_joinBy), (180, k_m_doClash), (182, k_m_laidOnes), (183, k_m_coveredBy), (184, k_m_findClashing), (185, k_m_areAtPeace), (188, k_m_otherwiseAt), (193, k_m_allTrust), (190, k_m_goesOn), (191, k_m_goesOnMany)]
def k_r_copy : aK := ([.inr (false, [110]), .inl ((-2147483648), 2147483647), .inl ((-2147483648), 2147483647), .inl ((-2147483648), 2147483647), .inl ((-2147483648), 2147483647), .inl ((-2147483648), 2147483647)], some ((-2147483648), 2147483647), [(114, 114, 0, 3), (115, 115, 0, 3), (116, 116, 0, 95), (127, 127, 0, 23)], 50)
def k_r_lay : aK := ([.inr (false, [110]), .inl ((-2147483648), 2147483647), .inl ((-2147483648), 2147483647), .inl ((-2147483648), 2147483647)], some ((-2147483648), 2147483647), [(117, 117, 0, 4), (118, 118, 0, 4), (119, 119, 0, 4), (120, 120, 0, 4), (121, 121, 0, 119)], 50)
def tb_r_lay : aTb := fun mi i => if mi = 234 ∧ i = 87 then some ([(0, 2147483647, .inl 6)], [], [], [(117, 117, 0, 4), (118, 118, 0, 4), (119, 119, 0, 4), (120, 120, 0, 4), (121, 121, 0, 119)], 0, true) else none
def kc_r_lay : List (Nat × aK) := [(158, k_m_saysAt), (160, k_m_loses), (161, k_m_worth), (163, k_m_covers), (222, k_m_counts), (159, k_m_gains), (147, k_m_manyIn), (175, k_m_falseOf), (178, k_m_joinBy), (180, k_m_doClash), (182, k_m_laidOnes), (183, k_m_coveredBy), (184, k_m_findClashing), (185, k_m_areAtPeace), (188, k_m_otherwiseAt), (193, k_m_allTrust), (190, k_m_goesOn), (191, k_m_goesOnMany)]
def k_r_ask : aK := ([.inr (false, [110]), .inl ((-2147483648), 2147483647), .inl ((-2147483648), 2147483647)], some ((-2147483648), 2147483647), [], 50)
def tb_r_ask : aTb := fun mi i => none
def kc_r_ask : List (Nat × aK) := [(158, k_m_saysAt), (160, k_m_loses), (161, k_m_worth), (163, k_m_covers), (222, k_m_counts), (159, k_m_gains), (147, k_m_manyIn), (175, k_m_falseOf), (178, k_m_joinBy), (180, k_m_doClash), (182, k_m_laidOnes), (183, k_m_coveredBy), (184, k_m_findClashing), (185, k_m_areAtPeace), (188, k_m_otherwiseAt), (193, k_m_allTrust), (190, k_m_goesOn), (191, k_m_goesOnMany)]
def k_r_item : aK := ([.inr (false, [110]), .inl ((-2147483648), 2147483647), .inl ((-2147483648), 2147483647)], some ((-2147483648), 2147483647), [], 50)
def tb_r_item : aTb := fun mi i => none
def kc_r_item : List (Nat × aK) := [(158, k_m_saysAt), (160, k_m_loses), (161, k_m_worth), (163, k_m_covers), (222, k_m_counts), (159, k_m_gains), (147, k_m_manyIn), (175, k_m_falseOf), (178, k_m_joinBy), (180, k_m_doClash), (182, k_m_laidOnes), (183, k_m_coveredBy), (184, k_m_findClashing), (185, k_m_areAtPeace), (188, k_m_otherwiseAt), (193, k_m_allTrust), (190, k_m_goesOn), (191, k_m_goesOnMany)]
def k_r_rest : aK := ([.inr (false, [110]), .inl ((-2147483648), 2147483647), .inl ((-2147483648), 2147483647)], some ((-2147483648), 2147483647), [], 50)
def tb_r_rest : aTb := fun mi i => none
def kc_r_rest : List (Nat × aK) := [(158, k_m_saysAt), (160, k_m_loses), (161, k_m_worth), (163, k_m_covers), (222, k_m_counts), (159, k_m_gains), (147, k_m_manyIn), (175, k_m_falseOf), (178, k_m_joinBy), (180, k_m_doClash), (182, k_m_laidOnes), (183, k_m_coveredBy), (184, k_m_findClashing), (185, k_m_areAtPeace), (188, k_m_otherwiseAt), (193, k_m_allTrust), (190, k_m_goesOn), (191, k_m_goesOnMany)]
def k_r_tell : aK := ([.inr (false, [110]), .inl ((-2147483648), 2147483647)], some ((-2147483648), 2147483647), [(110, 110, 30, 30), (128, 128, 0, 59)], 50)
def tb_r_tell : aTb := fun mi i => none
def kc_r_tell : List (Nat × aK) := [(158, k_m_saysAt), (160, k_m_loses), (161, k_m_worth), (163, k_m_covers), (222, k_m_counts), (159, k_m_gains), (147, k_m_manyIn), (175, k_m_falseOf), (178, k_m_joinBy), (180, k_m_doClash), (182, k_m_laidOnes), (183, k_m_coveredBy), (184, k_m_findClashing), (185, k_m_areAtPeace), (188, k_m_otherwiseAt), (193, k_m_allTrust), (190, k_m_goesOn), (191, k_m_goesOnMany)]
def k_r_count : aK := ([.inr (false, [110]), .inl ((-2147483648), 2147483647)], some ((-2147483648), 2147483647), [], 50)
def tb_r_count : aTb := fun mi i => none
def kc_r_count : List (Nat × aK) := [(158, k_m_saysAt), (160, k_m_loses), (161, k_m_worth), (163, k_m_covers), (222, k_m_counts), (159, k_m_gains), (147, k_m_manyIn), (175, k_m_falseOf), (178, k_m_joinBy), (180, k_m_doClash), (182, k_m_laidOnes), (183, k_m_coveredBy), (184, k_m_findClashing), (185, k_m_areAtPeace), (188, k_m_otherwiseAt), (193, k_m_allTrust), (190, k_m_goesOn), (191, k_m_goesOnMany)]
def k_r_text : aK := ([.inr (false, [110])], some ((-2147483648), 2147483647), [(110, 110, 15, 25), (111, 111, 1, 1), (111, 111, 75, 3074)], 110)
def k_r_check : aK := ([.inr (false, [110]), .inl ((-2147483648), 2147483647)], some ((-2147483648), 2147483647), [(125, 125, 0, 127), (126, 126, 0, 99), (111, 111, 0, 0), (111, 111, 2, 74), (113, 113, 0, 3074), (129, 129, 0, 59), (110, 110, 30, 30)], 50)
def k_r_keep : aK := ([.inr (false, [110])], some ((-2147483648), 2147483647), [(112, 112, 0, 3074), (110, 110, 3, 3)], 50)
def k_r_back : aK := ([.inr (false, [110])], some ((-2147483648), 2147483647), [(111, 111, 0, 3074)], 50)
