/-! ===== products, further ===== -/
def tp_lay4s4y : aTb := fun mi i => none
def rp_lay4s4y : List pq := [((5, 88, 1), (0, 114, 3), 0, 1), ((5, 88, 2), (0, 115, 3), 0, 24), ((7, 106, 2), (0, 117, 4), 0, 3), ((0, 89, 0), (0, 116, 72), (-2147483648), 2147483647), ((0, 89, 1), (0, 116, 73), (-2147483648), 2147483647), ((0, 89, 2), (0, 116, 74), (-2147483648), 2147483647), ((0, 89, 3), (0, 116, 75), (-2147483648), 2147483647), ((0, 89, 4), (0, 116, 76), (-2147483648), 2147483647), ((0, 89, 5), (0, 116, 77), (-2147483648), 2147483647), ((0, 89, 6), (0, 116, 78), (-2147483648), 2147483647), ((0, 89, 7), (0, 116, 79), (-2147483648), 2147483647), ((0, 89, 8), (0, 116, 80), (-2147483648), 2147483647), ((0, 89, 9), (0, 116, 81), (-2147483648), 2147483647), ((0, 89, 10), (0, 116, 82), (-2147483648), 2147483647), ((0, 89, 11), (0, 116, 83), (-2147483648), 2147483647), ((0, 89, 12), (0, 116, 84), (-2147483648), 2147483647), ((0, 89, 13), (0, 116, 85), (-2147483648), 2147483647), ((0, 89, 14), (0, 116, 86), (-2147483648), 2147483647), ((0, 89, 15), (0, 116, 87), (-2147483648), 2147483647), ((0, 89, 16), (0, 116, 88), (-2147483648), 2147483647), ((0, 89, 17), (0, 116, 89), (-2147483648), 2147483647), ((0, 89, 18), (0, 116, 90), (-2147483648), 2147483647), ((0, 89, 19), (0, 116, 91), (-2147483648), 2147483647), ((0, 89, 20), (0, 116, 92), (-2147483648), 2147483647), ((0, 89, 21), (0, 116, 93), (-2147483648), 2147483647), ((0, 89, 22), (0, 116, 94), (-2147483648), 2147483647), ((0, 89, 23), (0, 116, 95), (-2147483648), 2147483647)]
set_option maxRecDepth 100000 in
set_option maxHeartbeats 40000000 in
theorem cp_lay4s4y : prchk RL CL rp_lay4s4y [(106, 106, 2, 3), (107, 107, 0, 5), (117, 117, 4, 4), (118, 118, 4, 4), (119, 119, 4, 4), (108, 108, 1, 2), (109, 109, 0, 23), (120, 120, 4, 4), (121, 121, 96, 119)] [] tp_lay4s4y 761 122 234 3 [(4, 4), (2, 2), (3, 3)] [] = true := by decide +kernel
def tp_lay4s5 : aTb := fun mi i => none
def rp_lay4s5 : List pq := []
set_option maxRecDepth 100000 in
set_option maxHeartbeats 40000000 in
theorem cp_lay4s5 : prchk RL CL rp_lay4s5 [] [] tp_lay4s5 151 122 234 3 [(4, 4), (2, 2), (4, 2147483647)] [] = true := by decide +kernel
def tp_layl : aTb := fun mi i => none
def rp_layl : List pq := []
set_option maxRecDepth 100000 in
set_option maxHeartbeats 40000000 in
theorem cp_layl : prchk RL CL rp_layl [] [] tp_layl 85 122 234 3 [((-2147483648), (-1)), ((-2147483648), 2147483647), ((-2147483648), 2147483647)] [] = true := by decide +kernel
def tp_layh : aTb := fun mi i => none
def rp_layh : List pq := []
set_option maxRecDepth 100000 in
set_option maxHeartbeats 40000000 in
theorem cp_layh : prchk RL CL rp_layh [] [] tp_layh 94 122 234 3 [(5, 2147483647), ((-2147483648), 2147483647), ((-2147483648), 2147483647)] [] = true := by decide +kernel
def to_keep : aTb := fun mi i => if mi = 61 ∧ i = 38 then some ([(0, 2147483647, .inl 2)], [], [3], [(53, 61, 0, 5)], 0, true) else none
def ro_keep : List pq := [((8, 34, 5), (0, 111, 0), 0, 9)]
set_option maxRecDepth 100000 in
set_option maxHeartbeats 40000000 in
theorem ox_keep : oxchk ro_keep [(48, 48, 5, 9), (49, 49, 0, 15), (52, 52, 0, 2), (53, 61, 0, 5), (0, 0, 9, 9)] [] to_keep 129 128 0 [] [] (fun _ C _ x => ecV [(48, 5, (1, 1, 0, 1)), (0, 9, (0, 1, 1, 0))] (some (1, 1, 0, 1)) C x) = true := by decide +kernel
def to_back1 : aTb := fun mi i => if mi = 61 ∧ i = 38 then some ([(0, 2147483647, .inl 2)], [], [3], [(39, 47, 0, 5)], 0, true) else none
def ro_back1 : List pq := [((8, 48, 5), (0, 112, 0), 0, 9), ((9, 0, 9), (10, 110, 3), 1, 1)]
set_option maxRecDepth 100000 in
set_option maxHeartbeats 40000000 in
theorem ox_back1 : oxchk ro_back1 [(34, 34, 5, 9), (35, 35, 0, 15), (38, 38, 0, 2), (39, 47, 0, 5)] [] to_back1 132 129 0 [] [] (fun _ C _ x => ecV [(34, 5, (1, 1, 0, 1))] (some (1, 1, 0, 1)) C x) = true := by decide +kernel
def to_back0 : aTb := fun mi i => none
def ro_back0 : List pq := [((9, 0, 9), (10, 110, 3), 0, 0)]
set_option maxRecDepth 100000 in
set_option maxHeartbeats 40000000 in
theorem ox_back0 : oxchk ro_back0 [] [] to_back0 11 129 0 [] [] (fun _ C _ x => ecV [] (some (0, (-1000000002), (-1000000002), 0)) C x) = true := by decide +kernel
