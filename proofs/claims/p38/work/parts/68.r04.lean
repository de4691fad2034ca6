/-! ===== products, further ===== -/
def tp_lay4_0s3 : aTb := fun mi i => none
def rp_lay4_0s3 : List pq := [((7, 106, 2), (0, 117, 4), 0, 3), ((5, 86, 1), (0, 114, 2), (-1), 1), ((5, 86, 2), (0, 115, 2), 0, 24)]
set_option maxRecDepth 100000 in
set_option maxHeartbeats 40000000 in
theorem cp_lay4_0s3 : prchk RL CL rp_lay4_0s3 [(106, 106, 2, 3), (107, 107, 0, 5), (108, 108, 1, 2), (109, 109, 0, 23), (117, 117, 4, 4), (118, 118, 4, 4), (119, 119, 4, 4), (120, 120, 4, 4), (121, 121, 96, 119)] [] tp_lay4_0s3 761 122 234 3 [(4, 4), (2, 2), (2, 2)] [] = true := by decide +kernel
def tp_lay4_0s4 : aTb := fun mi i => none
def rp_lay4_0s4 : List pq := [((7, 106, 2), (0, 117, 4), 0, 3), ((5, 88, 1), (0, 114, 3), (-1), 1), ((5, 88, 2), (0, 115, 3), 0, 24)]
set_option maxRecDepth 100000 in
set_option maxHeartbeats 40000000 in
theorem cp_lay4_0s4 : prchk RL CL rp_lay4_0s4 [(106, 106, 2, 3), (107, 107, 0, 5), (108, 108, 1, 2), (109, 109, 0, 23), (117, 117, 4, 4), (118, 118, 4, 4), (119, 119, 4, 4), (120, 120, 4, 4), (121, 121, 96, 119)] [] tp_lay4_0s4 761 122 234 3 [(4, 4), (2, 2), (3, 3)] [] = true := by decide +kernel
def tp_lay4_0s5 : aTb := fun mi i => none
def rp_lay4_0s5 : List pq := [((7, 106, 2), (0, 117, 4), 0, 3)]
set_option maxRecDepth 100000 in
set_option maxHeartbeats 40000000 in
theorem cp_lay4_0s5 : prchk RL CL rp_lay4_0s5 [(106, 106, 2, 3), (107, 107, 0, 5), (108, 108, 1, 2), (109, 109, 0, 23), (117, 117, 4, 4), (118, 118, 4, 4), (119, 119, 4, 4), (120, 120, 4, 4), (121, 121, 96, 119)] [] tp_lay4_0s5 151 122 234 3 [(4, 4), (2, 2), (4, 2147483647)] [] = true := by decide +kernel
def tp_layl : aTb := fun mi i => none
def rp_layl : List pq := []
set_option maxRecDepth 100000 in
set_option maxHeartbeats 40000000 in
theorem cp_layl : prchk RL CL rp_layl [] [] tp_layl 85 122 234 3 [((-2147483648), (-1)), ((-2147483648), 2147483647), ((-2147483648), 2147483647)] [] = true := by decide +kernel
def tp_layh : aTb := fun mi i => none
def rp_layh : List pq := []
set_option maxRecDepth 100000 in
set_option maxHeartbeats 40000000 in
theorem cp_layh : prchk RL CL rp_layh [] [] tp_layh 94 122 234 3 [(5, 2147483647), ((-2147483648), 2147483647), ((-2147483648), 2147483647)] [] = true := by decide +kernel
def to_keep : aTb := fun mi i => if mi = 61 ∧ i = 38 then some ([(0, 2147483647, .inl 2)], [], [3], [(53, 61, 0, 5)], 0, true) else none
def ro_keep : List pq := [((8, 34, 5), (0, 111, 0), 0, 9)]
set_option maxRecDepth 100000 in
set_option maxHeartbeats 40000000 in
theorem ox_keep : oxchk ro_keep [(48, 48, 5, 9), (49, 49, 0, 15), (52, 52, 0, 2), (53, 61, 0, 5), (0, 0, 9, 9)] [] to_keep 129 128 0 [] [] (fun _ C _ x => ecV [(48, 5, (1, 1, 0, 1)), (0, 9, (0, 1, 1, 0))] (some (1, 1, 0, 1)) C x) = true := by decide +kernel
def to_back1 : aTb := fun mi i => if mi = 61 ∧ i = 38 then some ([(0, 2147483647, .inl 2)], [], [3], [(39, 47, 0, 5)], 0, true) else none
def ro_back1 : List pq := [((8, 48, 5), (0, 112, 0), 0, 9), ((9, 0, 9), (10, 110, 3), 1, 1)]
set_option maxRecDepth 100000 in
set_option maxHeartbeats 40000000 in
theorem ox_back1 : oxchk ro_back1 [(34, 34, 5, 9), (35, 35, 0, 15), (38, 38, 0, 2), (39, 47, 0, 5)] [] to_back1 132 129 0 [] [] (fun _ C _ x => ecV [(34, 5, (1, 1, 0, 1))] (some (1, 1, 0, 1)) C x) = true := by decide +kernel
def to_back0 : aTb := fun mi i => none
def ro_back0 : List pq := [((9, 0, 9), (10, 110, 3), 0, 0)]
set_option maxRecDepth 100000 in
set_option maxHeartbeats 40000000 in
theorem ox_back0 : oxchk ro_back0 [] [] to_back0 11 129 0 [] [] (fun _ C _ x => ecV [] (some (0, (-1000000002), (-1000000002), 0)) C x) = true := by decide +kernel
