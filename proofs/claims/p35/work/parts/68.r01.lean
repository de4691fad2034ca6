/-! ===== products, further ===== -/
def tp_carve6 : aTb := fun mi i => none
def rp_carve6 : List pq := [((0, 35, 6), (0, 111, 11), 0, 3)]
set_option maxRecDepth 100000 in
set_option maxHeartbeats 40000000 in
theorem cp_carve6 : prchk RL CL rp_carve6 [(35, 35, 6, 6), (111, 111, 11, 11)] [] tp_carve6 138 92 171 2 [(6, 6), ((-2147483648), 2147483647)] [] = true := by decide +kernel
def tp_carve7 : aTb := fun mi i => none
def rp_carve7 : List pq := [((0, 35, 7), (0, 111, 12), 0, 3)]
set_option maxRecDepth 100000 in
set_option maxHeartbeats 40000000 in
theorem cp_carve7 : prchk RL CL rp_carve7 [(35, 35, 7, 7), (111, 111, 12, 12)] [] tp_carve7 138 92 171 2 [(7, 7), ((-2147483648), 2147483647)] [] = true := by decide +kernel
def tp_carve8 : aTb := fun mi i => none
def rp_carve8 : List pq := [((0, 35, 8), (0, 111, 13), 0, 3)]
set_option maxRecDepth 100000 in
set_option maxHeartbeats 40000000 in
theorem cp_carve8 : prchk RL CL rp_carve8 [(35, 35, 8, 8), (111, 111, 13, 13)] [] tp_carve8 138 92 171 2 [(8, 8), ((-2147483648), 2147483647)] [] = true := by decide +kernel
def tp_carve9 : aTb := fun mi i => none
def rp_carve9 : List pq := [((0, 35, 9), (0, 111, 14), 0, 3)]
set_option maxRecDepth 100000 in
set_option maxHeartbeats 40000000 in
theorem cp_carve9 : prchk RL CL rp_carve9 [(35, 35, 9, 9), (111, 111, 14, 14)] [] tp_carve9 138 92 171 2 [(9, 9), ((-2147483648), 2147483647)] [] = true := by decide +kernel
def tp_carve10 : aTb := fun mi i => none
def rp_carve10 : List pq := [((0, 35, 10), (0, 111, 15), 0, 3)]
set_option maxRecDepth 100000 in
set_option maxHeartbeats 40000000 in
theorem cp_carve10 : prchk RL CL rp_carve10 [(35, 35, 10, 10), (111, 111, 15, 15)] [] tp_carve10 138 92 171 2 [(10, 10), ((-2147483648), 2147483647)] [] = true := by decide +kernel
def tp_carve11 : aTb := fun mi i => none
def rp_carve11 : List pq := [((0, 35, 11), (0, 111, 16), 0, 3)]
set_option maxRecDepth 100000 in
set_option maxHeartbeats 40000000 in
theorem cp_carve11 : prchk RL CL rp_carve11 [(35, 35, 11, 11), (111, 111, 16, 16)] [] tp_carve11 138 92 171 2 [(11, 11), ((-2147483648), 2147483647)] [] = true := by decide +kernel
def tp_carve12 : aTb := fun mi i => none
def rp_carve12 : List pq := [((0, 35, 12), (0, 111, 17), 0, 3)]
set_option maxRecDepth 100000 in
set_option maxHeartbeats 40000000 in
theorem cp_carve12 : prchk RL CL rp_carve12 [(35, 35, 12, 12), (111, 111, 17, 17)] [] tp_carve12 138 92 171 2 [(12, 12), ((-2147483648), 2147483647)] [] = true := by decide +kernel
def tp_carve13 : aTb := fun mi i => none
def rp_carve13 : List pq := [((0, 35, 13), (0, 111, 18), 0, 3)]
set_option maxRecDepth 100000 in
set_option maxHeartbeats 40000000 in
theorem cp_carve13 : prchk RL CL rp_carve13 [(35, 35, 13, 13), (111, 111, 18, 18)] [] tp_carve13 138 92 171 2 [(13, 13), ((-2147483648), 2147483647)] [] = true := by decide +kernel
def tp_carve14 : aTb := fun mi i => none
def rp_carve14 : List pq := [((0, 35, 14), (0, 111, 19), 0, 3)]
set_option maxRecDepth 100000 in
set_option maxHeartbeats 40000000 in
theorem cp_carve14 : prchk RL CL rp_carve14 [(35, 35, 14, 14), (111, 111, 19, 19)] [] tp_carve14 138 92 171 2 [(14, 14), ((-2147483648), 2147483647)] [] = true := by decide +kernel
def tp_carve15 : aTb := fun mi i => none
def rp_carve15 : List pq := [((0, 35, 15), (0, 111, 20), 0, 3)]
set_option maxRecDepth 100000 in
set_option maxHeartbeats 40000000 in
theorem cp_carve15 : prchk RL CL rp_carve15 [(35, 35, 15, 15), (111, 111, 20, 20)] [] tp_carve15 138 92 171 2 [(15, 15), ((-2147483648), 2147483647)] [] = true := by decide +kernel
def tp_carvel : aTb := fun mi i => none
def rp_carvel : List pq := []
set_option maxRecDepth 100000 in
set_option maxHeartbeats 40000000 in
theorem cp_carvel : prchk RL CL rp_carvel [] [] tp_carvel 44 92 171 2 [((-2147483648), (-1)), ((-2147483648), 2147483647)] [] = true := by decide +kernel
def tp_carveh : aTb := fun mi i => none
def rp_carveh : List pq := []
set_option maxRecDepth 100000 in
set_option maxHeartbeats 40000000 in
theorem cp_carveh : prchk RL CL rp_carveh [] [] tp_carveh 51 92 171 2 [(16, 2147483647), ((-2147483648), 2147483647)] [] = true := by decide +kernel
def to_keep : aTb := fun mi i => if mi = 61 ∧ i = 38 then some ([(0, 2147483647, .inl 2)], [], [3], [(53, 61, 0, 5)], 0, true) else none
def ro_keep : List pq := [((8, 34, 5), (0, 111, 0), 0, 9), ((0, 35, 0), (0, 111, 5), 0, 3), ((0, 35, 1), (0, 111, 6), 0, 3), ((0, 35, 2), (0, 111, 7), 0, 3), ((0, 35, 3), (0, 111, 8), 0, 3), ((0, 35, 4), (0, 111, 9), 0, 3), ((0, 35, 5), (0, 111, 10), 0, 3), ((0, 35, 6), (0, 111, 11), 0, 3), ((0, 35, 7), (0, 111, 12), 0, 3), ((0, 35, 8), (0, 111, 13), 0, 3), ((0, 35, 9), (0, 111, 14), 0, 3), ((0, 35, 10), (0, 111, 15), 0, 3), ((0, 35, 11), (0, 111, 16), 0, 3), ((0, 35, 12), (0, 111, 17), 0, 3), ((0, 35, 13), (0, 111, 18), 0, 3), ((0, 35, 14), (0, 111, 19), 0, 3), ((0, 35, 15), (0, 111, 20), 0, 3)]
set_option maxRecDepth 100000 in
set_option maxHeartbeats 40000000 in
theorem ox_keep : oxchk ro_keep [(48, 48, 5, 9), (49, 49, 0, 15), (52, 52, 0, 2), (53, 61, 0, 5), (0, 0, 9, 9)] [] to_keep 129 128 0 [] [] (fun _ C _ x => ecV [(48, 5, (1, 1, 0, 1)), (0, 9, (0, 1, 1, 0)), (49, 0, (1, 1, 0, 2)), (49, 1, (1, 1, 0, 3)), (49, 2, (1, 1, 0, 4)), (49, 3, (1, 1, 0, 5)), (49, 4, (1, 1, 0, 6)), (49, 5, (1, 1, 0, 7)), (49, 6, (1, 1, 0, 8)), (49, 7, (1, 1, 0, 9)), (49, 8, (1, 1, 0, 10)), (49, 9, (1, 1, 0, 11)), (49, 10, (1, 1, 0, 12)), (49, 11, (1, 1, 0, 13)), (49, 12, (1, 1, 0, 14)), (49, 13, (1, 1, 0, 15)), (49, 14, (1, 1, 0, 16)), (49, 15, (1, 1, 0, 17))] (some (1, 1, 0, 1)) C x) = true := by decide +kernel
def to_back1 : aTb := fun mi i => if mi = 61 ∧ i = 38 then some ([(0, 2147483647, .inl 2)], [], [3], [(39, 47, 0, 5)], 0, true) else none
def ro_back1 : List pq := [((8, 48, 5), (0, 112, 0), 0, 9), ((9, 0, 9), (10, 110, 3), 1, 1), ((0, 49, 0), (0, 112, 5), 0, 3), ((0, 49, 1), (0, 112, 6), 0, 3), ((0, 49, 2), (0, 112, 7), 0, 3), ((0, 49, 3), (0, 112, 8), 0, 3), ((0, 49, 4), (0, 112, 9), 0, 3), ((0, 49, 5), (0, 112, 10), 0, 3), ((0, 49, 6), (0, 112, 11), 0, 3), ((0, 49, 7), (0, 112, 12), 0, 3), ((0, 49, 8), (0, 112, 13), 0, 3), ((0, 49, 9), (0, 112, 14), 0, 3), ((0, 49, 10), (0, 112, 15), 0, 3), ((0, 49, 11), (0, 112, 16), 0, 3), ((0, 49, 12), (0, 112, 17), 0, 3), ((0, 49, 13), (0, 112, 18), 0, 3), ((0, 49, 14), (0, 112, 19), 0, 3), ((0, 49, 15), (0, 112, 20), 0, 3)]
set_option maxRecDepth 100000 in
set_option maxHeartbeats 40000000 in
theorem ox_back1 : oxchk ro_back1 [(34, 34, 5, 9), (35, 35, 0, 15), (38, 38, 0, 2), (39, 47, 0, 5)] [] to_back1 132 129 0 [] [] (fun _ C _ x => ecV [(34, 5, (1, 1, 0, 1)), (35, 0, (1, 1, 0, 3)), (35, 1, (1, 1, 0, 4)), (35, 2, (1, 1, 0, 5)), (35, 3, (1, 1, 0, 6)), (35, 4, (1, 1, 0, 7)), (35, 5, (1, 1, 0, 8)), (35, 6, (1, 1, 0, 9)), (35, 7, (1, 1, 0, 10)), (35, 8, (1, 1, 0, 11)), (35, 9, (1, 1, 0, 12)), (35, 10, (1, 1, 0, 13)), (35, 11, (1, 1, 0, 14)), (35, 12, (1, 1, 0, 15)), (35, 13, (1, 1, 0, 16)), (35, 14, (1, 1, 0, 17)), (35, 15, (1, 1, 0, 18))] (some (1, 1, 0, 1)) C x) = true := by decide +kernel
def to_back0 : aTb := fun mi i => none
def ro_back0 : List pq := [((9, 0, 9), (10, 110, 3), 0, 0)]
set_option maxRecDepth 100000 in
set_option maxHeartbeats 40000000 in
theorem ox_back0 : oxchk ro_back0 [] [] to_back0 11 129 0 [] [] (fun _ C _ x => ecV [] (some (0, (-1000000002), (-1000000002), 0)) C x) = true := by decide +kernel
