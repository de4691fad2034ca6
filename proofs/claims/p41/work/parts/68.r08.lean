/-! ===== products, further ===== -/
def tp_layl : aTb := fun mi i => none
def rp_layl : List pq := []
set_option maxRecDepth 100000 in
set_option maxHeartbeats 40000000 in
theorem cp_layl : prchk RL CL rp_layl [] [] tp_layl 85 122 234 3 [((-2147483648), (-1)), ((-2147483648), 2147483647), ((-2147483648), 2147483647)] [] = true := by decide +kernel
def tp_layh : aTb := fun mi i => none
def rp_layh : List pq := []
set_option maxRecDepth 100000 in
set_option maxHeartbeats 40000000 in
theorem cp_layh : prchk RL CL rp_layh [] [] tp_layh 94 122 234 3 [(5, 2147483647), ((-2147483648), 2147483647), ((-2147483648), 2147483647)] [] = true := by decide +kernel
def tp_rest0a : aTb := fun mi i => none
def rp_rest0a : List pq := [((7, 90, 2), (0, 117, 0), 0, 2)]
set_option maxRecDepth 100000 in
set_option maxHeartbeats 40000000 in
theorem cp_rest0a : prchk RL CL rp_rest0a [] [] tp_rest0a 76 125 237 2 [(0, 0), ((-2147483648), 2147483647)] [] = true := by decide +kernel
def tp_rest0b : aTb := fun mi i => none
def rp_rest0b : List pq := [((7, 90, 2), (0, 117, 0), 3, 3), ((7, 90, 3), (0, 118, 0), (-2147483648), 2147483647)]
set_option maxRecDepth 100000 in
set_option maxHeartbeats 40000000 in
theorem cp_rest0b : prchk RL CL rp_rest0b [] [] tp_rest0b 83 125 237 2 [(0, 0), ((-2147483648), 2147483647)] [] = true := by decide +kernel
def tp_rest1a : aTb := fun mi i => none
def rp_rest1a : List pq := [((7, 94, 2), (0, 117, 1), 0, 2)]
set_option maxRecDepth 100000 in
set_option maxHeartbeats 40000000 in
theorem cp_rest1a : prchk RL CL rp_rest1a [] [] tp_rest1a 76 125 237 2 [(1, 1), ((-2147483648), 2147483647)] [] = true := by decide +kernel
def tp_rest1b : aTb := fun mi i => none
def rp_rest1b : List pq := [((7, 94, 2), (0, 117, 1), 3, 3), ((7, 94, 3), (0, 118, 1), (-2147483648), 2147483647)]
set_option maxRecDepth 100000 in
set_option maxHeartbeats 40000000 in
theorem cp_rest1b : prchk RL CL rp_rest1b [] [] tp_rest1b 83 125 237 2 [(1, 1), ((-2147483648), 2147483647)] [] = true := by decide +kernel
def tp_rest2a : aTb := fun mi i => none
def rp_rest2a : List pq := [((7, 98, 2), (0, 117, 2), 0, 2)]
set_option maxRecDepth 100000 in
set_option maxHeartbeats 40000000 in
theorem cp_rest2a : prchk RL CL rp_rest2a [] [] tp_rest2a 76 125 237 2 [(2, 2), ((-2147483648), 2147483647)] [] = true := by decide +kernel
def tp_rest2b : aTb := fun mi i => none
def rp_rest2b : List pq := [((7, 98, 2), (0, 117, 2), 3, 3), ((7, 98, 3), (0, 118, 2), (-2147483648), 2147483647)]
set_option maxRecDepth 100000 in
set_option maxHeartbeats 40000000 in
theorem cp_rest2b : prchk RL CL rp_rest2b [] [] tp_rest2b 83 125 237 2 [(2, 2), ((-2147483648), 2147483647)] [] = true := by decide +kernel
def tp_rest3a : aTb := fun mi i => none
def rp_rest3a : List pq := [((7, 102, 2), (0, 117, 3), 0, 2)]
set_option maxRecDepth 100000 in
set_option maxHeartbeats 40000000 in
theorem cp_rest3a : prchk RL CL rp_rest3a [] [] tp_rest3a 76 125 237 2 [(3, 3), ((-2147483648), 2147483647)] [] = true := by decide +kernel
def tp_rest3b : aTb := fun mi i => none
def rp_rest3b : List pq := [((7, 102, 2), (0, 117, 3), 3, 3), ((7, 102, 3), (0, 118, 3), (-2147483648), 2147483647)]
set_option maxRecDepth 100000 in
set_option maxHeartbeats 40000000 in
theorem cp_rest3b : prchk RL CL rp_rest3b [] [] tp_rest3b 83 125 237 2 [(3, 3), ((-2147483648), 2147483647)] [] = true := by decide +kernel
def tp_rest4a : aTb := fun mi i => none
def rp_rest4a : List pq := [((7, 106, 2), (0, 117, 4), 0, 2)]
set_option maxRecDepth 100000 in
set_option maxHeartbeats 40000000 in
theorem cp_rest4a : prchk RL CL rp_rest4a [] [] tp_rest4a 76 125 237 2 [(4, 4), ((-2147483648), 2147483647)] [] = true := by decide +kernel
def tp_rest4b : aTb := fun mi i => none
def rp_rest4b : List pq := [((7, 106, 2), (0, 117, 4), 3, 3), ((7, 106, 3), (0, 118, 4), (-2147483648), 2147483647)]
set_option maxRecDepth 100000 in
set_option maxHeartbeats 40000000 in
theorem cp_rest4b : prchk RL CL rp_rest4b [] [] tp_rest4b 83 125 237 2 [(4, 4), ((-2147483648), 2147483647)] [] = true := by decide +kernel
def tp_restl : aTb := fun mi i => none
def rp_restl : List pq := []
set_option maxRecDepth 100000 in
set_option maxHeartbeats 40000000 in
theorem cp_restl : prchk RL CL rp_restl [] [] tp_restl 44 125 237 2 [((-2147483648), (-1)), ((-2147483648), 2147483647)] [] = true := by decide +kernel
def tp_resth : aTb := fun mi i => none
def rp_resth : List pq := []
set_option maxRecDepth 100000 in
set_option maxHeartbeats 40000000 in
theorem cp_resth : prchk RL CL rp_resth [] [] tp_resth 53 125 237 2 [(5, 2147483647), ((-2147483648), 2147483647)] [] = true := by decide +kernel
def to_keep : aTb := fun mi i => if mi = 61 ∧ i = 38 then some ([(0, 2147483647, .inl 2)], [], [3], [(53, 61, 0, 5)], 0, true) else none
def ro_keep : List pq := [((8, 34, 5), (0, 111, 0), 0, 9)]
set_option maxRecDepth 100000 in
set_option maxHeartbeats 40000000 in
theorem ox_keep : oxchk ro_keep [(48, 48, 5, 9), (49, 49, 0, 15), (52, 52, 0, 2), (53, 61, 0, 5), (0, 0, 9, 9)] [] to_keep 129 128 0 [] [] (fun _ C _ x => ecV [(48, 5, (1, 1, 0, 1)), (0, 9, (0, 1, 1, 0))] (some (1, 1, 0, 1)) C x) = true := by decide +kernel
def to_back1 : aTb := fun mi i => if mi = 61 ∧ i = 38 then some ([(0, 2147483647, .inl 2)], [], [3], [(39, 47, 0, 5)], 0, true) else none
def ro_back1 : List pq := [((8, 48, 5), (0, 112, 0), 0, 9), ((9, 0, 9), (10, 110, 3), 1, 1)]
set_option maxRecDepth 100000 in
set_option maxHeartbeats 40000000 in
theorem ox_back1 : oxchk ro_back1 [(34, 34, 5, 9), (35, 35, 0, 15), (38, 38, 0, 2), (39, 47, 0, 5)] [] to_back1 132 129 0 [] [] (fun _ C _ x => ecV [(34, 5, (1, 1, 0, 1))] (some (1, 1, 0, 1)) C x) = true := by decide +kernel
def to_back0 : aTb := fun mi i => none
def ro_back0 : List pq := [((9, 0, 9), (10, 110, 3), 0, 0)]
set_option maxRecDepth 100000 in
set_option maxHeartbeats 40000000 in
theorem ox_back0 : oxchk ro_back0 [] [] to_back0 11 129 0 [] [] (fun _ C _ x => ecV [] (some (0, (-1000000002), (-1000000002), 0)) C x) = true := by decide +kernel
