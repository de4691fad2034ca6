/-! ===== products, further ===== -/
def tp_copy23k1 : aTb := fun mi i => none
def rp_copy23k1 : List pq := [((5, 86, 1), (0, 114, 2), 1, 1), ((5, 88, 1), (0, 114, 3), 0, 0)]
set_option maxRecDepth 100000 in
set_option maxHeartbeats 40000000 in
theorem cp_copy23k1 : prchk RL CL rp_copy23k1 [] [] tp_copy23k1 145 121 232 5 [(2, 2), ((-2147483648), 2147483647), (3, 3), ((-2147483648), 2147483647), ((-2147483648), 2147483647)] [] = true := by decide +kernel
def tp_copy30n : aTb := fun mi i => none
def rp_copy30n : List pq := [((5, 88, 1), (0, 114, 3), (-1), (-1)), ((5, 82, 1), (0, 114, 0), (-1), 1)]
set_option maxRecDepth 100000 in
set_option maxHeartbeats 40000000 in
theorem cp_copy30n : prchk RL CL rp_copy30n [] [] tp_copy30n 118 121 232 5 [(3, 3), ((-2147483648), 2147483647), (0, 0), ((-2147483648), 2147483647), ((-2147483648), 2147483647)] [] = true := by decide +kernel
def tp_copy30m0 : aTb := fun mi i => none
def rp_copy30m0 : List pq := [((5, 88, 1), (0, 114, 3), 0, 0), ((5, 82, 1), (0, 114, 0), (-1), (-1))]
set_option maxRecDepth 100000 in
set_option maxHeartbeats 40000000 in
theorem cp_copy30m0 : prchk RL CL rp_copy30m0 [] [] tp_copy30m0 132 121 232 5 [(3, 3), ((-2147483648), 2147483647), (0, 0), ((-2147483648), 2147483647), ((-2147483648), 2147483647)] [] = true := by decide +kernel
def tp_copy30k0 : aTb := fun mi i => none
def rp_copy30k0 : List pq := [((5, 88, 1), (0, 114, 3), 0, 0), ((5, 82, 1), (0, 114, 0), 1, 1)]
set_option maxRecDepth 100000 in
set_option maxHeartbeats 40000000 in
theorem cp_copy30k0 : prchk RL CL rp_copy30k0 [] [] tp_copy30k0 145 121 232 5 [(3, 3), ((-2147483648), 2147483647), (0, 0), ((-2147483648), 2147483647), ((-2147483648), 2147483647)] [] = true := by decide +kernel
def tp_copy30m1 : aTb := fun mi i => none
def rp_copy30m1 : List pq := [((5, 88, 1), (0, 114, 3), 1, 1), ((5, 82, 1), (0, 114, 0), (-1), (-1))]
set_option maxRecDepth 100000 in
set_option maxHeartbeats 40000000 in
theorem cp_copy30m1 : prchk RL CL rp_copy30m1 [] [] tp_copy30m1 132 121 232 5 [(3, 3), ((-2147483648), 2147483647), (0, 0), ((-2147483648), 2147483647), ((-2147483648), 2147483647)] [] = true := by decide +kernel
def tp_copy30k1 : aTb := fun mi i => none
def rp_copy30k1 : List pq := [((5, 88, 1), (0, 114, 3), 1, 1), ((5, 82, 1), (0, 114, 0), 0, 0)]
set_option maxRecDepth 100000 in
set_option maxHeartbeats 40000000 in
theorem cp_copy30k1 : prchk RL CL rp_copy30k1 [] [] tp_copy30k1 145 121 232 5 [(3, 3), ((-2147483648), 2147483647), (0, 0), ((-2147483648), 2147483647), ((-2147483648), 2147483647)] [] = true := by decide +kernel
def tp_copy31n : aTb := fun mi i => none
def rp_copy31n : List pq := [((5, 88, 1), (0, 114, 3), (-1), (-1)), ((5, 84, 1), (0, 114, 1), (-1), 1)]
set_option maxRecDepth 100000 in
set_option maxHeartbeats 40000000 in
theorem cp_copy31n : prchk RL CL rp_copy31n [] [] tp_copy31n 118 121 232 5 [(3, 3), ((-2147483648), 2147483647), (1, 1), ((-2147483648), 2147483647), ((-2147483648), 2147483647)] [] = true := by decide +kernel
def tp_copy31m0 : aTb := fun mi i => none
def rp_copy31m0 : List pq := [((5, 88, 1), (0, 114, 3), 0, 0), ((5, 84, 1), (0, 114, 1), (-1), (-1))]
set_option maxRecDepth 100000 in
set_option maxHeartbeats 40000000 in
theorem cp_copy31m0 : prchk RL CL rp_copy31m0 [] [] tp_copy31m0 132 121 232 5 [(3, 3), ((-2147483648), 2147483647), (1, 1), ((-2147483648), 2147483647), ((-2147483648), 2147483647)] [] = true := by decide +kernel
def tp_copy31k0 : aTb := fun mi i => none
def rp_copy31k0 : List pq := [((5, 88, 1), (0, 114, 3), 0, 0), ((5, 84, 1), (0, 114, 1), 1, 1)]
set_option maxRecDepth 100000 in
set_option maxHeartbeats 40000000 in
theorem cp_copy31k0 : prchk RL CL rp_copy31k0 [] [] tp_copy31k0 145 121 232 5 [(3, 3), ((-2147483648), 2147483647), (1, 1), ((-2147483648), 2147483647), ((-2147483648), 2147483647)] [] = true := by decide +kernel
def tp_copy31m1 : aTb := fun mi i => none
def rp_copy31m1 : List pq := [((5, 88, 1), (0, 114, 3), 1, 1), ((5, 84, 1), (0, 114, 1), (-1), (-1))]
set_option maxRecDepth 100000 in
set_option maxHeartbeats 40000000 in
theorem cp_copy31m1 : prchk RL CL rp_copy31m1 [] [] tp_copy31m1 132 121 232 5 [(3, 3), ((-2147483648), 2147483647), (1, 1), ((-2147483648), 2147483647), ((-2147483648), 2147483647)] [] = true := by decide +kernel
def tp_copy31k1 : aTb := fun mi i => none
def rp_copy31k1 : List pq := [((5, 88, 1), (0, 114, 3), 1, 1), ((5, 84, 1), (0, 114, 1), 0, 0)]
set_option maxRecDepth 100000 in
set_option maxHeartbeats 40000000 in
theorem cp_copy31k1 : prchk RL CL rp_copy31k1 [] [] tp_copy31k1 145 121 232 5 [(3, 3), ((-2147483648), 2147483647), (1, 1), ((-2147483648), 2147483647), ((-2147483648), 2147483647)] [] = true := by decide +kernel
def tp_copy32n : aTb := fun mi i => none
def rp_copy32n : List pq := [((5, 88, 1), (0, 114, 3), (-1), (-1)), ((5, 86, 1), (0, 114, 2), (-1), 1)]
set_option maxRecDepth 100000 in
set_option maxHeartbeats 40000000 in
theorem cp_copy32n : prchk RL CL rp_copy32n [] [] tp_copy32n 118 121 232 5 [(3, 3), ((-2147483648), 2147483647), (2, 2), ((-2147483648), 2147483647), ((-2147483648), 2147483647)] [] = true := by decide +kernel
def tp_copy32m0 : aTb := fun mi i => none
def rp_copy32m0 : List pq := [((5, 88, 1), (0, 114, 3), 0, 0), ((5, 86, 1), (0, 114, 2), (-1), (-1))]
set_option maxRecDepth 100000 in
set_option maxHeartbeats 40000000 in
theorem cp_copy32m0 : prchk RL CL rp_copy32m0 [] [] tp_copy32m0 132 121 232 5 [(3, 3), ((-2147483648), 2147483647), (2, 2), ((-2147483648), 2147483647), ((-2147483648), 2147483647)] [] = true := by decide +kernel
def tp_copy32k0 : aTb := fun mi i => none
def rp_copy32k0 : List pq := [((5, 88, 1), (0, 114, 3), 0, 0), ((5, 86, 1), (0, 114, 2), 1, 1)]
set_option maxRecDepth 100000 in
set_option maxHeartbeats 40000000 in
theorem cp_copy32k0 : prchk RL CL rp_copy32k0 [] [] tp_copy32k0 145 121 232 5 [(3, 3), ((-2147483648), 2147483647), (2, 2), ((-2147483648), 2147483647), ((-2147483648), 2147483647)] [] = true := by decide +kernel
def tp_copy32m1 : aTb := fun mi i => none
def rp_copy32m1 : List pq := [((5, 88, 1), (0, 114, 3), 1, 1), ((5, 86, 1), (0, 114, 2), (-1), (-1))]
set_option maxRecDepth 100000 in
set_option maxHeartbeats 40000000 in
theorem cp_copy32m1 : prchk RL CL rp_copy32m1 [] [] tp_copy32m1 132 121 232 5 [(3, 3), ((-2147483648), 2147483647), (2, 2), ((-2147483648), 2147483647), ((-2147483648), 2147483647)] [] = true := by decide +kernel
def tp_copy32k1 : aTb := fun mi i => none
def rp_copy32k1 : List pq := [((5, 88, 1), (0, 114, 3), 1, 1), ((5, 86, 1), (0, 114, 2), 0, 0)]
set_option maxRecDepth 100000 in
set_option maxHeartbeats 40000000 in
theorem cp_copy32k1 : prchk RL CL rp_copy32k1 [] [] tp_copy32k1 145 121 232 5 [(3, 3), ((-2147483648), 2147483647), (2, 2), ((-2147483648), 2147483647), ((-2147483648), 2147483647)] [] = true := by decide +kernel
def tp_copy33n : aTb := fun mi i => none
def rp_copy33n : List pq := [((5, 88, 1), (0, 114, 3), (-1), (-1))]
set_option maxRecDepth 100000 in
set_option maxHeartbeats 40000000 in
theorem cp_copy33n : prchk RL CL rp_copy33n [] [] tp_copy33n 118 121 232 5 [(3, 3), ((-2147483648), 2147483647), (3, 3), ((-2147483648), 2147483647), ((-2147483648), 2147483647)] [] = true := by decide +kernel
