/-! ===== products, further ===== -/
def tp_lay1_3s1 : aTb := fun mi i => none
def rp_lay1_3s1 : List pq := [((7, 94, 2), (0, 117, 1), 3, 3), ((7, 94, 3), (0, 118, 1), (-2147483648), 2147483647), ((5, 82, 1), (0, 114, 0), (-1), 1), ((5, 82, 2), (0, 115, 0), 0, 24)]
set_option maxRecDepth 100000 in
set_option maxHeartbeats 40000000 in
theorem cp_lay1_3s1 : prchk RL CL rp_lay1_3s1 [(94, 94, 2, 3), (95, 95, 0, 5), (96, 96, 1, 2), (97, 97, 0, 23), (117, 117, 1, 1), (118, 118, 1, 1), (119, 119, 1, 1), (120, 120, 1, 1), (121, 121, 24, 47)] [] tp_lay1_3s1 761 122 234 3 [(1, 1), (2, 2), (0, 0)] [] = true := by decide +kernel
def tp_lay1_3s2 : aTb := fun mi i => none
def rp_lay1_3s2 : List pq := [((7, 94, 2), (0, 117, 1), 3, 3), ((7, 94, 3), (0, 118, 1), (-2147483648), 2147483647), ((5, 84, 1), (0, 114, 1), (-1), 1), ((5, 84, 2), (0, 115, 1), 0, 24)]
set_option maxRecDepth 100000 in
set_option maxHeartbeats 40000000 in
theorem cp_lay1_3s2 : prchk RL CL rp_lay1_3s2 [(94, 94, 2, 3), (95, 95, 0, 5), (96, 96, 1, 2), (97, 97, 0, 23), (117, 117, 1, 1), (118, 118, 1, 1), (119, 119, 1, 1), (120, 120, 1, 1), (121, 121, 24, 47)] [] tp_lay1_3s2 761 122 234 3 [(1, 1), (2, 2), (1, 1)] [] = true := by decide +kernel
def tp_lay1_3s3 : aTb := fun mi i => none
def rp_lay1_3s3 : List pq := [((7, 94, 2), (0, 117, 1), 3, 3), ((7, 94, 3), (0, 118, 1), (-2147483648), 2147483647), ((5, 86, 1), (0, 114, 2), (-1), 1), ((5, 86, 2), (0, 115, 2), 0, 24)]
set_option maxRecDepth 100000 in
set_option maxHeartbeats 40000000 in
theorem cp_lay1_3s3 : prchk RL CL rp_lay1_3s3 [(94, 94, 2, 3), (95, 95, 0, 5), (96, 96, 1, 2), (97, 97, 0, 23), (117, 117, 1, 1), (118, 118, 1, 1), (119, 119, 1, 1), (120, 120, 1, 1), (121, 121, 24, 47)] [] tp_lay1_3s3 761 122 234 3 [(1, 1), (2, 2), (2, 2)] [] = true := by decide +kernel
def tp_lay1_3s4 : aTb := fun mi i => none
def rp_lay1_3s4 : List pq := [((7, 94, 2), (0, 117, 1), 3, 3), ((7, 94, 3), (0, 118, 1), (-2147483648), 2147483647), ((5, 88, 1), (0, 114, 3), (-1), 1), ((5, 88, 2), (0, 115, 3), 0, 24)]
set_option maxRecDepth 100000 in
set_option maxHeartbeats 40000000 in
theorem cp_lay1_3s4 : prchk RL CL rp_lay1_3s4 [(94, 94, 2, 3), (95, 95, 0, 5), (96, 96, 1, 2), (97, 97, 0, 23), (117, 117, 1, 1), (118, 118, 1, 1), (119, 119, 1, 1), (120, 120, 1, 1), (121, 121, 24, 47)] [] tp_lay1_3s4 761 122 234 3 [(1, 1), (2, 2), (3, 3)] [] = true := by decide +kernel
def tp_lay1_3s5 : aTb := fun mi i => none
def rp_lay1_3s5 : List pq := [((7, 94, 2), (0, 117, 1), 3, 3), ((7, 94, 3), (0, 118, 1), (-2147483648), 2147483647)]
set_option maxRecDepth 100000 in
set_option maxHeartbeats 40000000 in
theorem cp_lay1_3s5 : prchk RL CL rp_lay1_3s5 [(94, 94, 2, 3), (95, 95, 0, 5), (96, 96, 1, 2), (97, 97, 0, 23), (117, 117, 1, 1), (118, 118, 1, 1), (119, 119, 1, 1), (120, 120, 1, 1), (121, 121, 24, 47)] [] tp_lay1_3s5 151 122 234 3 [(1, 1), (2, 2), (4, 2147483647)] [] = true := by decide +kernel
def tp_lay2_0_0 : aTb := fun mi i => none
def rp_lay2_0_0 : List pq := [((7, 98, 2), (0, 117, 2), 0, 2)]
set_option maxRecDepth 100000 in
set_option maxHeartbeats 40000000 in
theorem cp_lay2_0_0 : prchk RL CL rp_lay2_0_0 [(98, 98, 2, 3), (99, 99, 0, 5), (100, 100, 1, 2), (101, 101, 0, 23), (117, 117, 2, 2), (118, 118, 2, 2), (119, 119, 2, 2), (120, 120, 2, 2), (121, 121, 48, 71)] [] tp_lay2_0_0 85 122 234 3 [(2, 2), ((-2147483648), (-1)), ((-2147483648), 2147483647)] [] = true := by decide +kernel
def tp_lay2_0_1 : aTb := fun mi i => none
def rp_lay2_0_1 : List pq := [((7, 98, 2), (0, 117, 2), 0, 2)]
set_option maxRecDepth 100000 in
set_option maxHeartbeats 40000000 in
theorem cp_lay2_0_1 : prchk RL CL rp_lay2_0_1 [(98, 98, 2, 3), (99, 99, 0, 5), (100, 100, 1, 2), (101, 101, 0, 23), (117, 117, 2, 2), (118, 118, 2, 2), (119, 119, 2, 2), (120, 120, 2, 2), (121, 121, 48, 71)] [] tp_lay2_0_1 176 122 234 3 [(2, 2), (0, 0), ((-2147483648), 2147483647)] [] = true := by decide +kernel
def tp_lay2_0_2 : aTb := fun mi i => none
def rp_lay2_0_2 : List pq := [((8, 34, 5), (0, 111, 0), 0, 9), ((7, 98, 2), (0, 117, 2), 0, 2)]
set_option maxRecDepth 100000 in
set_option maxHeartbeats 40000000 in
theorem cp_lay2_0_2 : prchk RL CL rp_lay2_0_2 [(98, 98, 2, 3), (99, 99, 0, 5), (100, 100, 1, 2), (101, 101, 0, 23), (117, 117, 2, 2), (118, 118, 2, 2), (119, 119, 2, 2), (120, 120, 2, 2), (121, 121, 48, 71)] [(161, k_m_worth)] tp_lay2_0_2 255 122 234 3 [(2, 2), (1, 1), ((-2147483648), 2147483647)] [] = true := by decide +kernel
def tp_lay2_0_3 : aTb := fun mi i => none
def rp_lay2_0_3 : List pq := [((7, 98, 2), (0, 117, 2), 0, 2)]
set_option maxRecDepth 100000 in
set_option maxHeartbeats 40000000 in
theorem cp_lay2_0_3 : prchk RL CL rp_lay2_0_3 [(98, 98, 2, 3), (99, 99, 0, 5), (100, 100, 1, 2), (101, 101, 0, 23), (117, 117, 2, 2), (118, 118, 2, 2), (119, 119, 2, 2), (120, 120, 2, 2), (121, 121, 48, 71)] [] tp_lay2_0_3 182 122 234 3 [(2, 2), (3, 3), ((-2147483648), 2147483647)] [] = true := by decide +kernel
def tp_lay2_0_4 : aTb := fun mi i => none
def rp_lay2_0_4 : List pq := [((7, 98, 2), (0, 117, 2), 0, 2)]
set_option maxRecDepth 100000 in
set_option maxHeartbeats 40000000 in
theorem cp_lay2_0_4 : prchk RL CL rp_lay2_0_4 [(98, 98, 2, 3), (99, 99, 0, 5), (100, 100, 1, 2), (101, 101, 0, 23), (117, 117, 2, 2), (118, 118, 2, 2), (119, 119, 2, 2), (120, 120, 2, 2), (121, 121, 48, 71)] [] tp_lay2_0_4 88 122 234 3 [(2, 2), (4, 2147483647), ((-2147483648), 2147483647)] [] = true := by decide +kernel
def tp_lay2_0s0 : aTb := fun mi i => none
def rp_lay2_0s0 : List pq := [((7, 98, 2), (0, 117, 2), 0, 2)]
set_option maxRecDepth 100000 in
set_option maxHeartbeats 40000000 in
theorem cp_lay2_0s0 : prchk RL CL rp_lay2_0s0 [(98, 98, 2, 3), (99, 99, 0, 5), (100, 100, 1, 2), (101, 101, 0, 23), (117, 117, 2, 2), (118, 118, 2, 2), (119, 119, 2, 2), (120, 120, 2, 2), (121, 121, 48, 71)] [] tp_lay2_0s0 129 122 234 3 [(2, 2), (2, 2), ((-2147483648), (-1))] [] = true := by decide +kernel
def tp_lay2_0s1 : aTb := fun mi i => none
def rp_lay2_0s1 : List pq := [((7, 98, 2), (0, 117, 2), 0, 2), ((5, 82, 1), (0, 114, 0), (-1), 1), ((5, 82, 2), (0, 115, 0), 0, 24)]
set_option maxRecDepth 100000 in
set_option maxHeartbeats 40000000 in
theorem cp_lay2_0s1 : prchk RL CL rp_lay2_0s1 [(98, 98, 2, 3), (99, 99, 0, 5), (100, 100, 1, 2), (101, 101, 0, 23), (117, 117, 2, 2), (118, 118, 2, 2), (119, 119, 2, 2), (120, 120, 2, 2), (121, 121, 48, 71)] [] tp_lay2_0s1 761 122 234 3 [(2, 2), (2, 2), (0, 0)] [] = true := by decide +kernel
def tp_lay2_0s2 : aTb := fun mi i => none
def rp_lay2_0s2 : List pq := [((7, 98, 2), (0, 117, 2), 0, 2), ((5, 84, 1), (0, 114, 1), (-1), 1), ((5, 84, 2), (0, 115, 1), 0, 24)]
set_option maxRecDepth 100000 in
set_option maxHeartbeats 40000000 in
theorem cp_lay2_0s2 : prchk RL CL rp_lay2_0s2 [(98, 98, 2, 3), (99, 99, 0, 5), (100, 100, 1, 2), (101, 101, 0, 23), (117, 117, 2, 2), (118, 118, 2, 2), (119, 119, 2, 2), (120, 120, 2, 2), (121, 121, 48, 71)] [] tp_lay2_0s2 761 122 234 3 [(2, 2), (2, 2), (1, 1)] [] = true := by decide +kernel
