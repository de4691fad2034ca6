/-! ===== products, further ===== -/
def tp_lay3_0_1 : aTb := fun mi i => none
def rp_lay3_0_1 : List pq := [((7, 102, 2), (0, 117, 3), 0, 2)]
set_option maxRecDepth 100000 in
set_option maxHeartbeats 40000000 in
theorem cp_lay3_0_1 : prchk RL CL rp_lay3_0_1 [(102, 102, 2, 3), (103, 103, 0, 5), (104, 104, 1, 2), (105, 105, 0, 23), (117, 117, 3, 3), (118, 118, 3, 3), (119, 119, 3, 3), (120, 120, 3, 3), (121, 121, 72, 95)] [] tp_lay3_0_1 176 122 234 3 [(3, 3), (0, 0), ((-2147483648), 2147483647)] [] = true := by decide +kernel
def tp_lay3_0_2 : aTb := fun mi i => none
def rp_lay3_0_2 : List pq := [((8, 34, 5), (0, 111, 0), 0, 9), ((7, 102, 2), (0, 117, 3), 0, 2)]
set_option maxRecDepth 100000 in
set_option maxHeartbeats 40000000 in
theorem cp_lay3_0_2 : prchk RL CL rp_lay3_0_2 [(102, 102, 2, 3), (103, 103, 0, 5), (104, 104, 1, 2), (105, 105, 0, 23), (117, 117, 3, 3), (118, 118, 3, 3), (119, 119, 3, 3), (120, 120, 3, 3), (121, 121, 72, 95)] [(161, k_m_worth)] tp_lay3_0_2 255 122 234 3 [(3, 3), (1, 1), ((-2147483648), 2147483647)] [] = true := by decide +kernel
def tp_lay3_0_3 : aTb := fun mi i => none
def rp_lay3_0_3 : List pq := [((7, 102, 2), (0, 117, 3), 0, 2)]
set_option maxRecDepth 100000 in
set_option maxHeartbeats 40000000 in
theorem cp_lay3_0_3 : prchk RL CL rp_lay3_0_3 [(102, 102, 2, 3), (103, 103, 0, 5), (104, 104, 1, 2), (105, 105, 0, 23), (117, 117, 3, 3), (118, 118, 3, 3), (119, 119, 3, 3), (120, 120, 3, 3), (121, 121, 72, 95)] [] tp_lay3_0_3 182 122 234 3 [(3, 3), (3, 3), ((-2147483648), 2147483647)] [] = true := by decide +kernel
def tp_lay3_0_4 : aTb := fun mi i => none
def rp_lay3_0_4 : List pq := [((7, 102, 2), (0, 117, 3), 0, 2)]
set_option maxRecDepth 100000 in
set_option maxHeartbeats 40000000 in
theorem cp_lay3_0_4 : prchk RL CL rp_lay3_0_4 [(102, 102, 2, 3), (103, 103, 0, 5), (104, 104, 1, 2), (105, 105, 0, 23), (117, 117, 3, 3), (118, 118, 3, 3), (119, 119, 3, 3), (120, 120, 3, 3), (121, 121, 72, 95)] [] tp_lay3_0_4 88 122 234 3 [(3, 3), (4, 2147483647), ((-2147483648), 2147483647)] [] = true := by decide +kernel
def tp_lay3_0s0 : aTb := fun mi i => none
def rp_lay3_0s0 : List pq := [((7, 102, 2), (0, 117, 3), 0, 2)]
set_option maxRecDepth 100000 in
set_option maxHeartbeats 40000000 in
theorem cp_lay3_0s0 : prchk RL CL rp_lay3_0s0 [(102, 102, 2, 3), (103, 103, 0, 5), (104, 104, 1, 2), (105, 105, 0, 23), (117, 117, 3, 3), (118, 118, 3, 3), (119, 119, 3, 3), (120, 120, 3, 3), (121, 121, 72, 95)] [] tp_lay3_0s0 129 122 234 3 [(3, 3), (2, 2), ((-2147483648), (-1))] [] = true := by decide +kernel
def tp_lay3_0s1 : aTb := fun mi i => none
def rp_lay3_0s1 : List pq := [((7, 102, 2), (0, 117, 3), 0, 2), ((5, 82, 1), (0, 114, 0), (-1), 1), ((5, 82, 2), (0, 115, 0), 0, 24)]
set_option maxRecDepth 100000 in
set_option maxHeartbeats 40000000 in
theorem cp_lay3_0s1 : prchk RL CL rp_lay3_0s1 [(102, 102, 2, 3), (103, 103, 0, 5), (104, 104, 1, 2), (105, 105, 0, 23), (117, 117, 3, 3), (118, 118, 3, 3), (119, 119, 3, 3), (120, 120, 3, 3), (121, 121, 72, 95)] [] tp_lay3_0s1 761 122 234 3 [(3, 3), (2, 2), (0, 0)] [] = true := by decide +kernel
def tp_lay3_0s2 : aTb := fun mi i => none
def rp_lay3_0s2 : List pq := [((7, 102, 2), (0, 117, 3), 0, 2), ((5, 84, 1), (0, 114, 1), (-1), 1), ((5, 84, 2), (0, 115, 1), 0, 24)]
set_option maxRecDepth 100000 in
set_option maxHeartbeats 40000000 in
theorem cp_lay3_0s2 : prchk RL CL rp_lay3_0s2 [(102, 102, 2, 3), (103, 103, 0, 5), (104, 104, 1, 2), (105, 105, 0, 23), (117, 117, 3, 3), (118, 118, 3, 3), (119, 119, 3, 3), (120, 120, 3, 3), (121, 121, 72, 95)] [] tp_lay3_0s2 761 122 234 3 [(3, 3), (2, 2), (1, 1)] [] = true := by decide +kernel
def tp_lay3_0s3 : aTb := fun mi i => none
def rp_lay3_0s3 : List pq := [((7, 102, 2), (0, 117, 3), 0, 2), ((5, 86, 1), (0, 114, 2), (-1), 1), ((5, 86, 2), (0, 115, 2), 0, 24)]
set_option maxRecDepth 100000 in
set_option maxHeartbeats 40000000 in
theorem cp_lay3_0s3 : prchk RL CL rp_lay3_0s3 [(102, 102, 2, 3), (103, 103, 0, 5), (104, 104, 1, 2), (105, 105, 0, 23), (117, 117, 3, 3), (118, 118, 3, 3), (119, 119, 3, 3), (120, 120, 3, 3), (121, 121, 72, 95)] [] tp_lay3_0s3 761 122 234 3 [(3, 3), (2, 2), (2, 2)] [] = true := by decide +kernel
def tp_lay3_0s4 : aTb := fun mi i => none
def rp_lay3_0s4 : List pq := [((7, 102, 2), (0, 117, 3), 0, 2), ((5, 88, 1), (0, 114, 3), (-1), 1), ((5, 88, 2), (0, 115, 3), 0, 24)]
set_option maxRecDepth 100000 in
set_option maxHeartbeats 40000000 in
theorem cp_lay3_0s4 : prchk RL CL rp_lay3_0s4 [(102, 102, 2, 3), (103, 103, 0, 5), (104, 104, 1, 2), (105, 105, 0, 23), (117, 117, 3, 3), (118, 118, 3, 3), (119, 119, 3, 3), (120, 120, 3, 3), (121, 121, 72, 95)] [] tp_lay3_0s4 761 122 234 3 [(3, 3), (2, 2), (3, 3)] [] = true := by decide +kernel
def tp_lay3_0s5 : aTb := fun mi i => none
def rp_lay3_0s5 : List pq := [((7, 102, 2), (0, 117, 3), 0, 2)]
set_option maxRecDepth 100000 in
set_option maxHeartbeats 40000000 in
theorem cp_lay3_0s5 : prchk RL CL rp_lay3_0s5 [(102, 102, 2, 3), (103, 103, 0, 5), (104, 104, 1, 2), (105, 105, 0, 23), (117, 117, 3, 3), (118, 118, 3, 3), (119, 119, 3, 3), (120, 120, 3, 3), (121, 121, 72, 95)] [] tp_lay3_0s5 151 122 234 3 [(3, 3), (2, 2), (4, 2147483647)] [] = true := by decide +kernel
def tp_lay3_3_0 : aTb := fun mi i => none
def rp_lay3_3_0 : List pq := [((7, 102, 2), (0, 117, 3), 3, 3), ((7, 102, 3), (0, 118, 3), (-2147483648), 2147483647)]
set_option maxRecDepth 100000 in
set_option maxHeartbeats 40000000 in
theorem cp_lay3_3_0 : prchk RL CL rp_lay3_3_0 [(102, 102, 2, 3), (103, 103, 0, 5), (104, 104, 1, 2), (105, 105, 0, 23), (117, 117, 3, 3), (118, 118, 3, 3), (119, 119, 3, 3), (120, 120, 3, 3), (121, 121, 72, 95)] [] tp_lay3_3_0 85 122 234 3 [(3, 3), ((-2147483648), (-1)), ((-2147483648), 2147483647)] [] = true := by decide +kernel
def tp_lay3_3_1 : aTb := fun mi i => none
def rp_lay3_3_1 : List pq := [((7, 102, 2), (0, 117, 3), 3, 3), ((7, 102, 3), (0, 118, 3), (-2147483648), 2147483647)]
set_option maxRecDepth 100000 in
set_option maxHeartbeats 40000000 in
theorem cp_lay3_3_1 : prchk RL CL rp_lay3_3_1 [(102, 102, 2, 3), (103, 103, 0, 5), (104, 104, 1, 2), (105, 105, 0, 23), (117, 117, 3, 3), (118, 118, 3, 3), (119, 119, 3, 3), (120, 120, 3, 3), (121, 121, 72, 95)] [] tp_lay3_3_1 176 122 234 3 [(3, 3), (0, 0), ((-2147483648), 2147483647)] [] = true := by decide +kernel
def tp_lay3_3_2 : aTb := fun mi i => none
def rp_lay3_3_2 : List pq := [((8, 34, 5), (0, 111, 0), 0, 9), ((7, 102, 2), (0, 117, 3), 3, 3), ((7, 102, 3), (0, 118, 3), (-2147483648), 2147483647)]
set_option maxRecDepth 100000 in
set_option maxHeartbeats 40000000 in
theorem cp_lay3_3_2 : prchk RL CL rp_lay3_3_2 [(102, 102, 2, 3), (103, 103, 0, 5), (104, 104, 1, 2), (105, 105, 0, 23), (117, 117, 3, 3), (118, 118, 3, 3), (119, 119, 3, 3), (120, 120, 3, 3), (121, 121, 72, 95)] [(161, k_m_worth)] tp_lay3_3_2 255 122 234 3 [(3, 3), (1, 1), ((-2147483648), 2147483647)] [] = true := by decide +kernel
def tp_lay3_3_3 : aTb := fun mi i => none
def rp_lay3_3_3 : List pq := [((7, 102, 2), (0, 117, 3), 3, 3), ((7, 102, 3), (0, 118, 3), (-2147483648), 2147483647)]
set_option maxRecDepth 100000 in
set_option maxHeartbeats 40000000 in
theorem cp_lay3_3_3 : prchk RL CL rp_lay3_3_3 [(102, 102, 2, 3), (103, 103, 0, 5), (104, 104, 1, 2), (105, 105, 0, 23), (117, 117, 3, 3), (118, 118, 3, 3), (119, 119, 3, 3), (120, 120, 3, 3), (121, 121, 72, 95)] [] tp_lay3_3_3 182 122 234 3 [(3, 3), (3, 3), ((-2147483648), 2147483647)] [] = true := by decide +kernel
def tp_lay3_3_4 : aTb := fun mi i => none
def rp_lay3_3_4 : List pq := [((7, 102, 2), (0, 117, 3), 3, 3), ((7, 102, 3), (0, 118, 3), (-2147483648), 2147483647)]
set_option maxRecDepth 100000 in
set_option maxHeartbeats 40000000 in
theorem cp_lay3_3_4 : prchk RL CL rp_lay3_3_4 [(102, 102, 2, 3), (103, 103, 0, 5), (104, 104, 1, 2), (105, 105, 0, 23), (117, 117, 3, 3), (118, 118, 3, 3), (119, 119, 3, 3), (120, 120, 3, 3), (121, 121, 72, 95)] [] tp_lay3_3_4 88 122 234 3 [(3, 3), (4, 2147483647), ((-2147483648), 2147483647)] [] = true := by decide +kernel
def tp_lay3_3s0 : aTb := fun mi i => none
def rp_lay3_3s0 : List pq := [((7, 102, 2), (0, 117, 3), 3, 3), ((7, 102, 3), (0, 118, 3), (-2147483648), 2147483647)]
set_option maxRecDepth 100000 in
set_option maxHeartbeats 40000000 in
theorem cp_lay3_3s0 : prchk RL CL rp_lay3_3s0 [(102, 102, 2, 3), (103, 103, 0, 5), (104, 104, 1, 2), (105, 105, 0, 23), (117, 117, 3, 3), (118, 118, 3, 3), (119, 119, 3, 3), (120, 120, 3, 3), (121, 121, 72, 95)] [] tp_lay3_3s0 129 122 234 3 [(3, 3), (2, 2), ((-2147483648), (-1))] [] = true := by decide +kernel
