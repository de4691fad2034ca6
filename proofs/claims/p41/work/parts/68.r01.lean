/-! ===== products, further ===== -/
def tp_lay0_0s3 : aTb := fun mi i => none
def rp_lay0_0s3 : List pq := [((7, 90, 2), (0, 117, 0), 0, 2), ((5, 86, 1), (0, 114, 2), (-1), 1), ((5, 86, 2), (0, 115, 2), 0, 24)]
set_option maxRecDepth 100000 in
set_option maxHeartbeats 40000000 in
theorem cp_lay0_0s3 : prchk RL CL rp_lay0_0s3 [(90, 90, 2, 3), (91, 91, 0, 5), (92, 92, 1, 2), (93, 93, 0, 23), (117, 117, 0, 0), (118, 118, 0, 0), (119, 119, 0, 0), (120, 120, 0, 0), (121, 121, 0, 23)] [] tp_lay0_0s3 761 122 234 3 [(0, 0), (2, 2), (2, 2)] [] = true := by decide +kernel
def tp_lay0_0s4 : aTb := fun mi i => none
def rp_lay0_0s4 : List pq := [((7, 90, 2), (0, 117, 0), 0, 2), ((5, 88, 1), (0, 114, 3), (-1), 1), ((5, 88, 2), (0, 115, 3), 0, 24)]
set_option maxRecDepth 100000 in
set_option maxHeartbeats 40000000 in
theorem cp_lay0_0s4 : prchk RL CL rp_lay0_0s4 [(90, 90, 2, 3), (91, 91, 0, 5), (92, 92, 1, 2), (93, 93, 0, 23), (117, 117, 0, 0), (118, 118, 0, 0), (119, 119, 0, 0), (120, 120, 0, 0), (121, 121, 0, 23)] [] tp_lay0_0s4 761 122 234 3 [(0, 0), (2, 2), (3, 3)] [] = true := by decide +kernel
def tp_lay0_0s5 : aTb := fun mi i => none
def rp_lay0_0s5 : List pq := [((7, 90, 2), (0, 117, 0), 0, 2)]
set_option maxRecDepth 100000 in
set_option maxHeartbeats 40000000 in
theorem cp_lay0_0s5 : prchk RL CL rp_lay0_0s5 [(90, 90, 2, 3), (91, 91, 0, 5), (92, 92, 1, 2), (93, 93, 0, 23), (117, 117, 0, 0), (118, 118, 0, 0), (119, 119, 0, 0), (120, 120, 0, 0), (121, 121, 0, 23)] [] tp_lay0_0s5 151 122 234 3 [(0, 0), (2, 2), (4, 2147483647)] [] = true := by decide +kernel
def tp_lay0_3_0 : aTb := fun mi i => none
def rp_lay0_3_0 : List pq := [((7, 90, 2), (0, 117, 0), 3, 3), ((7, 90, 3), (0, 118, 0), (-2147483648), 2147483647)]
set_option maxRecDepth 100000 in
set_option maxHeartbeats 40000000 in
theorem cp_lay0_3_0 : prchk RL CL rp_lay0_3_0 [(90, 90, 2, 3), (91, 91, 0, 5), (92, 92, 1, 2), (93, 93, 0, 23), (117, 117, 0, 0), (118, 118, 0, 0), (119, 119, 0, 0), (120, 120, 0, 0), (121, 121, 0, 23)] [] tp_lay0_3_0 85 122 234 3 [(0, 0), ((-2147483648), (-1)), ((-2147483648), 2147483647)] [] = true := by decide +kernel
def tp_lay0_3_1 : aTb := fun mi i => none
def rp_lay0_3_1 : List pq := [((7, 90, 2), (0, 117, 0), 3, 3), ((7, 90, 3), (0, 118, 0), (-2147483648), 2147483647)]
set_option maxRecDepth 100000 in
set_option maxHeartbeats 40000000 in
theorem cp_lay0_3_1 : prchk RL CL rp_lay0_3_1 [(90, 90, 2, 3), (91, 91, 0, 5), (92, 92, 1, 2), (93, 93, 0, 23), (117, 117, 0, 0), (118, 118, 0, 0), (119, 119, 0, 0), (120, 120, 0, 0), (121, 121, 0, 23)] [] tp_lay0_3_1 176 122 234 3 [(0, 0), (0, 0), ((-2147483648), 2147483647)] [] = true := by decide +kernel
def tp_lay0_3_2 : aTb := fun mi i => none
def rp_lay0_3_2 : List pq := [((8, 34, 5), (0, 111, 0), 0, 9), ((7, 90, 2), (0, 117, 0), 3, 3), ((7, 90, 3), (0, 118, 0), (-2147483648), 2147483647)]
set_option maxRecDepth 100000 in
set_option maxHeartbeats 40000000 in
theorem cp_lay0_3_2 : prchk RL CL rp_lay0_3_2 [(90, 90, 2, 3), (91, 91, 0, 5), (92, 92, 1, 2), (93, 93, 0, 23), (117, 117, 0, 0), (118, 118, 0, 0), (119, 119, 0, 0), (120, 120, 0, 0), (121, 121, 0, 23)] [(161, k_m_worth)] tp_lay0_3_2 255 122 234 3 [(0, 0), (1, 1), ((-2147483648), 2147483647)] [] = true := by decide +kernel
def tp_lay0_3_3 : aTb := fun mi i => none
def rp_lay0_3_3 : List pq := [((7, 90, 2), (0, 117, 0), 3, 3), ((7, 90, 3), (0, 118, 0), (-2147483648), 2147483647)]
set_option maxRecDepth 100000 in
set_option maxHeartbeats 40000000 in
theorem cp_lay0_3_3 : prchk RL CL rp_lay0_3_3 [(90, 90, 2, 3), (91, 91, 0, 5), (92, 92, 1, 2), (93, 93, 0, 23), (117, 117, 0, 0), (118, 118, 0, 0), (119, 119, 0, 0), (120, 120, 0, 0), (121, 121, 0, 23)] [] tp_lay0_3_3 182 122 234 3 [(0, 0), (3, 3), ((-2147483648), 2147483647)] [] = true := by decide +kernel
def tp_lay0_3_4 : aTb := fun mi i => none
def rp_lay0_3_4 : List pq := [((7, 90, 2), (0, 117, 0), 3, 3), ((7, 90, 3), (0, 118, 0), (-2147483648), 2147483647)]
set_option maxRecDepth 100000 in
set_option maxHeartbeats 40000000 in
theorem cp_lay0_3_4 : prchk RL CL rp_lay0_3_4 [(90, 90, 2, 3), (91, 91, 0, 5), (92, 92, 1, 2), (93, 93, 0, 23), (117, 117, 0, 0), (118, 118, 0, 0), (119, 119, 0, 0), (120, 120, 0, 0), (121, 121, 0, 23)] [] tp_lay0_3_4 88 122 234 3 [(0, 0), (4, 2147483647), ((-2147483648), 2147483647)] [] = true := by decide +kernel
def tp_lay0_3s0 : aTb := fun mi i => none
def rp_lay0_3s0 : List pq := [((7, 90, 2), (0, 117, 0), 3, 3), ((7, 90, 3), (0, 118, 0), (-2147483648), 2147483647)]
set_option maxRecDepth 100000 in
set_option maxHeartbeats 40000000 in
theorem cp_lay0_3s0 : prchk RL CL rp_lay0_3s0 [(90, 90, 2, 3), (91, 91, 0, 5), (92, 92, 1, 2), (93, 93, 0, 23), (117, 117, 0, 0), (118, 118, 0, 0), (119, 119, 0, 0), (120, 120, 0, 0), (121, 121, 0, 23)] [] tp_lay0_3s0 129 122 234 3 [(0, 0), (2, 2), ((-2147483648), (-1))] [] = true := by decide +kernel
def tp_lay0_3s1 : aTb := fun mi i => none
def rp_lay0_3s1 : List pq := [((7, 90, 2), (0, 117, 0), 3, 3), ((7, 90, 3), (0, 118, 0), (-2147483648), 2147483647), ((5, 82, 1), (0, 114, 0), (-1), 1), ((5, 82, 2), (0, 115, 0), 0, 24)]
set_option maxRecDepth 100000 in
set_option maxHeartbeats 40000000 in
theorem cp_lay0_3s1 : prchk RL CL rp_lay0_3s1 [(90, 90, 2, 3), (91, 91, 0, 5), (92, 92, 1, 2), (93, 93, 0, 23), (117, 117, 0, 0), (118, 118, 0, 0), (119, 119, 0, 0), (120, 120, 0, 0), (121, 121, 0, 23)] [] tp_lay0_3s1 761 122 234 3 [(0, 0), (2, 2), (0, 0)] [] = true := by decide +kernel
def tp_lay0_3s2 : aTb := fun mi i => none
def rp_lay0_3s2 : List pq := [((7, 90, 2), (0, 117, 0), 3, 3), ((7, 90, 3), (0, 118, 0), (-2147483648), 2147483647), ((5, 84, 1), (0, 114, 1), (-1), 1), ((5, 84, 2), (0, 115, 1), 0, 24)]
set_option maxRecDepth 100000 in
set_option maxHeartbeats 40000000 in
theorem cp_lay0_3s2 : prchk RL CL rp_lay0_3s2 [(90, 90, 2, 3), (91, 91, 0, 5), (92, 92, 1, 2), (93, 93, 0, 23), (117, 117, 0, 0), (118, 118, 0, 0), (119, 119, 0, 0), (120, 120, 0, 0), (121, 121, 0, 23)] [] tp_lay0_3s2 761 122 234 3 [(0, 0), (2, 2), (1, 1)] [] = true := by decide +kernel
def tp_lay0_3s3 : aTb := fun mi i => none
def rp_lay0_3s3 : List pq := [((7, 90, 2), (0, 117, 0), 3, 3), ((7, 90, 3), (0, 118, 0), (-2147483648), 2147483647), ((5, 86, 1), (0, 114, 2), (-1), 1), ((5, 86, 2), (0, 115, 2), 0, 24)]
set_option maxRecDepth 100000 in
set_option maxHeartbeats 40000000 in
theorem cp_lay0_3s3 : prchk RL CL rp_lay0_3s3 [(90, 90, 2, 3), (91, 91, 0, 5), (92, 92, 1, 2), (93, 93, 0, 23), (117, 117, 0, 0), (118, 118, 0, 0), (119, 119, 0, 0), (120, 120, 0, 0), (121, 121, 0, 23)] [] tp_lay0_3s3 761 122 234 3 [(0, 0), (2, 2), (2, 2)] [] = true := by decide +kernel
def tp_lay0_3s4 : aTb := fun mi i => none
def rp_lay0_3s4 : List pq := [((7, 90, 2), (0, 117, 0), 3, 3), ((7, 90, 3), (0, 118, 0), (-2147483648), 2147483647), ((5, 88, 1), (0, 114, 3), (-1), 1), ((5, 88, 2), (0, 115, 3), 0, 24)]
set_option maxRecDepth 100000 in
set_option maxHeartbeats 40000000 in
theorem cp_lay0_3s4 : prchk RL CL rp_lay0_3s4 [(90, 90, 2, 3), (91, 91, 0, 5), (92, 92, 1, 2), (93, 93, 0, 23), (117, 117, 0, 0), (118, 118, 0, 0), (119, 119, 0, 0), (120, 120, 0, 0), (121, 121, 0, 23)] [] tp_lay0_3s4 761 122 234 3 [(0, 0), (2, 2), (3, 3)] [] = true := by decide +kernel
def tp_lay0_3s5 : aTb := fun mi i => none
def rp_lay0_3s5 : List pq := [((7, 90, 2), (0, 117, 0), 3, 3), ((7, 90, 3), (0, 118, 0), (-2147483648), 2147483647)]
set_option maxRecDepth 100000 in
set_option maxHeartbeats 40000000 in
theorem cp_lay0_3s5 : prchk RL CL rp_lay0_3s5 [(90, 90, 2, 3), (91, 91, 0, 5), (92, 92, 1, 2), (93, 93, 0, 23), (117, 117, 0, 0), (118, 118, 0, 0), (119, 119, 0, 0), (120, 120, 0, 0), (121, 121, 0, 23)] [] tp_lay0_3s5 151 122 234 3 [(0, 0), (2, 2), (4, 2147483647)] [] = true := by decide +kernel
def tp_lay1_0_0 : aTb := fun mi i => none
def rp_lay1_0_0 : List pq := [((7, 94, 2), (0, 117, 1), 0, 2)]
set_option maxRecDepth 100000 in
set_option maxHeartbeats 40000000 in
theorem cp_lay1_0_0 : prchk RL CL rp_lay1_0_0 [(94, 94, 2, 3), (95, 95, 0, 5), (96, 96, 1, 2), (97, 97, 0, 23), (117, 117, 1, 1), (118, 118, 1, 1), (119, 119, 1, 1), (120, 120, 1, 1), (121, 121, 24, 47)] [] tp_lay1_0_0 85 122 234 3 [(1, 1), ((-2147483648), (-1)), ((-2147483648), 2147483647)] [] = true := by decide +kernel
