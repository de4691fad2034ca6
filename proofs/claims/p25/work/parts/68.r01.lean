/-! ===== products, further ===== -/
def tp_set2y : aTb := fun mi i => none
def rp_set2y : List pq := [((8, 34, 5), (0, 111, 0), 3, 9), ((6, 41, 1), (0, 111, 34), (-2147483648), 2147483647), ((6, 41, 2), (0, 111, 35), 1, 8), ((6, 41, 3), (0, 111, 36), (-2147483648), 2147483647)]
set_option maxRecDepth 100000 in
set_option maxHeartbeats 40000000 in
theorem cp_set2y : podchk RL CL rp_set2y [(41, 41, 1, 5), (111, 111, 34, 38)] [] tp_set2y 202 91 170 3 [(2, 2), ((-2147483648), 2147483647), ((-2147483648), 2147483647)] [] = true := by decide +kernel
def tp_set3n : aTb := fun mi i => none
def rp_set3n : List pq := [((8, 34, 5), (0, 111, 0), 0, 3)]
set_option maxRecDepth 100000 in
set_option maxHeartbeats 40000000 in
theorem cp_set3n : podchk RL CL rp_set3n [] [] tp_set3n 64 91 170 3 [(3, 3), ((-2147483648), 2147483647), ((-2147483648), 2147483647)] [] = true := by decide +kernel
def tp_set3y : aTb := fun mi i => none
def rp_set3y : List pq := [((8, 34, 5), (0, 111, 0), 4, 9), ((6, 42, 1), (0, 111, 40), (-2147483648), 2147483647), ((6, 42, 2), (0, 111, 41), 1, 8), ((6, 42, 3), (0, 111, 42), (-2147483648), 2147483647)]
set_option maxRecDepth 100000 in
set_option maxHeartbeats 40000000 in
theorem cp_set3y : podchk RL CL rp_set3y [(42, 42, 1, 5), (111, 111, 40, 44)] [] tp_set3y 202 91 170 3 [(3, 3), ((-2147483648), 2147483647), ((-2147483648), 2147483647)] [] = true := by decide +kernel
def tp_set4n : aTb := fun mi i => none
def rp_set4n : List pq := [((8, 34, 5), (0, 111, 0), 0, 4)]
set_option maxRecDepth 100000 in
set_option maxHeartbeats 40000000 in
theorem cp_set4n : podchk RL CL rp_set4n [] [] tp_set4n 64 91 170 3 [(4, 4), ((-2147483648), 2147483647), ((-2147483648), 2147483647)] [] = true := by decide +kernel
def tp_set4y : aTb := fun mi i => none
def rp_set4y : List pq := [((8, 34, 5), (0, 111, 0), 5, 9), ((6, 43, 1), (0, 111, 46), (-2147483648), 2147483647), ((6, 43, 2), (0, 111, 47), 1, 8), ((6, 43, 3), (0, 111, 48), (-2147483648), 2147483647)]
set_option maxRecDepth 100000 in
set_option maxHeartbeats 40000000 in
theorem cp_set4y : podchk RL CL rp_set4y [(43, 43, 1, 5), (111, 111, 46, 50)] [] tp_set4y 202 91 170 3 [(4, 4), ((-2147483648), 2147483647), ((-2147483648), 2147483647)] [] = true := by decide +kernel
def tp_set5n : aTb := fun mi i => none
def rp_set5n : List pq := [((8, 34, 5), (0, 111, 0), 0, 5)]
set_option maxRecDepth 100000 in
set_option maxHeartbeats 40000000 in
theorem cp_set5n : podchk RL CL rp_set5n [] [] tp_set5n 64 91 170 3 [(5, 5), ((-2147483648), 2147483647), ((-2147483648), 2147483647)] [] = true := by decide +kernel
def tp_set5y : aTb := fun mi i => none
def rp_set5y : List pq := [((8, 34, 5), (0, 111, 0), 6, 9), ((6, 44, 1), (0, 111, 52), (-2147483648), 2147483647), ((6, 44, 2), (0, 111, 53), 1, 8), ((6, 44, 3), (0, 111, 54), (-2147483648), 2147483647)]
set_option maxRecDepth 100000 in
set_option maxHeartbeats 40000000 in
theorem cp_set5y : podchk RL CL rp_set5y [(44, 44, 1, 5), (111, 111, 52, 56)] [] tp_set5y 202 91 170 3 [(5, 5), ((-2147483648), 2147483647), ((-2147483648), 2147483647)] [] = true := by decide +kernel
def tp_set6n : aTb := fun mi i => none
def rp_set6n : List pq := [((8, 34, 5), (0, 111, 0), 0, 6)]
set_option maxRecDepth 100000 in
set_option maxHeartbeats 40000000 in
theorem cp_set6n : podchk RL CL rp_set6n [] [] tp_set6n 64 91 170 3 [(6, 6), ((-2147483648), 2147483647), ((-2147483648), 2147483647)] [] = true := by decide +kernel
def tp_set6y : aTb := fun mi i => none
def rp_set6y : List pq := [((8, 34, 5), (0, 111, 0), 7, 9), ((6, 45, 1), (0, 111, 58), (-2147483648), 2147483647), ((6, 45, 2), (0, 111, 59), 1, 8), ((6, 45, 3), (0, 111, 60), (-2147483648), 2147483647)]
set_option maxRecDepth 100000 in
set_option maxHeartbeats 40000000 in
theorem cp_set6y : podchk RL CL rp_set6y [(45, 45, 1, 5), (111, 111, 58, 62)] [] tp_set6y 202 91 170 3 [(6, 6), ((-2147483648), 2147483647), ((-2147483648), 2147483647)] [] = true := by decide +kernel
def tp_set7n : aTb := fun mi i => none
def rp_set7n : List pq := [((8, 34, 5), (0, 111, 0), 0, 7)]
set_option maxRecDepth 100000 in
set_option maxHeartbeats 40000000 in
theorem cp_set7n : podchk RL CL rp_set7n [] [] tp_set7n 64 91 170 3 [(7, 7), ((-2147483648), 2147483647), ((-2147483648), 2147483647)] [] = true := by decide +kernel
def tp_set7y : aTb := fun mi i => none
def rp_set7y : List pq := [((8, 34, 5), (0, 111, 0), 8, 9), ((6, 46, 1), (0, 111, 64), (-2147483648), 2147483647), ((6, 46, 2), (0, 111, 65), 1, 8), ((6, 46, 3), (0, 111, 66), (-2147483648), 2147483647)]
set_option maxRecDepth 100000 in
set_option maxHeartbeats 40000000 in
theorem cp_set7y : podchk RL CL rp_set7y [(46, 46, 1, 5), (111, 111, 64, 68)] [] tp_set7y 202 91 170 3 [(7, 7), ((-2147483648), 2147483647), ((-2147483648), 2147483647)] [] = true := by decide +kernel
def tp_set8n : aTb := fun mi i => none
def rp_set8n : List pq := [((8, 34, 5), (0, 111, 0), 0, 8)]
set_option maxRecDepth 100000 in
set_option maxHeartbeats 40000000 in
theorem cp_set8n : podchk RL CL rp_set8n [] [] tp_set8n 64 91 170 3 [(8, 8), ((-2147483648), 2147483647), ((-2147483648), 2147483647)] [] = true := by decide +kernel
def tp_set8y : aTb := fun mi i => none
def rp_set8y : List pq := [((8, 34, 5), (0, 111, 0), 9, 9), ((6, 47, 1), (0, 111, 70), (-2147483648), 2147483647), ((6, 47, 2), (0, 111, 71), 1, 8), ((6, 47, 3), (0, 111, 72), (-2147483648), 2147483647)]
set_option maxRecDepth 100000 in
set_option maxHeartbeats 40000000 in
theorem cp_set8y : podchk RL CL rp_set8y [(47, 47, 1, 5), (111, 111, 70, 74)] [] tp_set8y 202 91 170 3 [(8, 8), ((-2147483648), 2147483647), ((-2147483648), 2147483647)] [] = true := by decide +kernel
def tp_setl : aTb := fun mi i => none
def rp_setl : List pq := []
set_option maxRecDepth 100000 in
set_option maxHeartbeats 40000000 in
theorem cp_setl : podchk RL CL rp_setl [] [] tp_setl 56 91 170 3 [((-2147483648), (-1)), ((-2147483648), 2147483647), ((-2147483648), 2147483647)] [] = true := by decide +kernel
def tp_seth : aTb := fun mi i => none
def rp_seth : List pq := []
set_option maxRecDepth 100000 in
set_option maxHeartbeats 40000000 in
theorem cp_seth : podchk RL CL rp_seth [] [] tp_seth 64 91 170 3 [(9, 2147483647), ((-2147483648), 2147483647), ((-2147483648), 2147483647)] [] = true := by decide +kernel
def tp_seed : aTb := fun mi i => none
def rp_seed : List pq := [((8, 34, 9), (0, 111, 4), (-2147483648), 2147483647)]
set_option maxRecDepth 100000 in
set_option maxHeartbeats 40000000 in
theorem cp_seed : prchk RL CL rp_seed [(34, 34, 9, 9), (111, 111, 4, 4)] [] tp_seed 40 95 174 1 [((-2147483648), 2147483647)] [] = true := by decide +kernel
def tp_tidesl : aTb := fun mi i => none
def rp_tidesl : List pq := []
set_option maxRecDepth 100000 in
set_option maxHeartbeats 40000000 in
theorem cp_tidesl : prchk RL CL rp_tidesl [] [] tp_tidesl 39 103 192 1 [((-2147483648), 0)] [] = true := by decide +kernel
def tp_tidesh : aTb := fun mi i => none
def rp_tidesh : List pq := []
set_option maxRecDepth 100000 in
set_option maxHeartbeats 40000000 in
theorem cp_tidesh : prchk RL CL rp_tidesh [] [] tp_tidesh 46 103 192 1 [(101, 2147483647)] [] = true := by decide +kernel
def tp_sheet0_0 : aTb := fun mi i => none
def rp_sheet0_0 : List pq := []
set_option maxRecDepth 100000 in
set_option maxHeartbeats 40000000 in
theorem cp_sheet0_0 : prchk RL CL rp_sheet0_0 [] [] tp_sheet0_0 82 117 227 3 [(0, 0), ((-2147483648), (-2)), ((-2147483648), 2147483647)] [] = true := by decide +kernel
