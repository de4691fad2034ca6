/-! ===== products, further ===== -/
def tp_sheet0_1 : aTb := fun mi i => none
def rp_sheet0_1 : List pq := [((5, 82, 1), (0, 114, 0), (-1), 1), ((5, 82, 2), (0, 115, 0), 0, 24)]
set_option maxRecDepth 100000 in
set_option maxHeartbeats 40000000 in
theorem cp_sheet0_1 : prchk RL CL rp_sheet0_1 [(82, 82, 1, 2), (83, 83, 0, 23), (114, 114, 0, 0), (115, 115, 0, 0), (116, 116, 0, 23)] [] tp_sheet0_1 695 117 227 3 [(0, 0), ((-1), (-1)), ((-2147483648), 2147483647)] [] = true := by decide +kernel
def tp_sheet0_2 : aTb := fun mi i => none
def rp_sheet0_2 : List pq := []
set_option maxRecDepth 100000 in
set_option maxHeartbeats 40000000 in
theorem cp_sheet0_2 : prchk RL CL rp_sheet0_2 [] [] tp_sheet0_2 108 117 227 3 [(0, 0), (0, 0), ((-2147483648), (-1))] [] = true := by decide +kernel
def tp_sheet0_3 : aTb := fun mi i => none
def rp_sheet0_3 : List pq := [((5, 82, 1), (0, 114, 0), (-1), 1), ((5, 82, 2), (0, 115, 0), 0, 24)]
set_option maxRecDepth 100000 in
set_option maxHeartbeats 40000000 in
theorem cp_sheet0_3 : prchk RL CL rp_sheet0_3 [(82, 82, 1, 2), (83, 83, 0, 23), (114, 114, 0, 0), (115, 115, 0, 0), (116, 116, 0, 23)] [] tp_sheet0_3 704 117 227 3 [(0, 0), (0, 0), (0, 24)] [] = true := by decide +kernel
def tp_sheet0_4 : aTb := fun mi i => none
def rp_sheet0_4 : List pq := []
set_option maxRecDepth 100000 in
set_option maxHeartbeats 40000000 in
theorem cp_sheet0_4 : prchk RL CL rp_sheet0_4 [] [] tp_sheet0_4 102 117 227 3 [(0, 0), (0, 0), (25, 2147483647)] [] = true := by decide +kernel
def tp_sheet0_5 : aTb := fun mi i => none
def rp_sheet0_5 : List pq := []
set_option maxRecDepth 100000 in
set_option maxHeartbeats 40000000 in
theorem cp_sheet0_5 : prchk RL CL rp_sheet0_5 [] [] tp_sheet0_5 108 117 227 3 [(0, 0), (1, 1), ((-2147483648), (-1))] [] = true := by decide +kernel
def tp_sheet0_6 : aTb := fun mi i => none
def rp_sheet0_6 : List pq := [((5, 82, 1), (0, 114, 0), (-1), 1), ((5, 82, 2), (0, 115, 0), 0, 24)]
set_option maxRecDepth 100000 in
set_option maxHeartbeats 40000000 in
theorem cp_sheet0_6 : prchk RL CL rp_sheet0_6 [(82, 82, 1, 2), (83, 83, 0, 23), (114, 114, 0, 0), (115, 115, 0, 0), (116, 116, 0, 23)] [] tp_sheet0_6 704 117 227 3 [(0, 0), (1, 1), (0, 24)] [] = true := by decide +kernel
def tp_sheet0_7 : aTb := fun mi i => none
def rp_sheet0_7 : List pq := []
set_option maxRecDepth 100000 in
set_option maxHeartbeats 40000000 in
theorem cp_sheet0_7 : prchk RL CL rp_sheet0_7 [] [] tp_sheet0_7 102 117 227 3 [(0, 0), (1, 1), (25, 2147483647)] [] = true := by decide +kernel
def tp_sheet0_8 : aTb := fun mi i => none
def rp_sheet0_8 : List pq := []
set_option maxRecDepth 100000 in
set_option maxHeartbeats 40000000 in
theorem cp_sheet0_8 : prchk RL CL rp_sheet0_8 [] [] tp_sheet0_8 89 117 227 3 [(0, 0), (2, 2147483647), ((-2147483648), 2147483647)] [] = true := by decide +kernel
def tp_sheet1_0 : aTb := fun mi i => none
def rp_sheet1_0 : List pq := []
set_option maxRecDepth 100000 in
set_option maxHeartbeats 40000000 in
theorem cp_sheet1_0 : prchk RL CL rp_sheet1_0 [] [] tp_sheet1_0 82 117 227 3 [(1, 1), ((-2147483648), (-2)), ((-2147483648), 2147483647)] [] = true := by decide +kernel
def tp_sheet1_1 : aTb := fun mi i => none
def rp_sheet1_1 : List pq := [((5, 84, 1), (0, 114, 1), (-1), 1), ((5, 84, 2), (0, 115, 1), 0, 24)]
set_option maxRecDepth 100000 in
set_option maxHeartbeats 40000000 in
theorem cp_sheet1_1 : prchk RL CL rp_sheet1_1 [(84, 84, 1, 2), (85, 85, 0, 23), (114, 114, 1, 1), (115, 115, 1, 1), (116, 116, 24, 47)] [] tp_sheet1_1 695 117 227 3 [(1, 1), ((-1), (-1)), ((-2147483648), 2147483647)] [] = true := by decide +kernel
def tp_sheet1_2 : aTb := fun mi i => none
def rp_sheet1_2 : List pq := []
set_option maxRecDepth 100000 in
set_option maxHeartbeats 40000000 in
theorem cp_sheet1_2 : prchk RL CL rp_sheet1_2 [] [] tp_sheet1_2 108 117 227 3 [(1, 1), (0, 0), ((-2147483648), (-1))] [] = true := by decide +kernel
def tp_sheet1_3 : aTb := fun mi i => none
def rp_sheet1_3 : List pq := [((5, 84, 1), (0, 114, 1), (-1), 1), ((5, 84, 2), (0, 115, 1), 0, 24)]
set_option maxRecDepth 100000 in
set_option maxHeartbeats 40000000 in
theorem cp_sheet1_3 : prchk RL CL rp_sheet1_3 [(84, 84, 1, 2), (85, 85, 0, 23), (114, 114, 1, 1), (115, 115, 1, 1), (116, 116, 24, 47)] [] tp_sheet1_3 704 117 227 3 [(1, 1), (0, 0), (0, 24)] [] = true := by decide +kernel
def tp_sheet1_4 : aTb := fun mi i => none
def rp_sheet1_4 : List pq := []
set_option maxRecDepth 100000 in
set_option maxHeartbeats 40000000 in
theorem cp_sheet1_4 : prchk RL CL rp_sheet1_4 [] [] tp_sheet1_4 102 117 227 3 [(1, 1), (0, 0), (25, 2147483647)] [] = true := by decide +kernel
def tp_sheet1_5 : aTb := fun mi i => none
def rp_sheet1_5 : List pq := []
set_option maxRecDepth 100000 in
set_option maxHeartbeats 40000000 in
theorem cp_sheet1_5 : prchk RL CL rp_sheet1_5 [] [] tp_sheet1_5 108 117 227 3 [(1, 1), (1, 1), ((-2147483648), (-1))] [] = true := by decide +kernel
def tp_sheet1_6 : aTb := fun mi i => none
def rp_sheet1_6 : List pq := [((5, 84, 1), (0, 114, 1), (-1), 1), ((5, 84, 2), (0, 115, 1), 0, 24)]
set_option maxRecDepth 100000 in
set_option maxHeartbeats 40000000 in
theorem cp_sheet1_6 : prchk RL CL rp_sheet1_6 [(84, 84, 1, 2), (85, 85, 0, 23), (114, 114, 1, 1), (115, 115, 1, 1), (116, 116, 24, 47)] [] tp_sheet1_6 704 117 227 3 [(1, 1), (1, 1), (0, 24)] [] = true := by decide +kernel
def tp_sheet1_7 : aTb := fun mi i => none
def rp_sheet1_7 : List pq := []
set_option maxRecDepth 100000 in
set_option maxHeartbeats 40000000 in
theorem cp_sheet1_7 : prchk RL CL rp_sheet1_7 [] [] tp_sheet1_7 102 117 227 3 [(1, 1), (1, 1), (25, 2147483647)] [] = true := by decide +kernel
def tp_sheet1_8 : aTb := fun mi i => none
def rp_sheet1_8 : List pq := []
set_option maxRecDepth 100000 in
set_option maxHeartbeats 40000000 in
theorem cp_sheet1_8 : prchk RL CL rp_sheet1_8 [] [] tp_sheet1_8 89 117 227 3 [(1, 1), (2, 2147483647), ((-2147483648), 2147483647)] [] = true := by decide +kernel
def tp_sheet2_0 : aTb := fun mi i => none
def rp_sheet2_0 : List pq := []
set_option maxRecDepth 100000 in
set_option maxHeartbeats 40000000 in
theorem cp_sheet2_0 : prchk RL CL rp_sheet2_0 [] [] tp_sheet2_0 82 117 227 3 [(2, 2), ((-2147483648), (-2)), ((-2147483648), 2147483647)] [] = true := by decide +kernel
def tp_sheet2_1 : aTb := fun mi i => none
def rp_sheet2_1 : List pq := [((5, 86, 1), (0, 114, 2), (-1), 1), ((5, 86, 2), (0, 115, 2), 0, 24)]
set_option maxRecDepth 100000 in
set_option maxHeartbeats 40000000 in
theorem cp_sheet2_1 : prchk RL CL rp_sheet2_1 [(86, 86, 1, 2), (87, 87, 0, 23), (114, 114, 2, 2), (115, 115, 2, 2), (116, 116, 48, 71)] [] tp_sheet2_1 695 117 227 3 [(2, 2), ((-1), (-1)), ((-2147483648), 2147483647)] [] = true := by decide +kernel
def tp_sheet2_2 : aTb := fun mi i => none
def rp_sheet2_2 : List pq := []
set_option maxRecDepth 100000 in
set_option maxHeartbeats 40000000 in
theorem cp_sheet2_2 : prchk RL CL rp_sheet2_2 [] [] tp_sheet2_2 108 117 227 3 [(2, 2), (0, 0), ((-2147483648), (-1))] [] = true := by decide +kernel
def tp_sheet2_3 : aTb := fun mi i => none
def rp_sheet2_3 : List pq := [((5, 86, 1), (0, 114, 2), (-1), 1), ((5, 86, 2), (0, 115, 2), 0, 24)]
set_option maxRecDepth 100000 in
set_option maxHeartbeats 40000000 in
theorem cp_sheet2_3 : prchk RL CL rp_sheet2_3 [(86, 86, 1, 2), (87, 87, 0, 23), (114, 114, 2, 2), (115, 115, 2, 2), (116, 116, 48, 71)] [] tp_sheet2_3 704 117 227 3 [(2, 2), (0, 0), (0, 24)] [] = true := by decide +kernel
def tp_sheet2_4 : aTb := fun mi i => none
def rp_sheet2_4 : List pq := []
set_option maxRecDepth 100000 in
set_option maxHeartbeats 40000000 in
theorem cp_sheet2_4 : prchk RL CL rp_sheet2_4 [] [] tp_sheet2_4 102 117 227 3 [(2, 2), (0, 0), (25, 2147483647)] [] = true := by decide +kernel
def tp_sheet2_5 : aTb := fun mi i => none
def rp_sheet2_5 : List pq := []
set_option maxRecDepth 100000 in
set_option maxHeartbeats 40000000 in
theorem cp_sheet2_5 : prchk RL CL rp_sheet2_5 [] [] tp_sheet2_5 108 117 227 3 [(2, 2), (1, 1), ((-2147483648), (-1))] [] = true := by decide +kernel
def tp_sheet2_6 : aTb := fun mi i => none
def rp_sheet2_6 : List pq := [((5, 86, 1), (0, 114, 2), (-1), 1), ((5, 86, 2), (0, 115, 2), 0, 24)]
set_option maxRecDepth 100000 in
set_option maxHeartbeats 40000000 in
theorem cp_sheet2_6 : prchk RL CL rp_sheet2_6 [(86, 86, 1, 2), (87, 87, 0, 23), (114, 114, 2, 2), (115, 115, 2, 2), (116, 116, 48, 71)] [] tp_sheet2_6 704 117 227 3 [(2, 2), (1, 1), (0, 24)] [] = true := by decide +kernel
def tp_sheet2_7 : aTb := fun mi i => none
def rp_sheet2_7 : List pq := []
set_option maxRecDepth 100000 in
set_option maxHeartbeats 40000000 in
theorem cp_sheet2_7 : prchk RL CL rp_sheet2_7 [] [] tp_sheet2_7 102 117 227 3 [(2, 2), (1, 1), (25, 2147483647)] [] = true := by decide +kernel
def tp_sheet2_8 : aTb := fun mi i => none
def rp_sheet2_8 : List pq := []
set_option maxRecDepth 100000 in
set_option maxHeartbeats 40000000 in
theorem cp_sheet2_8 : prchk RL CL rp_sheet2_8 [] [] tp_sheet2_8 89 117 227 3 [(2, 2), (2, 2147483647), ((-2147483648), 2147483647)] [] = true := by decide +kernel
def tp_sheet3_0 : aTb := fun mi i => none
def rp_sheet3_0 : List pq := []
set_option maxRecDepth 100000 in
set_option maxHeartbeats 40000000 in
theorem cp_sheet3_0 : prchk RL CL rp_sheet3_0 [] [] tp_sheet3_0 82 117 227 3 [(3, 3), ((-2147483648), (-2)), ((-2147483648), 2147483647)] [] = true := by decide +kernel
def tp_sheet3_1 : aTb := fun mi i => none
def rp_sheet3_1 : List pq := [((5, 88, 1), (0, 114, 3), (-1), 1), ((5, 88, 2), (0, 115, 3), 0, 24)]
set_option maxRecDepth 100000 in
set_option maxHeartbeats 40000000 in
theorem cp_sheet3_1 : prchk RL CL rp_sheet3_1 [(88, 88, 1, 2), (89, 89, 0, 23), (114, 114, 3, 3), (115, 115, 3, 3), (116, 116, 72, 95)] [] tp_sheet3_1 695 117 227 3 [(3, 3), ((-1), (-1)), ((-2147483648), 2147483647)] [] = true := by decide +kernel
def tp_sheet3_2 : aTb := fun mi i => none
def rp_sheet3_2 : List pq := []
set_option maxRecDepth 100000 in
set_option maxHeartbeats 40000000 in
theorem cp_sheet3_2 : prchk RL CL rp_sheet3_2 [] [] tp_sheet3_2 108 117 227 3 [(3, 3), (0, 0), ((-2147483648), (-1))] [] = true := by decide +kernel
def tp_sheet3_3 : aTb := fun mi i => none
def rp_sheet3_3 : List pq := [((5, 88, 1), (0, 114, 3), (-1), 1), ((5, 88, 2), (0, 115, 3), 0, 24)]
set_option maxRecDepth 100000 in
set_option maxHeartbeats 40000000 in
theorem cp_sheet3_3 : prchk RL CL rp_sheet3_3 [(88, 88, 1, 2), (89, 89, 0, 23), (114, 114, 3, 3), (115, 115, 3, 3), (116, 116, 72, 95)] [] tp_sheet3_3 704 117 227 3 [(3, 3), (0, 0), (0, 24)] [] = true := by decide +kernel
def tp_sheet3_4 : aTb := fun mi i => none
def rp_sheet3_4 : List pq := []
set_option maxRecDepth 100000 in
set_option maxHeartbeats 40000000 in
theorem cp_sheet3_4 : prchk RL CL rp_sheet3_4 [] [] tp_sheet3_4 102 117 227 3 [(3, 3), (0, 0), (25, 2147483647)] [] = true := by decide +kernel
def tp_sheet3_5 : aTb := fun mi i => none
def rp_sheet3_5 : List pq := []
set_option maxRecDepth 100000 in
set_option maxHeartbeats 40000000 in
theorem cp_sheet3_5 : prchk RL CL rp_sheet3_5 [] [] tp_sheet3_5 108 117 227 3 [(3, 3), (1, 1), ((-2147483648), (-1))] [] = true := by decide +kernel
def tp_sheet3_6 : aTb := fun mi i => none
def rp_sheet3_6 : List pq := [((5, 88, 1), (0, 114, 3), (-1), 1), ((5, 88, 2), (0, 115, 3), 0, 24)]
set_option maxRecDepth 100000 in
set_option maxHeartbeats 40000000 in
theorem cp_sheet3_6 : prchk RL CL rp_sheet3_6 [(88, 88, 1, 2), (89, 89, 0, 23), (114, 114, 3, 3), (115, 115, 3, 3), (116, 116, 72, 95)] [] tp_sheet3_6 704 117 227 3 [(3, 3), (1, 1), (0, 24)] [] = true := by decide +kernel
def tp_sheet3_7 : aTb := fun mi i => none
def rp_sheet3_7 : List pq := []
set_option maxRecDepth 100000 in
set_option maxHeartbeats 40000000 in
theorem cp_sheet3_7 : prchk RL CL rp_sheet3_7 [] [] tp_sheet3_7 102 117 227 3 [(3, 3), (1, 1), (25, 2147483647)] [] = true := by decide +kernel
def tp_sheet3_8 : aTb := fun mi i => none
def rp_sheet3_8 : List pq := []
set_option maxRecDepth 100000 in
set_option maxHeartbeats 40000000 in
theorem cp_sheet3_8 : prchk RL CL rp_sheet3_8 [] [] tp_sheet3_8 89 117 227 3 [(3, 3), (2, 2147483647), ((-2147483648), 2147483647)] [] = true := by decide +kernel
def tp_sheetl : aTb := fun mi i => none
def rp_sheetl : List pq := []
set_option maxRecDepth 100000 in
set_option maxHeartbeats 40000000 in
theorem cp_sheetl : prchk RL CL rp_sheetl [] [] tp_sheetl 46 117 227 3 [((-2147483648), (-1)), ((-2147483648), 2147483647), ((-2147483648), 2147483647)] [] = true := by decide +kernel
def tp_sheeth : aTb := fun mi i => none
def rp_sheeth : List pq := []
set_option maxRecDepth 100000 in
set_option maxHeartbeats 40000000 in
theorem cp_sheeth : prchk RL CL rp_sheeth [] [] tp_sheeth 55 117 227 3 [(4, 2147483647), ((-2147483648), 2147483647), ((-2147483648), 2147483647)] [] = true := by decide +kernel
def tp_carve0 : aTb := fun mi i => none
def rp_carve0 : List pq := [((0, 35, 0), (0, 111, 5), 0, 3)]
set_option maxRecDepth 100000 in
set_option maxHeartbeats 40000000 in
theorem cp_carve0 : prchk RL CL rp_carve0 [(35, 35, 0, 0), (111, 111, 5, 5)] [] tp_carve0 138 92 171 2 [(0, 0), ((-2147483648), 2147483647)] [] = true := by decide +kernel
def tp_carve1 : aTb := fun mi i => none
def rp_carve1 : List pq := [((0, 35, 1), (0, 111, 6), 0, 3)]
set_option maxRecDepth 100000 in
set_option maxHeartbeats 40000000 in
theorem cp_carve1 : prchk RL CL rp_carve1 [(35, 35, 1, 1), (111, 111, 6, 6)] [] tp_carve1 138 92 171 2 [(1, 1), ((-2147483648), 2147483647)] [] = true := by decide +kernel
def tp_carve2 : aTb := fun mi i => none
def rp_carve2 : List pq := [((0, 35, 2), (0, 111, 7), 0, 3)]
set_option maxRecDepth 100000 in
set_option maxHeartbeats 40000000 in
theorem cp_carve2 : prchk RL CL rp_carve2 [(35, 35, 2, 2), (111, 111, 7, 7)] [] tp_carve2 138 92 171 2 [(2, 2), ((-2147483648), 2147483647)] [] = true := by decide +kernel
def tp_carve3 : aTb := fun mi i => none
def rp_carve3 : List pq := [((0, 35, 3), (0, 111, 8), 0, 3)]
set_option maxRecDepth 100000 in
set_option maxHeartbeats 40000000 in
theorem cp_carve3 : prchk RL CL rp_carve3 [(35, 35, 3, 3), (111, 111, 8, 8)] [] tp_carve3 138 92 171 2 [(3, 3), ((-2147483648), 2147483647)] [] = true := by decide +kernel
def tp_carve4 : aTb := fun mi i => none
def rp_carve4 : List pq := [((0, 35, 4), (0, 111, 9), 0, 3)]
set_option maxRecDepth 100000 in
set_option maxHeartbeats 40000000 in
theorem cp_carve4 : prchk RL CL rp_carve4 [(35, 35, 4, 4), (111, 111, 9, 9)] [] tp_carve4 138 92 171 2 [(4, 4), ((-2147483648), 2147483647)] [] = true := by decide +kernel
def tp_carve5 : aTb := fun mi i => none
def rp_carve5 : List pq := [((0, 35, 5), (0, 111, 10), 0, 3)]
set_option maxRecDepth 100000 in
set_option maxHeartbeats 40000000 in
theorem cp_carve5 : prchk RL CL rp_carve5 [(35, 35, 5, 5), (111, 111, 10, 10)] [] tp_carve5 138 92 171 2 [(5, 5), ((-2147483648), 2147483647)] [] = true := by decide +kernel
def tp_carve6 : aTb := fun mi i => none
def rp_carve6 : List pq := [((0, 35, 6), (0, 111, 11), 0, 3)]
set_option maxRecDepth 100000 in
set_option maxHeartbeats 40000000 in
theorem cp_carve6 : prchk RL CL rp_carve6 [(35, 35, 6, 6), (111, 111, 11, 11)] [] tp_carve6 138 92 171 2 [(6, 6), ((-2147483648), 2147483647)] [] = true := by decide +kernel
def tp_carve7 : aTb := fun mi i => none
def rp_carve7 : List pq := [((0, 35, 7), (0, 111, 12), 0, 3)]
set_option maxRecDepth 100000 in
set_option maxHeartbeats 40000000 in
theorem cp_carve7 : prchk RL CL rp_carve7 [(35, 35, 7, 7), (111, 111, 12, 12)] [] tp_carve7 138 92 171 2 [(7, 7), ((-2147483648), 2147483647)] [] = true := by decide +kernel
def tp_carve8 : aTb := fun mi i => none
def rp_carve8 : List pq := [((0, 35, 8), (0, 111, 13), 0, 3)]
set_option maxRecDepth 100000 in
set_option maxHeartbeats 40000000 in
theorem cp_carve8 : prchk RL CL rp_carve8 [(35, 35, 8, 8), (111, 111, 13, 13)] [] tp_carve8 138 92 171 2 [(8, 8), ((-2147483648), 2147483647)] [] = true := by decide +kernel
def tp_carve9 : aTb := fun mi i => none
def rp_carve9 : List pq := [((0, 35, 9), (0, 111, 14), 0, 3)]
set_option maxRecDepth 100000 in
set_option maxHeartbeats 40000000 in
theorem cp_carve9 : prchk RL CL rp_carve9 [(35, 35, 9, 9), (111, 111, 14, 14)] [] tp_carve9 138 92 171 2 [(9, 9), ((-2147483648), 2147483647)] [] = true := by decide +kernel
def tp_carve10 : aTb := fun mi i => none
def rp_carve10 : List pq := [((0, 35, 10), (0, 111, 15), 0, 3)]
set_option maxRecDepth 100000 in
set_option maxHeartbeats 40000000 in
theorem cp_carve10 : prchk RL CL rp_carve10 [(35, 35, 10, 10), (111, 111, 15, 15)] [] tp_carve10 138 92 171 2 [(10, 10), ((-2147483648), 2147483647)] [] = true := by decide +kernel
