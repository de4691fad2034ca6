/-! ===== isName (printed by program) ===== -/
def tb_isN : aTb := fun mi i => none
def g0_isN : aG := [.inl (0, 2), .inl ((-2147483648), 2147483647)]
def c0_isN : aC := []
def a0_isN : aL := [(1, 1, 0, 0), (1, 1, 0, 1)]
def s0_isN : List AV := []
def es_isN : List aEs := []
def rs_isN : List aRt := [(some (0, 1, 1, 0), ([], [], [(1, 116, 116)])), (some (0, 1, 1, 0), ([], [], [(1, 115, 115)])), (some (0, 1, 1, 0), ([], [], [(1, 108, 108)])), (some (0, 1, 1, 0), ([], [], [(1, 110, 110)])), (some (0, 1, 1, 0), ([], [], [(1, 102, 102)])), (some (0, 0, 0, 0), ([], [], []))]
set_option maxRecDepth 100000 in
set_option maxHeartbeats 40000000 in
theorem fs_isN : fsegchk prog HT [] [] tb_isN 20 2 211 0 false g0_isN c0_isN a0_isN s0_isN es_isN rs_isN = true := by decide +kernel
