/-! ===== parts of worked, checked (printed by program) ===== -/
def tb_wkA1 : aTb := fun mi i => none
def g0_wkA1 : aG := [.inl (0, 98), .inl (0, 98), .inl ((-2147483648), 2147483647), .inl ((-2147483648), 2147483647)]
def c0_wkA1 : aC := []
def a0_wkA1 : aL := [(5, 0, 0, 110), (1, 1, 0, 2), (1, 1, 0, 0), (1, 1, 0, 1), (0, 0, 0, 0), (1, 1, 0, 3)]
def s0_wkA1 : List AV := []
def es_wkA1 : List aEs := [(4, [some (5, 0, 0, 110), some (1, 1, 0, 2), some (1, 1, 1, 0), some (1, 1, 1, 1), none, none], [], ([], [], []))]
def rs_wkA1 : List aRt := []
set_option maxRecDepth 100000 in
set_option maxHeartbeats 40000000 in
theorem fs_wkA1 : fsegchk prog HT [(126, 126, 0, 99)] [] tb_wkA1 19 10 225 45 false g0_wkA1 c0_wkA1 a0_wkA1 s0_wkA1 es_wkA1 rs_wkA1 = true := by decide +kernel
def tb_wkA2 : aTb := fun mi i => none
def g0_wkA2 : aG := [.inl (0, 98), .inl (0, 98), .inl ((-2147483648), 2147483647), .inl ((-2147483648), 2147483647), .inl (0, 127)]
def c0_wkA2 : aC := []
def a0_wkA2 : aL := [(5, 0, 0, 110), (1, 1, 0, 2), (1, 1, 0, 0), (1, 1, 0, 1), (1, 1, 0, 3), (1, 1, 0, 4)]
def s0_wkA2 : List AV := []
def es_wkA2 : List aEs := [(4, [some (5, 0, 0, 110), some (1, 1, 0, 2), some (1, 1, 1, 0), some (1, 1, 1, 1), none, none], [], ([], [], []))]
def rs_wkA2 : List aRt := []
set_option maxRecDepth 100000 in
set_option maxHeartbeats 40000000 in
theorem fs_wkA2 : fsegchk prog HT [(126, 126, 0, 99)] [] tb_wkA2 21 10 225 45 false g0_wkA2 c0_wkA2 a0_wkA2 s0_wkA2 es_wkA2 rs_wkA2 = true := by decide +kernel
def tb_wkB : aTb := fun mi i => none
def g0_wkB : aG := [.inl (1, 98), .inl (0, 98), .inl ((-2147483648), 2147483647), .inl ((-2147483648), 2147483647), .inl ((-2147483648), 2147483647)]
def c0_wkB : aC := []
def a0_wkB : aL := [(5, 0, 0, 110), (1, 1, 0, 2), (1, 1, 0, 0), (1, 1, 0, 1), (1, 1, 0, 3), (1, 1, 0, 4)]
def s0_wkB : List AV := []
def es_wkB : List aEs := [(4, [some (5, 0, 0, 110), some (1, 1, 0, 2), some (1, 1, 0, 0), some (1, 1, 1, 1), none, none], [], ([], [], []))]
def rs_wkB : List aRt := []
set_option maxRecDepth 100000 in
set_option maxHeartbeats 40000000 in
theorem fs_wkB : fsegchk prog HT [(126, 126, 0, 99)] [] tb_wkB 25 10 225 62 false g0_wkB c0_wkB a0_wkB s0_wkB es_wkB rs_wkB = true := by decide +kernel
def tb_wkC : aTb := fun mi i => none
def g0_wkC : aG := [.inl (2, 98), .inl (0, 98), .inl ((-2147483648), 2147483647), .inl ((-2147483648), 2147483647), .inl ((-2147483648), 2147483647)]
def c0_wkC : aC := []
def a0_wkC : aL := [(5, 0, 0, 110), (1, 1, 0, 2), (1, 1, 0, 0), (1, 1, 0, 1), (1, 1, 0, 3), (1, 1, 0, 4)]
def s0_wkC : List AV := []
def es_wkC : List aEs := [(4, [some (5, 0, 0, 110), some (1, 1, 0, 2), some (1, 1, (-1), 0), some (1, 1, 1, 1), none, none], [], ([], [], []))]
def rs_wkC : List aRt := []
set_option maxRecDepth 100000 in
set_option maxHeartbeats 40000000 in
theorem fs_wkC : fsegchk prog HT [(126, 126, 0, 99)] [] tb_wkC 39 10 225 79 false g0_wkC c0_wkC a0_wkC s0_wkC es_wkC rs_wkC = true := by decide +kernel
