/-! ===== parts of nextToken, checked (printed by program) ===== -/
def lt_nt0 : lTy := [some (.inr (false, [110])), none, none]
def en_nt0 : List aEn := [(18, [some (.inr (false, [110])), some (.inl (0, 1)), some (.inl ((-2147483648), 2147483647))], [])]
def tb_nt0 : aTb := fun mi i => none
set_option maxRecDepth 100000 in
set_option maxHeartbeats 40000000 in
theorem sg_nt0 : segchk prog HT [] [] tb_nt0 24 8 207 0 false lt_nt0 [] en_nt0 (some (1, 0)) = true := by decide +kernel
/-! ===== parts of nextToken, exactly (printed by program) ===== -/
def tb_nt18 : aTb := fun mi i => none
def g0_nt18 : aG := [.inl (0, 96), .inl (0, 96), .inl (0, 1), .inl ((-2147483648), 2147483647), .inl (0, 96), .inl (0, 255)]
def c0_nt18 : aC := [((5, 0, 0, 110), (0, 15, 15, 0), (1, 1, 0, 0)), ((5, 0, 0, 110), (0, 17, 17, 0), (1, 1, 0, 1))]
def a0_nt18 : aL := [(5, 0, 0, 110), (1, 1, 0, 2), (1, 1, 0, 3)]
def s0_nt18 : List AV := []
def es_nt18 : List aEs := [(18, [some (5, 0, 0, 110), some (1, 1, 0, 2), some (1, 1, 0, 3)], [], ([((5, 0, 0, 110), (0, 15, 15, 0), (1, 1, 0, 0)), ((5, 0, 0, 110), (0, 17, 17, 0), (1, 1, 1, 1))], [(0, (1, 1, 0, 1), (1, 1, 0, 0), (0, 0, 0, 0))], [])), (37, [some (5, 0, 0, 110), some (1, 1, 0, 2), some (1, 1, 0, 3)], [], ([((5, 0, 0, 110), (0, 15, 15, 0), (1, 1, 0, 0)), ((5, 0, 0, 110), (0, 17, 17, 0), (1, 1, 0, 1))], [], []))]
def rs_nt18 : List aRt := []
set_option maxRecDepth 100000 in
set_option maxHeartbeats 40000000 in
theorem fs_nt18 : fsegchk prog HT [(110, 110, 16, 20)] [] tb_nt18 26 8 207 18 true g0_nt18 c0_nt18 a0_nt18 s0_nt18 es_nt18 rs_nt18 = true := by decide +kernel
def tb_nt37 : aTb := fun mi i => none
def g0_nt37 : aG := [.inl (0, 96), .inl (0, 96), .inl (0, 1), .inl ((-2147483648), 2147483647), .inl (0, 96), .inl (0, 255)]
def c0_nt37 : aC := [((5, 0, 0, 110), (0, 15, 15, 0), (1, 1, 0, 0)), ((5, 0, 0, 110), (0, 17, 17, 0), (1, 1, 0, 1))]
def a0_nt37 : aL := [(5, 0, 0, 110), (1, 1, 0, 2), (1, 1, 0, 3)]
def s0_nt37 : List AV := []
def es_nt37 : List aEs := [(51, [some (5, 0, 0, 110), some (0, 0, 0, 0), some (1, 1, 0, 3)], [], ([((5, 0, 0, 110), (0, 15, 15, 0), (1, 1, 0, 0)), ((5, 0, 0, 110), (0, 16, 16, 0), (1, 1, 0, 1)), ((5, 0, 0, 110), (0, 17, 17, 0), (1, 1, 0, 1))], [], [])), (51, [some (5, 0, 0, 110), some (0, 1, 1, 0), some (1, 1, 0, 3)], [], ([((5, 0, 0, 110), (0, 15, 15, 0), (1, 1, 0, 0)), ((5, 0, 0, 110), (0, 16, 16, 0), (1, 1, 0, 1)), ((5, 0, 0, 110), (0, 17, 17, 0), (1, 1, 0, 1))], [], []))]
def rs_nt37 : List aRt := []
set_option maxRecDepth 100000 in
set_option maxHeartbeats 40000000 in
theorem fs_nt37 : fsegchk prog HT [(110, 110, 16, 20)] [] tb_nt37 20 8 207 37 false g0_nt37 c0_nt37 a0_nt37 s0_nt37 es_nt37 rs_nt37 = true := by decide +kernel
def tb_nt56 : aTb := fun mi i => none
def g0_nt56 : aG := [.inl (0, 96), .inl (0, 96), .inl (0, 1), .inl ((-2147483648), 2147483647), .inl (0, 96), .inl (0, 255)]
def c0_nt56 : aC := [((5, 0, 0, 110), (0, 15, 15, 0), (1, 1, 0, 0)), ((5, 0, 0, 110), (0, 16, 16, 0), (1, 1, 0, 4)), ((5, 0, 0, 110), (0, 17, 17, 0), (1, 1, 0, 1))]
def a0_nt56 : aL := [(5, 0, 0, 110), (1, 1, 0, 2), (1, 1, 0, 3)]
def s0_nt56 : List AV := []
def es_nt56 : List aEs := []
def rs_nt56 : List aRt := [(none, ([((5, 0, 0, 110), (0, 16, 16, 0), (1, 1, 0, 4)), ((5, 0, 0, 110), (0, 17, 17, 0), (1, 1, 0, 1)), ((5, 0, 0, 110), (0, 18, 18, 0), (0, 0, 0, 0))], [], []))]
set_option maxRecDepth 100000 in
set_option maxHeartbeats 40000000 in
theorem fs_nt56 : fsegchk prog HT [(110, 110, 16, 20)] [] tb_nt56 11 8 207 56 false g0_nt56 c0_nt56 a0_nt56 s0_nt56 es_nt56 rs_nt56 = true := by decide +kernel
def tb_nt60L : aTb := fun mi i => none
def g0_nt60L : aG := [.inl (0, 96), .inl (0, 95), .inl (0, 1), .inl ((-2147483648), 2147483647), .inl (0, 96), .inl (97, 122)]
def c0_nt60L : aC := [((5, 0, 0, 110), (0, 15, 15, 0), (1, 1, 0, 0)), ((5, 0, 0, 110), (0, 16, 16, 0), (1, 1, 0, 1)), ((5, 0, 0, 110), (0, 17, 17, 0), (1, 1, 0, 1)), ((5, 0, 0, 124), (1, 1, 0, 1), (1, 1, 0, 5))]
def a0_nt60L : aL := [(5, 0, 0, 110), (1, 1, 0, 2), (1, 1, 0, 3)]
def s0_nt60L : List AV := []
def es_nt60L : List aEs := [(65, [some (5, 0, 0, 110), some (1, 1, 0, 2), some (1, 1, 0, 3)], [], ([((5, 0, 0, 110), (0, 15, 15, 0), (1, 1, 0, 0)), ((5, 0, 0, 110), (0, 16, 16, 0), (1, 1, 0, 1)), ((5, 0, 0, 110), (0, 17, 17, 0), (1, 1, 1, 1))], [], []))]
def rs_nt60L : List aRt := [(none, ([], [(3, (1, 1, 0, 1), (1, 1, 0, 0), (0, 0, 0, 0))], []))]
set_option maxRecDepth 100000 in
set_option maxHeartbeats 40000000 in
theorem fs_nt60L : fsegchk prog HT [(110, 110, 16, 20)] [] tb_nt60L 78 8 207 60 false g0_nt60L c0_nt60L a0_nt60L s0_nt60L es_nt60L rs_nt60L = true := by decide +kernel
def tb_nt60D : aTb := fun mi i => none
def g0_nt60D : aG := [.inl (0, 96), .inl (0, 95), .inl (0, 1), .inl ((-2147483648), 2147483647), .inl (0, 96), .inl (48, 57)]
def c0_nt60D : aC := [((5, 0, 0, 110), (0, 15, 15, 0), (1, 1, 0, 0)), ((5, 0, 0, 110), (0, 16, 16, 0), (1, 1, 0, 1)), ((5, 0, 0, 110), (0, 17, 17, 0), (1, 1, 0, 1)), ((5, 0, 0, 124), (1, 1, 0, 1), (1, 1, 0, 5))]
def a0_nt60D : aL := [(5, 0, 0, 110), (1, 1, 0, 2), (1, 1, 0, 3)]
def s0_nt60D : List AV := []
def es_nt60D : List aEs := [(109, [some (5, 0, 0, 110), some (1, 1, 0, 2), some (1, 1, 0, 3)], [], ([((5, 0, 0, 110), (0, 15, 15, 0), (1, 1, 0, 0)), ((5, 0, 0, 110), (0, 16, 16, 0), (1, 1, 0, 1)), ((5, 0, 0, 110), (0, 17, 17, 0), (1, 1, 1, 1))], [], []))]
def rs_nt60D : List aRt := [(none, ([], [(3, (1, 1, 0, 1), (1, 1, 0, 0), (0, 0, 0, 0))], []))]
set_option maxRecDepth 100000 in
set_option maxHeartbeats 40000000 in
theorem fs_nt60D : fsegchk prog HT [(110, 110, 16, 20)] [] tb_nt60D 129 8 207 60 false g0_nt60D c0_nt60D a0_nt60D s0_nt60D es_nt60D rs_nt60D = true := by decide +kernel
def tb_nt60S0 : aTb := fun mi i => none
def g0_nt60S0 : aG := [.inl (0, 96), .inl (0, 95), .inl (0, 1), .inl ((-2147483648), 2147483647), .inl (0, 96), .inl (0, 47)]
def c0_nt60S0 : aC := [((5, 0, 0, 110), (0, 15, 15, 0), (1, 1, 0, 0)), ((5, 0, 0, 110), (0, 16, 16, 0), (1, 1, 0, 1)), ((5, 0, 0, 110), (0, 17, 17, 0), (1, 1, 0, 1)), ((5, 0, 0, 124), (1, 1, 0, 1), (1, 1, 0, 5))]
def a0_nt60S0 : aL := [(5, 0, 0, 110), (1, 1, 0, 2), (1, 1, 0, 3)]
def s0_nt60S0 : List AV := []
def es_nt60S0 : List aEs := []
def rs_nt60S0 : List aRt := [(none, ([((5, 0, 0, 110), (0, 16, 16, 0), (1, 1, 0, 1)), ((5, 0, 0, 110), (0, 17, 17, 0), (1, 1, 1, 1)), ((5, 0, 0, 110), (0, 18, 18, 0), (0, 3, 3, 0))], [], [])), (none, ([], [(3, (1, 1, 0, 1), (1, 1, 0, 0), (0, 0, 0, 0))], []))]
set_option maxRecDepth 100000 in
set_option maxHeartbeats 40000000 in
theorem fs_nt60S0 : fsegchk prog HT [(110, 110, 16, 20)] [] tb_nt60S0 75 8 207 60 false g0_nt60S0 c0_nt60S0 a0_nt60S0 s0_nt60S0 es_nt60S0 rs_nt60S0 = true := by decide +kernel
def tb_nt60S1 : aTb := fun mi i => none
def g0_nt60S1 : aG := [.inl (0, 96), .inl (0, 95), .inl (0, 1), .inl ((-2147483648), 2147483647), .inl (0, 96), .inl (58, 96)]
def c0_nt60S1 : aC := [((5, 0, 0, 110), (0, 15, 15, 0), (1, 1, 0, 0)), ((5, 0, 0, 110), (0, 16, 16, 0), (1, 1, 0, 1)), ((5, 0, 0, 110), (0, 17, 17, 0), (1, 1, 0, 1)), ((5, 0, 0, 124), (1, 1, 0, 1), (1, 1, 0, 5))]
def a0_nt60S1 : aL := [(5, 0, 0, 110), (1, 1, 0, 2), (1, 1, 0, 3)]
def s0_nt60S1 : List AV := []
def es_nt60S1 : List aEs := []
def rs_nt60S1 : List aRt := [(none, ([((5, 0, 0, 110), (0, 16, 16, 0), (1, 1, 0, 1)), ((5, 0, 0, 110), (0, 17, 17, 0), (1, 1, 1, 1)), ((5, 0, 0, 110), (0, 18, 18, 0), (0, 3, 3, 0))], [], [])), (none, ([], [(3, (1, 1, 0, 1), (1, 1, 0, 0), (0, 0, 0, 0))], []))]
set_option maxRecDepth 100000 in
set_option maxHeartbeats 40000000 in
theorem fs_nt60S1 : fsegchk prog HT [(110, 110, 16, 20)] [] tb_nt60S1 79 8 207 60 false g0_nt60S1 c0_nt60S1 a0_nt60S1 s0_nt60S1 es_nt60S1 rs_nt60S1 = true := by decide +kernel
def tb_nt60S2 : aTb := fun mi i => none
def g0_nt60S2 : aG := [.inl (0, 96), .inl (0, 95), .inl (0, 1), .inl ((-2147483648), 2147483647), .inl (0, 96), .inl (123, 255)]
def c0_nt60S2 : aC := [((5, 0, 0, 110), (0, 15, 15, 0), (1, 1, 0, 0)), ((5, 0, 0, 110), (0, 16, 16, 0), (1, 1, 0, 1)), ((5, 0, 0, 110), (0, 17, 17, 0), (1, 1, 0, 1)), ((5, 0, 0, 124), (1, 1, 0, 1), (1, 1, 0, 5))]
def a0_nt60S2 : aL := [(5, 0, 0, 110), (1, 1, 0, 2), (1, 1, 0, 3)]
def s0_nt60S2 : List AV := []
def es_nt60S2 : List aEs := []
def rs_nt60S2 : List aRt := [(none, ([((5, 0, 0, 110), (0, 16, 16, 0), (1, 1, 0, 1)), ((5, 0, 0, 110), (0, 17, 17, 0), (1, 1, 1, 1)), ((5, 0, 0, 110), (0, 18, 18, 0), (0, 3, 3, 0))], [], [])), (none, ([], [(3, (1, 1, 0, 1), (1, 1, 0, 0), (0, 0, 0, 0))], []))]
set_option maxRecDepth 100000 in
set_option maxHeartbeats 40000000 in
theorem fs_nt60S2 : fsegchk prog HT [(110, 110, 16, 20)] [] tb_nt60S2 83 8 207 60 false g0_nt60S2 c0_nt60S2 a0_nt60S2 s0_nt60S2 es_nt60S2 rs_nt60S2 = true := by decide +kernel
def tb_nt65 : aTb := fun mi i => none
def g0_nt65 : aG := [.inl (0, 96), .inl (0, 96), .inl (0, 1), .inl ((-2147483648), 2147483647), .inl (0, 95), .inl (0, 255)]
def c0_nt65 : aC := [((5, 0, 0, 110), (0, 15, 15, 0), (1, 1, 0, 0)), ((5, 0, 0, 110), (0, 16, 16, 0), (1, 1, 0, 4)), ((5, 0, 0, 110), (0, 17, 17, 0), (1, 1, 0, 1))]
def a0_nt65 : aL := [(5, 0, 0, 110), (1, 1, 0, 2), (1, 1, 0, 3)]
def s0_nt65 : List AV := []
def es_nt65 : List aEs := [(65, [some (5, 0, 0, 110), some (1, 1, 0, 2), some (1, 1, 0, 3)], [], ([((5, 0, 0, 110), (0, 15, 15, 0), (1, 1, 0, 0)), ((5, 0, 0, 110), (0, 16, 16, 0), (1, 1, 0, 4)), ((5, 0, 0, 110), (0, 17, 17, 0), (1, 1, 1, 1))], [(0, (1, 1, 0, 1), (1, 1, 0, 0), (0, 0, 0, 0))], []))]
def rs_nt65 : List aRt := [(none, ([((5, 0, 0, 110), (0, 16, 16, 0), (1, 1, 0, 4)), ((5, 0, 0, 110), (0, 17, 17, 0), (1, 1, 0, 1))], [], []))]
set_option maxRecDepth 100000 in
set_option maxHeartbeats 40000000 in
theorem fs_nt65 : fsegchk prog HT [(110, 110, 16, 20)] [] tb_nt65 59 8 207 65 true g0_nt65 c0_nt65 a0_nt65 s0_nt65 es_nt65 rs_nt65 = true := by decide +kernel
def tb_nt109 : aTb := fun mi i => none
def g0_nt109 : aG := [.inl (0, 96), .inl (0, 96), .inl (0, 1), .inl ((-2147483648), 2147483647), .inl (0, 95), .inl (0, 255)]
def c0_nt109 : aC := [((5, 0, 0, 110), (0, 15, 15, 0), (1, 1, 0, 0)), ((5, 0, 0, 110), (0, 16, 16, 0), (1, 1, 0, 4)), ((5, 0, 0, 110), (0, 17, 17, 0), (1, 1, 0, 1))]
def a0_nt109 : aL := [(5, 0, 0, 110), (1, 1, 0, 2), (1, 1, 0, 3)]
def s0_nt109 : List AV := []
def es_nt109 : List aEs := [(109, [some (5, 0, 0, 110), some (1, 1, 0, 2), some (1, 1, 0, 3)], [], ([((5, 0, 0, 110), (0, 15, 15, 0), (1, 1, 0, 0)), ((5, 0, 0, 110), (0, 16, 16, 0), (1, 1, 0, 4)), ((5, 0, 0, 110), (0, 17, 17, 0), (1, 1, 1, 1))], [(0, (1, 1, 0, 1), (1, 1, 0, 0), (0, 0, 0, 0))], []))]
def rs_nt109 : List aRt := [(none, ([((5, 0, 0, 110), (0, 16, 16, 0), (1, 1, 0, 4)), ((5, 0, 0, 110), (0, 17, 17, 0), (1, 1, 0, 1))], [], []))]
set_option maxRecDepth 100000 in
set_option maxHeartbeats 40000000 in
theorem fs_nt109 : fsegchk prog HT [(110, 110, 16, 20)] [] tb_nt109 68 8 207 109 true g0_nt109 c0_nt109 a0_nt109 s0_nt109 es_nt109 rs_nt109 = true := by decide +kernel
