/-! ===== parts of copy, checked (printed by program) ===== -/
def lt_co1 : lTy := [some (.inr (false, [110])), some (.inl ((-2147483648), 2147483647)), some (.inl ((-2147483648), 2147483647)), some (.inl ((-2147483648), 2147483647)), some (.inl ((-2147483648), 2147483647)), some (.inl ((-2147483648), 2147483647)), none]
def en_co1 : List aEn := [(31, [some (.inr (false, [110])), some (.inl (0, 3)), some (.inl ((-2147483648), 2147483647)), some (.inl (0, 3)), some (.inl ((-2147483648), 2147483647)), some (.inl ((-2147483648), 2147483647)), none], [])]
def tb_co1 : aTb := fun mi i => if mi = 232 ∧ i = 86 then some ([(0, 2147483647, .inl 6)], [], [], [], 0, true) else if mi = 232 ∧ i = 65 then some ([(0, 2147483647, .inl 6)], [], [], [], 0, true) else none
set_option maxRecDepth 100000 in
set_option maxHeartbeats 40000000 in
theorem sg_co1 : segchk prog HT [] [] tb_co1 67 50 232 0 false lt_co1 [] en_co1 (some ((-2147483648), 2147483647)) = true := by decide +kernel
def lt_co2 : lTy := [some (.inr (false, [110])), some (.inl (0, 3)), some (.inl ((-2147483648), 2147483647)), some (.inl (0, 3)), some (.inl ((-2147483648), 2147483647)), some (.inl ((-2147483648), 2147483647)), none]
def en_co2 : List aEn := []
def tb_co2 : aTb := fun mi i => if mi = 232 ∧ i = 86 then some ([(0, 2147483647, .inl 6)], [], [], [], 0, true) else if mi = 232 ∧ i = 65 then some ([(0, 2147483647, .inl 6)], [], [], [], 0, true) else none
set_option maxRecDepth 100000 in
set_option maxHeartbeats 40000000 in
theorem sg_co2 : segchk prog HT [] [] tb_co2 8 50 232 61 false lt_co2 [] en_co2 (some ((-2147483648), 2147483647)) = true := by decide +kernel
def lt_co3 (c : Nat) : lTy := [some (.inr (false, [110])), some (.inl (0, 3)), some (.inl (0, 24 - (c : Int))), some (.inl (0, 3)), some (.inl (0, 24 - (c : Int))), some (.inl ((c : Int), (c : Int))), none]
def en_co3 (c : Nat) : List aEn := []
def tb_co3 : aTb := fun mi i => if mi = 232 ∧ i = 86 then some ([(0, 2147483647, .inl 6)], [], [], [(127, 127, 0, 23), (116, 116, 0, 95)], 0, true) else if mi = 232 ∧ i = 65 then some ([(0, 2147483647, .inl 6)], [], [], [(127, 127, 0, 23), (116, 116, 0, 95)], 0, true) else none
set_option maxRecDepth 100000 in
set_option maxHeartbeats 40000000 in
theorem sa_co3 : (List.range 25).all (fun c => segchk prog HT [(127, 127, 0, 23), (116, 116, 0, 95)] [] tb_co3 35 50 232 63 false (lt_co3 c) [] (en_co3 c) (some ((-2147483648), 2147483647))) = true := by decide +kernel
theorem sg_co3 (c : Nat) (hc : c < 25) : segchk prog HT [(127, 127, 0, 23), (116, 116, 0, 95)] [] tb_co3 35 50 232 63 false (lt_co3 c) [] (en_co3 c) (some ((-2147483648), 2147483647)) = true := List.all_eq_true.mp sa_co3 c (List.mem_range.mpr hc)
