/-! ===== parts of gains, fee, fine, checked (printed by program) ===== -/
def lt_ga1 : lTy := [some (.inr (false, [110])), some (.inl (0, 8)), none, none]
def en_ga1 : List aEn := [(4, [some (.inr (false, [110])), some (.inl (0, 8)), some (.inl ((-2147483648), 2147483647)), none], [.inl (0, 0), .inr (false, [110])])]
def tb_ga1 : aTb := fun mi i => none
set_option maxRecDepth 100000 in
set_option maxHeartbeats 40000000 in
theorem sg_ga1 : segchk prog HT [] [] tb_ga1 11 18 159 0 false lt_ga1 [] en_ga1 (some (1, 0)) = true := by decide +kernel
def lt_ga2 (c : Nat) : lTy := [some (.inr (false, [110])), some (.inl (0, 8)), some (.inl ((-2147483648), 2147483647)), none]
def en_ga2 (c : Nat) : List aEn := [(34, [some (.inr (false, [110])), some (.inl (0, 8)), some (.inl ((-2147483648), 2147483647)), some (.inl ((-2147483648), 2147483647))], [.inl ((c : Int), (c : Int)), .inr (false, [110])])]
def tb_ga2 : aTb := fun mi i => none
set_option maxRecDepth 100000 in
set_option maxHeartbeats 40000000 in
theorem sa_ga2 : (List.range 14).all (fun c => segchk prog HT [(125, 125, 0, 127)] [] tb_ga2 69 18 159 5 false (lt_ga2 c) [.inl ((c : Int), (c : Int))] (en_ga2 c) (some (1, 0))) = true := by decide +kernel
theorem sg_ga2 (c : Nat) (hc : c < 14) : segchk prog HT [(125, 125, 0, 127)] [] tb_ga2 69 18 159 5 false (lt_ga2 c) [.inl ((c : Int), (c : Int))] (en_ga2 c) (some (1, 0)) = true := List.all_eq_true.mp sa_ga2 c (List.mem_range.mpr hc)
def lt_ga3 : lTy := [some (.inr (false, [110])), some (.inl (0, 8)), some (.inl ((-2147483648), 2147483647)), none]
def en_ga3 : List aEn := []
def tb_ga3 : aTb := fun mi i => none
set_option maxRecDepth 100000 in
set_option maxHeartbeats 40000000 in
theorem sg_ga3 : segchk prog HT [] [] tb_ga3 31 18 159 5 false lt_ga3 [.inl ((-1), (-1))] en_ga3 (some ((-2147483648), 2147483647)) = true := by decide +kernel
def lt_ga4 : lTy := [some (.inr (false, [110])), some (.inl (0, 8)), some (.inl ((-2147483648), 2147483647)), some (.inl ((-2147483648), 2147483647))]
def en_ga4 : List aEn := []
def tb_ga4 : aTb := fun mi i => none
set_option maxRecDepth 100000 in
set_option maxHeartbeats 40000000 in
theorem sg_ga4 : segchk prog HT [] [] tb_ga4 39 18 159 35 false lt_ga4 [.inl ((-2147483648), 2147483647)] en_ga4 (some ((-2147483648), 2147483647)) = true := by decide +kernel
def lt_fe1 : lTy := [some (.inr (false, [110])), none]
def en_fe1 : List aEn := [(2, [some (.inr (false, [110])), none], [.inl (1, 1), .inr (false, [110])])]
def tb_fe1 : aTb := fun mi i => none
set_option maxRecDepth 100000 in
set_option maxHeartbeats 40000000 in
theorem sg_fe1 : segchk prog HT [] [] tb_fe1 9 50 201 0 false lt_fe1 [] en_fe1 (some (1, 0)) = true := by decide +kernel
def lt_fe2 (c : Nat) : lTy := [some (.inr (false, [110])), none]
def en_fe2 (c : Nat) : List aEn := [(29, [some (.inr (false, [110])), some (.inl ((-2147483648), 2147483647))], [.inl ((c : Int), (c : Int)), .inr (false, [110])])]
def tb_fe2 : aTb := fun mi i => none
set_option maxRecDepth 100000 in
set_option maxHeartbeats 40000000 in
theorem sa_fe2 : (List.range 14).all (fun c => segchk prog HT [(125, 125, 0, 127)] [] tb_fe2 28 50 201 3 false (lt_fe2 c) [.inl ((c : Int), (c : Int))] (en_fe2 c) (some (1, 0))) = true := by decide +kernel
theorem sg_fe2 (c : Nat) (hc : c < 14) : segchk prog HT [(125, 125, 0, 127)] [] tb_fe2 28 50 201 3 false (lt_fe2 c) [.inl ((c : Int), (c : Int))] (en_fe2 c) (some (1, 0)) = true := List.all_eq_true.mp sa_fe2 c (List.mem_range.mpr hc)
def lt_fe3 : lTy := [some (.inr (false, [110])), none]
def en_fe3 : List aEn := []
def tb_fe3 : aTb := fun mi i => none
set_option maxRecDepth 100000 in
set_option maxHeartbeats 40000000 in
theorem sg_fe3 : segchk prog HT [] [] tb_fe3 14 50 201 3 false lt_fe3 [.inl ((-1), (-1))] en_fe3 (some ((-2147483648), 2147483647)) = true := by decide +kernel
def lt_fe4 : lTy := [some (.inr (false, [110])), some (.inl ((-2147483648), 2147483647))]
def en_fe4 : List aEn := []
def tb_fe4 : aTb := fun mi i => none
set_option maxRecDepth 100000 in
set_option maxHeartbeats 40000000 in
theorem sg_fe4 : segchk prog HT [] [] tb_fe4 7 50 201 30 false lt_fe4 [.inl ((-2147483648), 2147483647)] en_fe4 (some ((-2147483648), 2147483647)) = true := by decide +kernel
def lt_fi1 : lTy := [some (.inr (false, [110])), some (.inl ((-2147483648), 2147483647)), none]
def en_fi1 : List aEn := [(8, [some (.inr (false, [110])), some (.inl (0, 8)), none], [.inl (2, 2), .inr (false, [110])])]
def tb_fi1 : aTb := fun mi i => none
set_option maxRecDepth 100000 in
set_option maxHeartbeats 40000000 in
theorem sg_fi1 : segchk prog HT [] [] tb_fi1 36 50 202 0 false lt_fi1 [] en_fi1 (some ((-2147483648), 2147483647)) = true := by decide +kernel
def lt_fi2 (c : Nat) : lTy := [some (.inr (false, [110])), some (.inl (0, 8)), none]
def en_fi2 (c : Nat) : List aEn := [(35, [some (.inr (false, [110])), some (.inl (0, 8)), some (.inl ((-2147483648), 2147483647))], [.inl ((c : Int), (c : Int)), .inr (false, [110])])]
def tb_fi2 : aTb := fun mi i => none
set_option maxRecDepth 100000 in
set_option maxHeartbeats 40000000 in
theorem sa_fi2 : (List.range 14).all (fun c => segchk prog HT [(125, 125, 0, 127)] [] tb_fi2 50 50 202 9 false (lt_fi2 c) [.inl ((c : Int), (c : Int))] (en_fi2 c) (some (1, 0))) = true := by decide +kernel
theorem sg_fi2 (c : Nat) (hc : c < 14) : segchk prog HT [(125, 125, 0, 127)] [] tb_fi2 50 50 202 9 false (lt_fi2 c) [.inl ((c : Int), (c : Int))] (en_fi2 c) (some (1, 0)) = true := List.all_eq_true.mp sa_fi2 c (List.mem_range.mpr hc)
def lt_fi3 : lTy := [some (.inr (false, [110])), some (.inl (0, 8)), none]
def en_fi3 : List aEn := []
def tb_fi3 : aTb := fun mi i => none
set_option maxRecDepth 100000 in
set_option maxHeartbeats 40000000 in
theorem sg_fi3 : segchk prog HT [] [] tb_fi3 25 50 202 9 false lt_fi3 [.inl ((-1), (-1))] en_fi3 (some ((-2147483648), 2147483647)) = true := by decide +kernel
def lt_fi4 : lTy := [some (.inr (false, [110])), some (.inl (0, 8)), some (.inl ((-2147483648), 2147483647))]
def en_fi4 : List aEn := []
def tb_fi4 : aTb := fun mi i => none
set_option maxRecDepth 100000 in
set_option maxHeartbeats 40000000 in
theorem sg_fi4 : segchk prog HT [] [] tb_fi4 7 50 202 36 false lt_fi4 [.inl ((-2147483648), 2147483647)] en_fi4 (some ((-2147483648), 2147483647)) = true := by decide +kernel
