/-! ===== parts of the calls that lay by and back, checked (printed by program) ===== -/
def lt_be1 : lTy := [some (.inr (false, [110])), some (.inl ((-2147483648), 2147483647)), some (.inl ((-2147483648), 2147483647)), none]
def en_be1 : List aEn := [(21, [some (.inr (false, [110])), some (.inl (0, 100)), some (.inl (0, 11)), none], [.inr (false, [110])])]
def tb_be1 : aTb := fun mi i => none
set_option maxRecDepth 100000 in
set_option maxHeartbeats 40000000 in
theorem sg_be1 : segchk prog HT [] [] tb_be1 48 50 197 0 false lt_be1 [] en_be1 (some ((-2147483648), 2147483647)) = true := by decide +kernel
def lt_be2 : lTy := [some (.inr (false, [110])), some (.inl (0, 100)), some (.inl (0, 11)), none]
def en_be2 : List aEn := [(52, [some (.inr (false, [110])), some (.inl ((-2147483648), 2147483647)), some (.inl ((-2147483648), 2147483647)), some (.inl ((-2147483648), 2147483647))], [.inr (false, [110])])]
def tb_be2 : aTb := fun mi i => none
set_option maxRecDepth 100000 in
set_option maxHeartbeats 40000000 in
theorem sg_be2 : segchk prog HT (WKs ++ WS) kc_r_look tb_be2 37 50 197 22 false lt_be2 [] en_be2 (some (1, 0)) = true := by decide +kernel
def lt_be3 : lTy := [some (.inr (false, [110])), some (.inl ((-2147483648), 2147483647)), some (.inl ((-2147483648), 2147483647)), some (.inl ((-2147483648), 2147483647))]
def en_be3 : List aEn := []
def tb_be3 : aTb := fun mi i => none
set_option maxRecDepth 100000 in
set_option maxHeartbeats 40000000 in
theorem sg_be3 : segchk prog HT [] [] tb_be3 8 50 197 53 false lt_be3 [] en_be3 (some ((-2147483648), 2147483647)) = true := by decide +kernel
def lt_la1 : lTy := [some (.inr (false, [110])), none, none]
def en_la1 : List aEn := [(1, [some (.inr (false, [110])), none, none], [.inr (false, [110])])]
def tb_la1 : aTb := fun mi i => if mi = 198 ∧ i = 6 then some ([((-2147483648), 2147483647, .inl 1), (0, 2147483647, .inl 2)], [], [], [], 1, true) else none
set_option maxRecDepth 100000 in
set_option maxHeartbeats 40000000 in
theorem sg_la1 : segchk prog HT [] [] tb_la1 8 50 198 0 false lt_la1 [] en_la1 (some (1, 0)) = true := by decide +kernel
def lt_la2 : lTy := [some (.inr (false, [110])), none, none]
def en_la2 : List aEn := [(23, [some (.inr (false, [110])), some (.inl ((-2147483648), 2147483647)), some (.inl ((-2147483648), 2147483647))], [.inr (false, [110])])]
def tb_la2 : aTb := fun mi i => if mi = 198 ∧ i = 6 then some ([((-2147483648), 2147483647, .inl 1), (0, 2147483647, .inl 2)], [], [], [(125, 125, 0, 127), (126, 126, 0, 99), (111, 111, 0, 0), (111, 111, 2, 74)], 1, true) else none
set_option maxRecDepth 100000 in
set_option maxHeartbeats 40000000 in
theorem sg_la2 : segchk prog HT (WKs ++ WS) kc_r_look tb_la2 27 50 198 2 false lt_la2 [] en_la2 (some (1, 0)) = true := by decide +kernel
def lt_la3 : lTy := [some (.inr (false, [110])), some (.inl ((-2147483648), 2147483647)), some (.inl ((-2147483648), 2147483647))]
def en_la3 : List aEn := []
def tb_la3 : aTb := fun mi i => if mi = 198 ∧ i = 6 then some ([((-2147483648), 2147483647, .inl 1), (0, 2147483647, .inl 2)], [], [], [], 1, true) else none
set_option maxRecDepth 100000 in
set_option maxHeartbeats 40000000 in
theorem sg_la3 : segchk prog HT [] [] tb_la3 14 50 198 24 false lt_la3 [] en_la3 (some ((-2147483648), 2147483647)) = true := by decide +kernel
def lt_bs1 : lTy := [some (.inr (false, [110])), some (.inl ((-2147483648), 2147483647)), some (.inl ((-2147483648), 2147483647)), some (.inl ((-2147483648), 2147483647)), none, none, none, none]
def en_bs1 : List aEn := [(19, [some (.inr (false, [110])), some (.inl (0, 8)), some (.inl ((-2147483648), 2147483647)), some (.inl ((-2147483648), 2147483647)), none, none, none, none], [.inr (false, [110])])]
def tb_bs1 : aTb := fun mi i => if mi = 199 ∧ i = 26 then some ([((-2147483648), 2147483647, .inl 4), ((-2147483648), 2147483647, .inl 5), (0, 2147483647, .inl 6)], [], [7], [], 2, true) else none
set_option maxRecDepth 100000 in
set_option maxHeartbeats 40000000 in
theorem sg_bs1 : segchk prog HT [] [] tb_bs1 69 50 199 0 false lt_bs1 [] en_bs1 (some ((-2147483648), 2147483647)) = true := by decide +kernel
def lt_bs2 : lTy := [some (.inr (false, [110])), some (.inl (0, 8)), some (.inl ((-2147483648), 2147483647)), some (.inl ((-2147483648), 2147483647)), none, none, none, none]
def en_bs2 : List aEn := [(26, [some (.inr (false, [110])), some (.inl (0, 8)), some (.inl ((-2147483648), 2147483647)), some (.inl ((-2147483648), 2147483647)), some (.inl ((-2147483648), 2147483647)), some (.inl ((-2147483648), 2147483647)), some (.inl (0, 0)), none], [])]
def tb_bs2 : aTb := fun mi i => if mi = 199 ∧ i = 26 then some ([((-2147483648), 2147483647, .inl 4), ((-2147483648), 2147483647, .inl 5), (0, 2147483647, .inl 6)], [], [7], [], 2, true) else none
set_option maxRecDepth 100000 in
set_option maxHeartbeats 40000000 in
theorem sg_bs2 : segchk prog HT [] [] tb_bs2 13 50 199 20 false lt_bs2 [] en_bs2 (some (1, 0)) = true := by decide +kernel
def lt_bs3 (c : Nat) : lTy := [some (.inr (false, [110])), some (.inl (0, 8)), some (.inl ((-2147483648), 2147483647)), some (.inl ((-2147483648), 2147483647)), some (.inl ((-2147483648), 2147483647)), some (.inl ((-2147483648), 2147483647)), some (.inl ((c : Int), (c : Int))), none]
def en_bs3 (c : Nat) : List aEn := [(43, [some (.inr (false, [110])), some (.inl (0, 8)), some (.inl ((-2147483648), 2147483647)), some (.inl ((-2147483648), 2147483647)), some (.inl ((-2147483648), 2147483647)), some (.inl ((-2147483648), 2147483647)), some (.inl ((c : Int), (c : Int))), some (.inl ((-2147483648), 2147483647))], [.inr (false, [110])])]
def tb_bs3 : aTb := fun mi i => none
set_option maxRecDepth 100000 in
set_option maxHeartbeats 40000000 in
theorem sa_bs3 : (List.range 16).all (fun c => segchk prog HT (WKs ++ WS) kc_r_look tb_bs3 47 50 199 26 true (lt_bs3 c) [] (en_bs3 c) (some (1, 0))) = true := by decide +kernel
theorem sg_bs3 (c : Nat) (hc : c < 16) : segchk prog HT (WKs ++ WS) kc_r_look tb_bs3 47 50 199 26 true (lt_bs3 c) [] (en_bs3 c) (some (1, 0)) = true := List.all_eq_true.mp sa_bs3 c (List.mem_range.mpr hc)
def lt_bs4 (c : Nat) : lTy := [some (.inr (false, [110])), some (.inl (0, 8)), some (.inl ((-2147483648), 2147483647)), some (.inl ((-2147483648), 2147483647)), some (.inl ((-2147483648), 2147483647)), some (.inl ((-2147483648), 2147483647)), some (.inl ((c : Int), (c : Int))), some (.inl ((-2147483648), 2147483647))]
def en_bs4 (c : Nat) : List aEn := [(26, [some (.inr (false, [110])), some (.inl (0, 8)), some (.inl ((-2147483648), 2147483647)), some (.inl ((-2147483648), 2147483647)), some (.inl ((-2147483648), 2147483647)), some (.inl ((-2147483648), 2147483647)), some (.inl ((c : Int) + 1, (c : Int) + 1)), none], [])]
def tb_bs4 : aTb := fun mi i => none
set_option maxRecDepth 100000 in
set_option maxHeartbeats 40000000 in
theorem sa_bs4 : (List.range 16).all (fun c => segchk prog HT [] [] tb_bs4 21 50 199 44 false (lt_bs4 c) [] (en_bs4 c) (some (1, 0))) = true := by decide +kernel
theorem sg_bs4 (c : Nat) (hc : c < 16) : segchk prog HT [] [] tb_bs4 21 50 199 44 false (lt_bs4 c) [] (en_bs4 c) (some (1, 0)) = true := List.all_eq_true.mp sa_bs4 c (List.mem_range.mpr hc)
def lt_bs5 : lTy := [some (.inr (false, [110])), some (.inl (0, 8)), some (.inl ((-2147483648), 2147483647)), some (.inl ((-2147483648), 2147483647)), some (.inl ((-2147483648), 2147483647)), some (.inl ((-2147483648), 2147483647)), some (.inl (16, 16)), none]
def en_bs5 : List aEn := []
def tb_bs5 : aTb := fun mi i => none
set_option maxRecDepth 100000 in
set_option maxHeartbeats 40000000 in
theorem sg_bs5 : segchk prog HT [] [] tb_bs5 14 50 199 26 true lt_bs5 [] en_bs5 (some ((-2147483648), 2147483647)) = true := by decide +kernel
def lt_ta1 : lTy := [some (.inr (false, [110])), some (.inl ((-2147483648), 2147483647)), some (.inl ((-2147483648), 2147483647)), none, none, none, none]
def en_ta1 : List aEn := [(15, [some (.inr (false, [110])), some (.inl ((-2147483648), 2147483647)), some (.inl ((-2147483648), 2147483647)), none, none, none, none], [.inr (false, [110])])]
def tb_ta1 : aTb := fun mi i => if mi = 200 ∧ i = 22 then some ([((-2147483648), 2147483647, .inl 3), ((-2147483648), 2147483647, .inl 4), (0, 2147483647, .inl 5)], [], [6], [], 2, true) else none
set_option maxRecDepth 100000 in
set_option maxHeartbeats 40000000 in
theorem sg_ta1 : segchk prog HT [] [] tb_ta1 42 50 200 0 false lt_ta1 [] en_ta1 (some ((-2147483648), 2147483647)) = true := by decide +kernel
def lt_ta2 : lTy := [some (.inr (false, [110])), some (.inl ((-2147483648), 2147483647)), some (.inl ((-2147483648), 2147483647)), none, none, none, none]
def en_ta2 : List aEn := [(22, [some (.inr (false, [110])), some (.inl ((-2147483648), 2147483647)), some (.inl ((-2147483648), 2147483647)), some (.inl ((-2147483648), 2147483647)), some (.inl ((-2147483648), 2147483647)), some (.inl (0, 0)), none], [])]
def tb_ta2 : aTb := fun mi i => if mi = 200 ∧ i = 22 then some ([((-2147483648), 2147483647, .inl 3), ((-2147483648), 2147483647, .inl 4), (0, 2147483647, .inl 5)], [], [6], [], 2, true) else none
set_option maxRecDepth 100000 in
set_option maxHeartbeats 40000000 in
theorem sg_ta2 : segchk prog HT [] [] tb_ta2 13 50 200 16 false lt_ta2 [] en_ta2 (some (1, 0)) = true := by decide +kernel
def lt_ta3 (c : Nat) : lTy := [some (.inr (false, [110])), some (.inl ((-2147483648), 2147483647)), some (.inl ((-2147483648), 2147483647)), some (.inl ((-2147483648), 2147483647)), some (.inl ((-2147483648), 2147483647)), some (.inl ((c : Int), (c : Int))), none]
def en_ta3 (c : Nat) : List aEn := [(48, [some (.inr (false, [110])), some (.inl ((-2147483648), 2147483647)), some (.inl ((-2147483648), 2147483647)), some (.inl ((-2147483648), 2147483647)), some (.inl ((-2147483648), 2147483647)), some (.inl ((c : Int), (c : Int))), some (.inl ((-2147483648), 2147483647))], [.inr (false, [110])])]
def tb_ta3 : aTb := fun mi i => none
set_option maxRecDepth 100000 in
set_option maxHeartbeats 40000000 in
theorem sa_ta3 : (List.range 16).all (fun c => segchk prog HT (WKs ++ WS) kc_r_look tb_ta3 33 50 200 22 true (lt_ta3 c) [] (en_ta3 c) (some (1, 0))) = true := by decide +kernel
theorem sg_ta3 (c : Nat) (hc : c < 16) : segchk prog HT (WKs ++ WS) kc_r_look tb_ta3 33 50 200 22 true (lt_ta3 c) [] (en_ta3 c) (some (1, 0)) = true := List.all_eq_true.mp sa_ta3 c (List.mem_range.mpr hc)
def lt_ta4 (c : Nat) : lTy := [some (.inr (false, [110])), some (.inl ((-2147483648), 2147483647)), some (.inl ((-2147483648), 2147483647)), some (.inl ((-2147483648), 2147483647)), some (.inl ((-2147483648), 2147483647)), some (.inl ((c : Int), (c : Int))), some (.inl ((-2147483648), 2147483647))]
def en_ta4 (c : Nat) : List aEn := [(22, [some (.inr (false, [110])), some (.inl ((-2147483648), 2147483647)), some (.inl ((-2147483648), 2147483647)), some (.inl ((-2147483648), 2147483647)), some (.inl ((-2147483648), 2147483647)), some (.inl ((c : Int) + 1, (c : Int) + 1)), none], [])]
def tb_ta4 : aTb := fun mi i => none
set_option maxRecDepth 100000 in
set_option maxHeartbeats 40000000 in
theorem sa_ta4 : (List.range 16).all (fun c => segchk prog HT [] [] tb_ta4 21 50 200 49 false (lt_ta4 c) [] (en_ta4 c) (some (1, 0))) = true := by decide +kernel
theorem sg_ta4 (c : Nat) (hc : c < 16) : segchk prog HT [] [] tb_ta4 21 50 200 49 false (lt_ta4 c) [] (en_ta4 c) (some (1, 0)) = true := List.all_eq_true.mp sa_ta4 c (List.mem_range.mpr hc)
def lt_ta5 : lTy := [some (.inr (false, [110])), some (.inl ((-2147483648), 2147483647)), some (.inl ((-2147483648), 2147483647)), some (.inl ((-2147483648), 2147483647)), some (.inl ((-2147483648), 2147483647)), some (.inl (16, 16)), none]
def en_ta5 : List aEn := []
def tb_ta5 : aTb := fun mi i => none
set_option maxRecDepth 100000 in
set_option maxHeartbeats 40000000 in
theorem sg_ta5 : segchk prog HT [] [] tb_ta5 14 50 200 22 true lt_ta5 [] en_ta5 (some ((-2147483648), 2147483647)) = true := by decide +kernel
def lt_ch1 : lTy := [some (.inr (false, [110])), some (.inl ((-2147483648), 2147483647)), none, none, none]
def en_ch1 : List aEn := [(24, [some (.inr (false, [110])), some (.inl (1, 30)), some (.inl (0, 60)), none, none], [.inr (false, [113]), .inr (false, [111]), .inr (false, [110])])]
def tb_ch1 : aTb := fun mi i => if mi = 240 ∧ i = 72 then some ([(0, 2147483647, .inl 4)], [], [], [(110, 110, 30, 30)], 0, true) else if mi = 240 ∧ i = 35 then some ([((-2147483648), 2147483647, .inl 3), (0, 2147483647, .inl 4)], [], [], [(110, 110, 30, 30)], 1, true) else none
set_option maxRecDepth 100000 in
set_option maxHeartbeats 40000000 in
theorem sg_ch1 : segchk prog HT [(110, 110, 30, 30)] [] tb_ch1 38 50 240 0 false lt_ch1 [] en_ch1 (some ((-2147483648), 2147483647)) = true := by decide +kernel
def lt_ch2 : lTy := [some (.inr (false, [110])), some (.inl (1, 30)), some (.inl (0, 60)), none, none]
def en_ch2 : List aEn := [(30, [some (.inr (false, [110])), some (.inl (1, 30)), some (.inl (0, 60)), none, none], [.inr (false, [111]), .inr (false, [112]), .inr (false, [110])])]
def tb_ch2 : aTb := fun mi i => if mi = 240 ∧ i = 72 then some ([(0, 2147483647, .inl 4)], [], [], [], 0, true) else if mi = 240 ∧ i = 35 then some ([((-2147483648), 2147483647, .inl 3), (0, 2147483647, .inl 4)], [], [], [], 1, true) else none
set_option maxRecDepth 100000 in
set_option maxHeartbeats 40000000 in
theorem sg_ch2 : segchk prog HT [] [] tb_ch2 12 50 240 25 false lt_ch2 [] en_ch2 (some (1, 0)) = true := by decide +kernel
def lt_ch3 : lTy := [some (.inr (false, [110])), some (.inl (1, 30)), some (.inl (0, 60)), none, none]
def en_ch3 : List aEn := [(69, [some (.inr (false, [110])), some (.inl ((-2147483648), 2147483647)), some (.inl (0, 60)), some (.inl (0, 60)), some (.inl ((-2147483648), 2147483647))], [.inr (false, [111]), .inr (false, [113]), .inr (false, [110])])]
def tb_ch3 : aTb := fun mi i => if mi = 240 ∧ i = 72 then some ([(0, 2147483647, .inl 4)], [], [], [(125, 125, 0, 127), (126, 126, 0, 99), (111, 111, 0, 0), (111, 111, 2, 74), (129, 129, 0, 59)], 0, true) else if mi = 240 ∧ i = 35 then some ([(0, 30, .inl 4)], [(3, 2, 0, 0)], [], [(125, 125, 0, 127), (126, 126, 0, 99), (111, 111, 0, 0), (111, 111, 2, 74), (129, 129, 0, 59)], 0, true) else none
set_option maxRecDepth 100000 in
set_option maxHeartbeats 40000000 in
theorem sg_ch3 : segchk prog HT (WKs ++ WS ++ [(129, 129, 0, 59)]) kc_r_look tb_ch3 41 50 240 31 false lt_ch3 [] en_ch3 (some (1, 0)) = true := by decide +kernel
def lt_ch4 : lTy := [some (.inr (false, [110])), some (.inl ((-2147483648), 2147483647)), some (.inl (0, 60)), some (.inl (0, 60)), some (.inl ((-2147483648), 2147483647))]
def en_ch4 : List aEn := []
def tb_ch4 : aTb := fun mi i => if mi = 240 ∧ i = 72 then some ([(0, 2147483647, .inl 4)], [], [], [], 0, true) else if mi = 240 ∧ i = 35 then some ([((-2147483648), 2147483647, .inl 3), (0, 2147483647, .inl 4)], [], [], [], 1, true) else none
set_option maxRecDepth 100000 in
set_option maxHeartbeats 40000000 in
theorem sg_ch4 : segchk prog HT [] [] tb_ch4 31 50 240 70 false lt_ch4 [] en_ch4 (some ((-2147483648), 2147483647)) = true := by decide +kernel
def lt_ke1 : lTy := [some (.inr (false, [110]))]
def en_ke1 : List aEn := [(8, [some (.inr (false, [110]))], [.inr (false, [112]), .inr (false, [111]), .inr (false, [110])])]
def tb_ke1 : aTb := fun mi i => none
set_option maxRecDepth 100000 in
set_option maxHeartbeats 40000000 in
theorem sg_ke1 : segchk prog HT [(110, 110, 3, 3)] [] tb_ke1 15 50 241 0 false lt_ke1 [] en_ke1 (some (1, 0)) = true := by decide +kernel
def lt_ke2 : lTy := [some (.inr (false, [110]))]
def en_ke2 : List aEn := []
def tb_ke2 : aTb := fun mi i => none
set_option maxRecDepth 100000 in
set_option maxHeartbeats 40000000 in
theorem sg_ke2 : segchk prog HT [] [] tb_ke2 11 50 241 9 false lt_ke2 [] en_ke2 (some ((-2147483648), 2147483647)) = true := by decide +kernel
def lt_ba1 : lTy := [some (.inr (false, [110]))]
def en_ba1 : List aEn := [(10, [some (.inr (false, [110]))], [.inr (false, [111]), .inr (false, [112]), .inr (false, [110])])]
def tb_ba1 : aTb := fun mi i => none
set_option maxRecDepth 100000 in
set_option maxHeartbeats 40000000 in
theorem sg_ba1 : segchk prog HT [] [] tb_ba1 15 50 242 0 false lt_ba1 [] en_ba1 (some ((-2147483648), 2147483647)) = true := by decide +kernel
def lt_ba2 : lTy := [some (.inr (false, [110]))]
def en_ba2 : List aEn := []
def tb_ba2 : aTb := fun mi i => none
set_option maxRecDepth 100000 in
set_option maxHeartbeats 40000000 in
theorem sg_ba2 : segchk prog HT [] [] tb_ba2 11 50 242 11 false lt_ba2 [] en_ba2 (some ((-2147483648), 2147483647)) = true := by decide +kernel
theorem ks_look {E : pX} {V : pV} {J : List pC → Prop} (hJ : JP J) (H : HandU E V J) : ∀ p ∈ kc_r_look, KGi E V J p.1 p.2 := by unfold kc_r_look; exact List.forall_mem_cons.mpr ⟨kg_m_saysAt hJ H, List.forall_mem_cons.mpr ⟨kg_m_loses hJ H, List.forall_mem_cons.mpr ⟨kg_m_worth hJ H, List.forall_mem_cons.mpr ⟨kg_m_covers hJ H, List.forall_mem_cons.mpr ⟨kg_m_counts hJ H, List.forall_mem_cons.mpr ⟨kg_m_gains H, List.forall_mem_cons.mpr ⟨kg_m_manyIn H, List.forall_mem_cons.mpr ⟨kg_m_falseOf hJ H, List.forall_mem_cons.mpr ⟨kg_m_joinBy hJ H, List.forall_mem_cons.mpr ⟨kg_m_doClash hJ H, List.forall_mem_cons.mpr ⟨kg_m_laidOnes hJ H, List.forall_mem_cons.mpr ⟨kg_m_coveredBy hJ H, List.forall_mem_cons.mpr ⟨kg_m_findClashing hJ H, List.forall_mem_cons.mpr ⟨kg_m_areAtPeace hJ H, List.forall_mem_cons.mpr ⟨kg_m_otherwiseAt hJ H, List.forall_mem_cons.mpr ⟨kg_m_allTrust hJ H, List.forall_mem_cons.mpr ⟨kg_m_goesOn hJ H, List.forall_mem_cons.mpr ⟨kg_m_goesOnMany hJ H, fun _ h => absurd h List.not_mem_nil⟩⟩⟩⟩⟩⟩⟩⟩⟩⟩⟩⟩⟩⟩⟩⟩⟩⟩
