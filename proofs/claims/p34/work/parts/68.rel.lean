/-! ===== what each pair of calls does, and what stays alike (printed by program) ===== -/
def RL : List pq := [((5, 82, 1), (0, 114, 0), (-1), 1), ((5, 84, 1), (0, 114, 1), (-1), 1), ((5, 86, 1), (0, 114, 2), (-1), 1), ((5, 88, 1), (0, 114, 3), (-1), 1), ((5, 82, 2), (0, 115, 0), 0, 24), ((5, 84, 2), (0, 115, 1), 0, 24), ((5, 86, 2), (0, 115, 2), 0, 24), ((5, 88, 2), (0, 115, 3), 0, 24)]
def RLt : List pq := [((5, 88, 1), (0, 114, 3), (-1), 1), ((5, 82, 2), (0, 115, 0), 0, 24), ((5, 84, 2), (0, 115, 1), 0, 24), ((5, 86, 2), (0, 115, 2), 0, 24), ((5, 88, 2), (0, 115, 3), 0, 24)]
def RLu : List pq := [((5, 84, 1), (0, 114, 1), (-1), 1), ((5, 86, 1), (0, 114, 2), (-1), 1), ((5, 88, 1), (0, 114, 3), (-1), 1), ((5, 82, 2), (0, 115, 0), 0, 24), ((5, 84, 2), (0, 115, 1), 0, 24), ((5, 86, 2), (0, 115, 2), 0, 24), ((5, 88, 2), (0, 115, 3), 0, 24)]
def CL : List cq := []
/-- what is kept beside -/
def XJ (_ : List pC) : Prop := True
def xjW (_ : aW) : Bool := true
theorem xj_fr {W : aW} {h h' : List pC} (hx : XJ h) (_ : Fr W h h') (_ : xjW W = true) : XJ h' := hx
theorem xj0 : XJ h0 := trivial
def RJ (h : List pC) : Prop := pRel RL h ∧ cRel CL h ∧ XJ h
theorem rj0 : RJ h0 := ⟨fun q hq => of_decide_eq_true (List.all_eq_true.mp (show RL.all (fun q => decide (ri h0 q.1.2.1 q.1.2.2 = ri h0 q.2.1.2.1 q.2.1.2.2)) = true by decide +kernel) q hq), fun c hc b1 b2 => of_decide_eq_true (List.all_eq_true.mp (show CL.all (fun c => decide (c.2.1 ≤ (ri h0 c.1.2.1 c.1.2.2).toInt → (ri h0 c.1.2.1 c.1.2.2).toInt ≤ c.2.2.1 → ri h0 c.2.2.2.1.2.1 c.2.2.2.1.2.2 = ri h0 c.2.2.2.2.1.2.1 c.2.2.2.2.1.2.2)) = true by decide +kernel) c hc) b1 b2, xj0⟩
theorem i32_b (v : Int32) : -2147483648 ≤ v.toInt ∧ v.toInt ≤ 2147483647 := ⟨i32_lo v, i32_hi v⟩
theorem args_top : ∀ (xs : List Int32), argsG (xs.map Value.int) (List.replicate xs.length (.inl (-2147483648, 2147483647)))
  | [] => trivial
  | x :: xs => ⟨⟨x, rfl, i32_lo x, i32_hi x⟩, args_top xs⟩
/-- what a public method does, from its contract -/
theorem pub_of {E : pX} {i a : Nat} {c : aK} (hk : KGi E pV1 JT i c) {N : pM} (hN : prog[i]? = some N) (hc : m_code N ≠ []) (xs : List Int32) (h1 : c.1 = .inr (false, [a]) :: List.replicate xs.length (.inl (-2147483648, 2147483647))) (h2 : c.2.1 ≠ none) (h3 : c.2.2.2 ≤ 120) {h : List pC} (hh : HI HT h) (hj : JT h) : ∃ (r : Int32) (h' : List pC), Run prog E pV1 120 N (.ref a :: xs.map Value.int) h (some (.int r), h', 0, 0) ∧ HI HT h' ∧ Fr c.2.2.1 h h' ∧ JT h' := by
  obtain ⟨r, h', q, hr, hh', hf, hj'⟩ := hk N hN 120 h3 (.ref a :: xs.map Value.int) h (by rw [h1]; exact ⟨Or.inr ⟨a, List.mem_singleton.mpr rfl, rfl⟩, args_top xs⟩) hh hj
  obtain ⟨z, hz⟩ : ∃ z, c.2.1 = some z := by
    cases e : c.2.1 with
    | none => exact absurd e h2
    | some z => exact ⟨z, rfl⟩
  rw [hz] at hr
  obtain ⟨v, rfl, -⟩ := (show ∃ v : Int32, r = some (.int v) ∧ z.1 ≤ v.toInt ∧ v.toInt ≤ z.2 from hr)
  rcases q with q | q
  · exact ⟨v, h', q, hh', hf, hj'⟩
  · exact absurd q.1 hc
theorem cobj {h : List pC} (hh : HI HT h) : ∃ o, pobj h 0 = some o ∧ o.1 = 7 := by
  obtain ⟨fs, ho, -⟩ := hi_obj hh (a := 0) rfl
  exact ⟨_, ho, rfl⟩
def k_c_copyF : aK := ([.inr (false, [0]), .inl ((-2147483648), 2147483647), .inl ((-2147483648), 2147483647), .inl ((-2147483648), 2147483647), .inl ((-2147483648), 2147483647), .inl ((-2147483648), 2147483647)], some ((-2147483648), 2147483647), [(83, 83, 0, 23), (85, 85, 0, 23), (87, 87, 0, 23), (89, 89, 0, 23)], 50)
def tb_c_copyF : aTb := fun mi i => none
def kc_c_copyF : List (Nat × aK) := [(48, k_covers), (50, k_sayAt), (44, k_value), (54, k_gainOver), (55, k_loss), (56, k_worth), (49, k_covered), (57, k_joined), (58, k_clashes), (70, k_falsehood34), (71, k_trustOfAll34), (72, k_laidSet34), (73, k_coveredBy34), (77, k_deniers34), (80, k_gainOf34), (78, k_flow34), (75, k_noteClashes), (76, k_anyClash)]
set_option maxRecDepth 100000 in
set_option maxHeartbeats 40000000 in
theorem ck_c_copyF : kchk prog HT kc_c_copyF tb_c_copyF 130 121 k_c_copyF = true := by decide +kernel
theorem kg_c_copyF {E : pX} : KGi E pV1 JT 121 k_c_copyF := kgi_of JT_P (by decide) ck_c_copyF (by unfold kc_c_copyF; exact (List.forall_mem_cons.mpr ⟨kg_covers JT_P hands, (List.forall_mem_cons.mpr ⟨kg_sayAt JT_P hands, (List.forall_mem_cons.mpr ⟨kg_value JT_P hands, (List.forall_mem_cons.mpr ⟨kg_gainOver JT_P hands, (List.forall_mem_cons.mpr ⟨kg_loss JT_P hands, (List.forall_mem_cons.mpr ⟨kg_worth JT_P hands, (List.forall_mem_cons.mpr ⟨kg_covered JT_P hands, (List.forall_mem_cons.mpr ⟨kg_joined JT_P hands, (List.forall_mem_cons.mpr ⟨kg_clashes JT_P hands, (List.forall_mem_cons.mpr ⟨kg_falsehood34 JT_P hands, (List.forall_mem_cons.mpr ⟨kg_trustOfAll34 JT_P hands, (List.forall_mem_cons.mpr ⟨kg_laidSet34 JT_P hands, (List.forall_mem_cons.mpr ⟨kg_coveredBy34 JT_P hands, (List.forall_mem_cons.mpr ⟨kg_deniers34 JT_P hands, (List.forall_mem_cons.mpr ⟨kg_gainOf34 JT_P hands, (List.forall_mem_cons.mpr ⟨kg_flow34 JT_P hands, (List.forall_mem_cons.mpr ⟨kg_noteClashes JT_P hands, (List.forall_mem_cons.mpr ⟨kg_anyClash JT_P hands, (fun _ h => absurd h List.not_mem_nil)⟩)⟩)⟩)⟩)⟩)⟩)⟩)⟩)⟩)⟩)⟩)⟩)⟩)⟩)⟩)⟩)⟩)⟩))
def tp_sheet0_0 : aTb := fun mi i => if mi = 227 ∧ i = 38 then some ([(0, 2147483647, .inl 4)], [], [], [(116, 116, 0, 95)], 0, true) else none
def rp_sheet0_0 : List pq := [((5, 82, 1), (0, 114, 0), (-1), 1), ((5, 82, 2), (0, 115, 0), 0, 24)]
set_option maxRecDepth 100000 in
set_option maxHeartbeats 40000000 in
theorem cp_sheet0_0 : prchk RL CL rp_sheet0_0 [(82, 82, 1, 2), (83, 83, 0, 23), (114, 114, 0, 0), (115, 115, 0, 0), (116, 116, 0, 23)] [] tp_sheet0_0 82 117 227 3 [(0, 0), ((-2147483648), (-2)), ((-2147483648), 2147483647)] [] = true := by decide +kernel
def tp_sheet0_1 : aTb := fun mi i => if mi = 227 ∧ i = 38 then some ([(0, 2147483647, .inl 4)], [], [], [(116, 116, 0, 95)], 0, true) else none
def rp_sheet0_1 : List pq := [((5, 82, 1), (0, 114, 0), (-1), 1), ((5, 82, 2), (0, 115, 0), 0, 24)]
set_option maxRecDepth 100000 in
set_option maxHeartbeats 40000000 in
theorem cp_sheet0_1 : prchk RL CL rp_sheet0_1 [(82, 82, 1, 2), (83, 83, 0, 23), (114, 114, 0, 0), (115, 115, 0, 0), (116, 116, 0, 23)] [] tp_sheet0_1 366 117 227 3 [(0, 0), ((-1), (-1)), ((-2147483648), 2147483647)] [] = true := by decide +kernel
def tp_sheet0_2 : aTb := fun mi i => if mi = 227 ∧ i = 38 then some ([(0, 2147483647, .inl 4)], [], [], [(116, 116, 0, 95)], 0, true) else none
def rp_sheet0_2 : List pq := [((5, 82, 1), (0, 114, 0), (-1), 1), ((5, 82, 2), (0, 115, 0), 0, 24)]
set_option maxRecDepth 100000 in
set_option maxHeartbeats 40000000 in
theorem cp_sheet0_2 : prchk RL CL rp_sheet0_2 [(82, 82, 1, 2), (83, 83, 0, 23), (114, 114, 0, 0), (115, 115, 0, 0), (116, 116, 0, 23)] [] tp_sheet0_2 375 117 227 3 [(0, 0), (0, 0), ((-2147483648), 2147483647)] [] = true := by decide +kernel
def tp_sheet0_3 : aTb := fun mi i => if mi = 227 ∧ i = 38 then some ([(0, 2147483647, .inl 4)], [], [], [(116, 116, 0, 95)], 0, true) else none
def rp_sheet0_3 : List pq := [((5, 82, 1), (0, 114, 0), (-1), 1), ((5, 82, 2), (0, 115, 0), 0, 24)]
set_option maxRecDepth 100000 in
set_option maxHeartbeats 40000000 in
theorem cp_sheet0_3 : prchk RL CL rp_sheet0_3 [(82, 82, 1, 2), (83, 83, 0, 23), (114, 114, 0, 0), (115, 115, 0, 0), (116, 116, 0, 23)] [] tp_sheet0_3 375 117 227 3 [(0, 0), (1, 1), ((-2147483648), 2147483647)] [] = true := by decide +kernel
def tp_sheet0_4 : aTb := fun mi i => if mi = 227 ∧ i = 38 then some ([(0, 2147483647, .inl 4)], [], [], [(116, 116, 0, 95)], 0, true) else none
def rp_sheet0_4 : List pq := [((5, 82, 1), (0, 114, 0), (-1), 1), ((5, 82, 2), (0, 115, 0), 0, 24)]
set_option maxRecDepth 100000 in
set_option maxHeartbeats 40000000 in
theorem cp_sheet0_4 : prchk RL CL rp_sheet0_4 [(82, 82, 1, 2), (83, 83, 0, 23), (114, 114, 0, 0), (115, 115, 0, 0), (116, 116, 0, 23)] [] tp_sheet0_4 89 117 227 3 [(0, 0), (2, 2147483647), ((-2147483648), 2147483647)] [] = true := by decide +kernel
def tp_sheet1_0 : aTb := fun mi i => if mi = 227 ∧ i = 38 then some ([(0, 2147483647, .inl 4)], [], [], [(116, 116, 0, 95)], 0, true) else none
def rp_sheet1_0 : List pq := [((5, 84, 1), (0, 114, 1), (-1), 1), ((5, 84, 2), (0, 115, 1), 0, 24)]
set_option maxRecDepth 100000 in
set_option maxHeartbeats 40000000 in
theorem cp_sheet1_0 : prchk RL CL rp_sheet1_0 [(84, 84, 1, 2), (85, 85, 0, 23), (114, 114, 1, 1), (115, 115, 1, 1), (116, 116, 24, 47)] [] tp_sheet1_0 82 117 227 3 [(1, 1), ((-2147483648), (-2)), ((-2147483648), 2147483647)] [] = true := by decide +kernel
def tp_sheet1_1 : aTb := fun mi i => if mi = 227 ∧ i = 38 then some ([(0, 2147483647, .inl 4)], [], [], [(116, 116, 0, 95)], 0, true) else none
def rp_sheet1_1 : List pq := [((5, 84, 1), (0, 114, 1), (-1), 1), ((5, 84, 2), (0, 115, 1), 0, 24)]
set_option maxRecDepth 100000 in
set_option maxHeartbeats 40000000 in
theorem cp_sheet1_1 : prchk RL CL rp_sheet1_1 [(84, 84, 1, 2), (85, 85, 0, 23), (114, 114, 1, 1), (115, 115, 1, 1), (116, 116, 24, 47)] [] tp_sheet1_1 366 117 227 3 [(1, 1), ((-1), (-1)), ((-2147483648), 2147483647)] [] = true := by decide +kernel
def tp_sheet1_2 : aTb := fun mi i => if mi = 227 ∧ i = 38 then some ([(0, 2147483647, .inl 4)], [], [], [(116, 116, 0, 95)], 0, true) else none
def rp_sheet1_2 : List pq := [((5, 84, 1), (0, 114, 1), (-1), 1), ((5, 84, 2), (0, 115, 1), 0, 24)]
set_option maxRecDepth 100000 in
set_option maxHeartbeats 40000000 in
theorem cp_sheet1_2 : prchk RL CL rp_sheet1_2 [(84, 84, 1, 2), (85, 85, 0, 23), (114, 114, 1, 1), (115, 115, 1, 1), (116, 116, 24, 47)] [] tp_sheet1_2 375 117 227 3 [(1, 1), (0, 0), ((-2147483648), 2147483647)] [] = true := by decide +kernel
def tp_sheet1_3 : aTb := fun mi i => if mi = 227 ∧ i = 38 then some ([(0, 2147483647, .inl 4)], [], [], [(116, 116, 0, 95)], 0, true) else none
def rp_sheet1_3 : List pq := [((5, 84, 1), (0, 114, 1), (-1), 1), ((5, 84, 2), (0, 115, 1), 0, 24)]
set_option maxRecDepth 100000 in
set_option maxHeartbeats 40000000 in
theorem cp_sheet1_3 : prchk RL CL rp_sheet1_3 [(84, 84, 1, 2), (85, 85, 0, 23), (114, 114, 1, 1), (115, 115, 1, 1), (116, 116, 24, 47)] [] tp_sheet1_3 375 117 227 3 [(1, 1), (1, 1), ((-2147483648), 2147483647)] [] = true := by decide +kernel
def tp_sheet1_4 : aTb := fun mi i => if mi = 227 ∧ i = 38 then some ([(0, 2147483647, .inl 4)], [], [], [(116, 116, 0, 95)], 0, true) else none
def rp_sheet1_4 : List pq := [((5, 84, 1), (0, 114, 1), (-1), 1), ((5, 84, 2), (0, 115, 1), 0, 24)]
set_option maxRecDepth 100000 in
set_option maxHeartbeats 40000000 in
theorem cp_sheet1_4 : prchk RL CL rp_sheet1_4 [(84, 84, 1, 2), (85, 85, 0, 23), (114, 114, 1, 1), (115, 115, 1, 1), (116, 116, 24, 47)] [] tp_sheet1_4 89 117 227 3 [(1, 1), (2, 2147483647), ((-2147483648), 2147483647)] [] = true := by decide +kernel
def tp_sheet2_0 : aTb := fun mi i => if mi = 227 ∧ i = 38 then some ([(0, 2147483647, .inl 4)], [], [], [(116, 116, 0, 95)], 0, true) else none
def rp_sheet2_0 : List pq := [((5, 86, 1), (0, 114, 2), (-1), 1), ((5, 86, 2), (0, 115, 2), 0, 24)]
set_option maxRecDepth 100000 in
set_option maxHeartbeats 40000000 in
theorem cp_sheet2_0 : prchk RL CL rp_sheet2_0 [(86, 86, 1, 2), (87, 87, 0, 23), (114, 114, 2, 2), (115, 115, 2, 2), (116, 116, 48, 71)] [] tp_sheet2_0 82 117 227 3 [(2, 2), ((-2147483648), (-2)), ((-2147483648), 2147483647)] [] = true := by decide +kernel
def tp_sheet2_1 : aTb := fun mi i => if mi = 227 ∧ i = 38 then some ([(0, 2147483647, .inl 4)], [], [], [(116, 116, 0, 95)], 0, true) else none
def rp_sheet2_1 : List pq := [((5, 86, 1), (0, 114, 2), (-1), 1), ((5, 86, 2), (0, 115, 2), 0, 24)]
set_option maxRecDepth 100000 in
set_option maxHeartbeats 40000000 in
theorem cp_sheet2_1 : prchk RL CL rp_sheet2_1 [(86, 86, 1, 2), (87, 87, 0, 23), (114, 114, 2, 2), (115, 115, 2, 2), (116, 116, 48, 71)] [] tp_sheet2_1 366 117 227 3 [(2, 2), ((-1), (-1)), ((-2147483648), 2147483647)] [] = true := by decide +kernel
def tp_sheet2_2 : aTb := fun mi i => if mi = 227 ∧ i = 38 then some ([(0, 2147483647, .inl 4)], [], [], [(116, 116, 0, 95)], 0, true) else none
def rp_sheet2_2 : List pq := [((5, 86, 1), (0, 114, 2), (-1), 1), ((5, 86, 2), (0, 115, 2), 0, 24)]
set_option maxRecDepth 100000 in
set_option maxHeartbeats 40000000 in
theorem cp_sheet2_2 : prchk RL CL rp_sheet2_2 [(86, 86, 1, 2), (87, 87, 0, 23), (114, 114, 2, 2), (115, 115, 2, 2), (116, 116, 48, 71)] [] tp_sheet2_2 375 117 227 3 [(2, 2), (0, 0), ((-2147483648), 2147483647)] [] = true := by decide +kernel
def tp_sheet2_3 : aTb := fun mi i => if mi = 227 ∧ i = 38 then some ([(0, 2147483647, .inl 4)], [], [], [(116, 116, 0, 95)], 0, true) else none
def rp_sheet2_3 : List pq := [((5, 86, 1), (0, 114, 2), (-1), 1), ((5, 86, 2), (0, 115, 2), 0, 24)]
set_option maxRecDepth 100000 in
set_option maxHeartbeats 40000000 in
theorem cp_sheet2_3 : prchk RL CL rp_sheet2_3 [(86, 86, 1, 2), (87, 87, 0, 23), (114, 114, 2, 2), (115, 115, 2, 2), (116, 116, 48, 71)] [] tp_sheet2_3 375 117 227 3 [(2, 2), (1, 1), ((-2147483648), 2147483647)] [] = true := by decide +kernel
def tp_sheet2_4 : aTb := fun mi i => if mi = 227 ∧ i = 38 then some ([(0, 2147483647, .inl 4)], [], [], [(116, 116, 0, 95)], 0, true) else none
def rp_sheet2_4 : List pq := [((5, 86, 1), (0, 114, 2), (-1), 1), ((5, 86, 2), (0, 115, 2), 0, 24)]
set_option maxRecDepth 100000 in
set_option maxHeartbeats 40000000 in
theorem cp_sheet2_4 : prchk RL CL rp_sheet2_4 [(86, 86, 1, 2), (87, 87, 0, 23), (114, 114, 2, 2), (115, 115, 2, 2), (116, 116, 48, 71)] [] tp_sheet2_4 89 117 227 3 [(2, 2), (2, 2147483647), ((-2147483648), 2147483647)] [] = true := by decide +kernel
def tp_sheet3_0 : aTb := fun mi i => if mi = 227 ∧ i = 38 then some ([(0, 2147483647, .inl 4)], [], [], [(116, 116, 0, 95)], 0, true) else none
def rp_sheet3_0 : List pq := [((5, 88, 1), (0, 114, 3), (-1), 1), ((5, 88, 2), (0, 115, 3), 0, 24)]
set_option maxRecDepth 100000 in
set_option maxHeartbeats 40000000 in
theorem cp_sheet3_0 : prchk RL CL rp_sheet3_0 [(88, 88, 1, 2), (89, 89, 0, 23), (114, 114, 3, 3), (115, 115, 3, 3), (116, 116, 72, 95)] [] tp_sheet3_0 82 117 227 3 [(3, 3), ((-2147483648), (-2)), ((-2147483648), 2147483647)] [] = true := by decide +kernel
def tp_sheet3_1 : aTb := fun mi i => if mi = 227 ∧ i = 38 then some ([(0, 2147483647, .inl 4)], [], [], [(116, 116, 0, 95)], 0, true) else none
def rp_sheet3_1 : List pq := [((5, 88, 1), (0, 114, 3), (-1), 1), ((5, 88, 2), (0, 115, 3), 0, 24)]
set_option maxRecDepth 100000 in
set_option maxHeartbeats 40000000 in
theorem cp_sheet3_1 : prchk RL CL rp_sheet3_1 [(88, 88, 1, 2), (89, 89, 0, 23), (114, 114, 3, 3), (115, 115, 3, 3), (116, 116, 72, 95)] [] tp_sheet3_1 366 117 227 3 [(3, 3), ((-1), (-1)), ((-2147483648), 2147483647)] [] = true := by decide +kernel
def tp_sheet3_2 : aTb := fun mi i => if mi = 227 ∧ i = 38 then some ([(0, 2147483647, .inl 4)], [], [], [(116, 116, 0, 95)], 0, true) else none
def rp_sheet3_2 : List pq := [((5, 88, 1), (0, 114, 3), (-1), 1), ((5, 88, 2), (0, 115, 3), 0, 24)]
set_option maxRecDepth 100000 in
set_option maxHeartbeats 40000000 in
theorem cp_sheet3_2 : prchk RL CL rp_sheet3_2 [(88, 88, 1, 2), (89, 89, 0, 23), (114, 114, 3, 3), (115, 115, 3, 3), (116, 116, 72, 95)] [] tp_sheet3_2 375 117 227 3 [(3, 3), (0, 0), ((-2147483648), 2147483647)] [] = true := by decide +kernel
def tp_sheet3_3 : aTb := fun mi i => if mi = 227 ∧ i = 38 then some ([(0, 2147483647, .inl 4)], [], [], [(116, 116, 0, 95)], 0, true) else none
def rp_sheet3_3 : List pq := [((5, 88, 1), (0, 114, 3), (-1), 1), ((5, 88, 2), (0, 115, 3), 0, 24)]
set_option maxRecDepth 100000 in
set_option maxHeartbeats 40000000 in
theorem cp_sheet3_3 : prchk RL CL rp_sheet3_3 [(88, 88, 1, 2), (89, 89, 0, 23), (114, 114, 3, 3), (115, 115, 3, 3), (116, 116, 72, 95)] [] tp_sheet3_3 375 117 227 3 [(3, 3), (1, 1), ((-2147483648), 2147483647)] [] = true := by decide +kernel
def tp_sheet3_4 : aTb := fun mi i => if mi = 227 ∧ i = 38 then some ([(0, 2147483647, .inl 4)], [], [], [(116, 116, 0, 95)], 0, true) else none
def rp_sheet3_4 : List pq := [((5, 88, 1), (0, 114, 3), (-1), 1), ((5, 88, 2), (0, 115, 3), 0, 24)]
set_option maxRecDepth 100000 in
set_option maxHeartbeats 40000000 in
theorem cp_sheet3_4 : prchk RL CL rp_sheet3_4 [(88, 88, 1, 2), (89, 89, 0, 23), (114, 114, 3, 3), (115, 115, 3, 3), (116, 116, 72, 95)] [] tp_sheet3_4 89 117 227 3 [(3, 3), (2, 2147483647), ((-2147483648), 2147483647)] [] = true := by decide +kernel
def tp_sheetl : aTb := fun mi i => none
def rp_sheetl : List pq := []
set_option maxRecDepth 100000 in
set_option maxHeartbeats 40000000 in
theorem cp_sheetl : prchk RL CL rp_sheetl [] [] tp_sheetl 46 117 227 3 [((-2147483648), (-1)), ((-2147483648), 2147483647), ((-2147483648), 2147483647)] [] = true := by decide +kernel
def tp_sheeth : aTb := fun mi i => none
def rp_sheeth : List pq := []
set_option maxRecDepth 100000 in
set_option maxHeartbeats 40000000 in
theorem cp_sheeth : prchk RL CL rp_sheeth [] [] tp_sheeth 55 117 227 3 [(4, 2147483647), ((-2147483648), 2147483647), ((-2147483648), 2147483647)] [] = true := by decide +kernel
def tp_mark0 : aTb := fun mi i => none
def rp_mark0 : List pq := [((5, 82, 1), (0, 114, 0), (-1), 1), ((5, 82, 2), (0, 115, 0), 0, 24)]
set_option maxRecDepth 100000 in
set_option maxHeartbeats 40000000 in
theorem cp_mark0 : prchk RL CL rp_mark0 [(83, 83, 0, 23), (116, 116, 0, 23)] [] tp_mark0 203 118 228 3 [(0, 0), ((-2147483648), 2147483647), ((-2147483648), 2147483647)] [] = true := by decide +kernel
def tp_mark1 : aTb := fun mi i => none
def rp_mark1 : List pq := [((5, 84, 1), (0, 114, 1), (-1), 1), ((5, 84, 2), (0, 115, 1), 0, 24)]
set_option maxRecDepth 100000 in
set_option maxHeartbeats 40000000 in
theorem cp_mark1 : prchk RL CL rp_mark1 [(85, 85, 0, 23), (116, 116, 24, 47)] [] tp_mark1 203 118 228 3 [(1, 1), ((-2147483648), 2147483647), ((-2147483648), 2147483647)] [] = true := by decide +kernel
def tp_mark2 : aTb := fun mi i => none
def rp_mark2 : List pq := [((5, 86, 1), (0, 114, 2), (-1), 1), ((5, 86, 2), (0, 115, 2), 0, 24)]
set_option maxRecDepth 100000 in
set_option maxHeartbeats 40000000 in
theorem cp_mark2 : prchk RL CL rp_mark2 [(87, 87, 0, 23), (116, 116, 48, 71)] [] tp_mark2 203 118 228 3 [(2, 2), ((-2147483648), 2147483647), ((-2147483648), 2147483647)] [] = true := by decide +kernel
def tp_mark3 : aTb := fun mi i => none
def rp_mark3 : List pq := [((5, 88, 1), (0, 114, 3), (-1), 1), ((5, 88, 2), (0, 115, 3), 0, 24)]
set_option maxRecDepth 100000 in
set_option maxHeartbeats 40000000 in
theorem cp_mark3 : prchk RL CL rp_mark3 [(89, 89, 0, 23), (116, 116, 72, 95)] [] tp_mark3 203 118 228 3 [(3, 3), ((-2147483648), 2147483647), ((-2147483648), 2147483647)] [] = true := by decide +kernel
def tp_markl : aTb := fun mi i => none
def rp_markl : List pq := []
set_option maxRecDepth 100000 in
set_option maxHeartbeats 40000000 in
theorem cp_markl : prchk RL CL rp_markl [] [] tp_markl 46 118 228 3 [((-2147483648), (-1)), ((-2147483648), 2147483647), ((-2147483648), 2147483647)] [] = true := by decide +kernel
def tp_markh : aTb := fun mi i => none
def rp_markh : List pq := []
set_option maxRecDepth 100000 in
set_option maxHeartbeats 40000000 in
theorem cp_markh : prchk RL CL rp_markh [] [] tp_markh 55 118 228 3 [(4, 2147483647), ((-2147483648), 2147483647), ((-2147483648), 2147483647)] [] = true := by decide +kernel
section LWS
variable {E : pX} {h : List pC}
theorem rub_ty {a : Nat} (hh : HI HT h) (he : elT HT 6 a 2 2 = some (.inl (1, 8))) : 1 ≤ (ri h a 2).toInt ∧ (ri h a 2).toInt ≤ 8 := (ri_ty hh he).2
theorem ty_82_1 (hh : HI HT h) (hR : RJ h) : (-1) ≤ (ri h 82 1).toInt ∧ (ri h 82 1).toInt ≤ 1 := by
  have e : ri h 82 1 = ri h 114 0 := (hR.1 _ List.mem_cons_self)
  have c := (ri_ty (k := 5) (a := 82) (i := 1) (p := ((-2147483648), 2147483647)) hh rfl).2
  have r := (ri_ty (k := 0) (a := 114) (i := 0) (p := ((-1), 1)) hh rfl).2
  rw [← e] at r
  dsimp only at c r
  omega
theorem ty_84_1 (hh : HI HT h) (hR : RJ h) : (-1) ≤ (ri h 84 1).toInt ∧ (ri h 84 1).toInt ≤ 1 := by
  have e : ri h 84 1 = ri h 114 1 := (hR.1 _ (List.mem_cons_of_mem _ List.mem_cons_self))
  have c := (ri_ty (k := 5) (a := 84) (i := 1) (p := ((-2147483648), 2147483647)) hh rfl).2
  have r := (ri_ty (k := 0) (a := 114) (i := 1) (p := ((-1), 1)) hh rfl).2
  rw [← e] at r
  dsimp only at c r
  omega
theorem ty_86_1 (hh : HI HT h) (hR : RJ h) : (-1) ≤ (ri h 86 1).toInt ∧ (ri h 86 1).toInt ≤ 1 := by
  have e : ri h 86 1 = ri h 114 2 := (hR.1 _ (List.mem_cons_of_mem _ (List.mem_cons_of_mem _ List.mem_cons_self)))
  have c := (ri_ty (k := 5) (a := 86) (i := 1) (p := ((-2147483648), 2147483647)) hh rfl).2
  have r := (ri_ty (k := 0) (a := 114) (i := 2) (p := ((-1), 1)) hh rfl).2
  rw [← e] at r
  dsimp only at c r
  omega
theorem ty_88_1 (hh : HI HT h) (hR : RJ h) : (-1) ≤ (ri h 88 1).toInt ∧ (ri h 88 1).toInt ≤ 1 := by
  have e : ri h 88 1 = ri h 114 3 := (hR.1 _ (List.mem_cons_of_mem _ (List.mem_cons_of_mem _ (List.mem_cons_of_mem _ List.mem_cons_self))))
  have c := (ri_ty (k := 5) (a := 88) (i := 1) (p := ((-2147483648), 2147483647)) hh rfl).2
  have r := (ri_ty (k := 0) (a := 114) (i := 3) (p := ((-1), 1)) hh rfl).2
  rw [← e] at r
  dsimp only at c r
  omega
theorem ty_82_2 (hh : HI HT h) (hR : RJ h) : 0 ≤ (ri h 82 2).toInt ∧ (ri h 82 2).toInt ≤ 24 := by
  have e : ri h 82 2 = ri h 115 0 := (hR.1 _ (List.mem_cons_of_mem _ (List.mem_cons_of_mem _ (List.mem_cons_of_mem _ (List.mem_cons_of_mem _ List.mem_cons_self)))))
  have c := (ri_ty (k := 5) (a := 82) (i := 2) (p := ((-2147483648), 2147483647)) hh rfl).2
  have r := (ri_ty (k := 0) (a := 115) (i := 0) (p := (0, 24)) hh rfl).2
  rw [← e] at r
  dsimp only at c r
  omega
theorem ty_84_2 (hh : HI HT h) (hR : RJ h) : 0 ≤ (ri h 84 2).toInt ∧ (ri h 84 2).toInt ≤ 24 := by
  have e : ri h 84 2 = ri h 115 1 := (hR.1 _ (List.mem_cons_of_mem _ (List.mem_cons_of_mem _ (List.mem_cons_of_mem _ (List.mem_cons_of_mem _ (List.mem_cons_of_mem _ List.mem_cons_self))))))
  have c := (ri_ty (k := 5) (a := 84) (i := 2) (p := ((-2147483648), 2147483647)) hh rfl).2
  have r := (ri_ty (k := 0) (a := 115) (i := 1) (p := (0, 24)) hh rfl).2
  rw [← e] at r
  dsimp only at c r
  omega
theorem ty_86_2 (hh : HI HT h) (hR : RJ h) : 0 ≤ (ri h 86 2).toInt ∧ (ri h 86 2).toInt ≤ 24 := by
  have e : ri h 86 2 = ri h 115 2 := (hR.1 _ (List.mem_cons_of_mem _ (List.mem_cons_of_mem _ (List.mem_cons_of_mem _ (List.mem_cons_of_mem _ (List.mem_cons_of_mem _ (List.mem_cons_of_mem _ List.mem_cons_self)))))))
  have c := (ri_ty (k := 5) (a := 86) (i := 2) (p := ((-2147483648), 2147483647)) hh rfl).2
  have r := (ri_ty (k := 0) (a := 115) (i := 2) (p := (0, 24)) hh rfl).2
  rw [← e] at r
  dsimp only at c r
  omega
theorem ty_88_2 (hh : HI HT h) (hR : RJ h) : 0 ≤ (ri h 88 2).toInt ∧ (ri h 88 2).toInt ≤ 24 := by
  have e : ri h 88 2 = ri h 115 3 := (hR.1 _ (List.mem_cons_of_mem _ (List.mem_cons_of_mem _ (List.mem_cons_of_mem _ (List.mem_cons_of_mem _ (List.mem_cons_of_mem _ (List.mem_cons_of_mem _ (List.mem_cons_of_mem _ List.mem_cons_self))))))))
  have c := (ri_ty (k := 5) (a := 88) (i := 2) (p := ((-2147483648), 2147483647)) hh rfl).2
  have r := (ri_ty (k := 0) (a := 115) (i := 3) (p := (0, 24)) hh rfl).2
  rw [← e] at r
  dsimp only at c r
  omega
theorem lw_rubbing (x1 x2 x3 : Int32) (hh : HI HT h) (hj : JT h) (hR : RJ h) : ∃ (r1 r2 : Int32) (h1 h2 : List pC), Run prog E pV1 120 mX7_rubbing [.ref 0, .int x1, .int x2, .int x3] h (some (.int r1), h1, 0, 0) ∧ Run prog E pV1 120 mX8_rubbing [.ref 110, .int x1, .int x2, .int x3] h1 (some (.int r2), h2, 0, 0) ∧ (∃ o, pobj h1 110 = some o ∧ o.1 = 8) ∧ HI HT h2 ∧ JT h2 ∧ RJ h2 := by
  obtain ⟨r1, h1, q1, hh1, f1, hj1⟩ := pub_of (E := E) (a := 0) (kg_c_rubbing JT_P hands) (N := mX7_rubbing) rfl (List.cons_ne_nil _ _) [x1, x2, x3] rfl (fun q => by cases q) (Nat.le_of_ble_eq_true rfl) hh hj
  obtain ⟨r2, h2, q2, hh2, f2, hj2⟩ := pub_of (E := E) (a := 110) (kg_r_rubbing JT_P hands) (N := mX8_rubbing) rfl (List.cons_ne_nil _ _) [x1, x2, x3] rfl (fun q => by cases q) (Nat.le_of_ble_eq_true rfl) hh1 hj1
  exact ⟨r1, r2, h1, h2, q1, q2, mobj hh1, hh2, hj2, ⟨pRel_fr (pRel_fr hR.1 f1 (by decide +kernel)) f2 (by decide +kernel), cRel_fr (cRel_fr hR.2.1 f1 (by decide +kernel)) f2 (by decide +kernel), xj_fr (xj_fr hR.2.2 f1 (by decide +kernel)) f2 (by decide +kernel)⟩⟩
theorem lw_told (x1 x2 : Int32) (hh : HI HT h) (hj : JT h) (hR : RJ h) : ∃ (r1 r2 : Int32) (h1 h2 : List pC), Run prog E pV1 120 mX7_told [.ref 0, .int x1, .int x2] h (some (.int r1), h1, 0, 0) ∧ Run prog E pV1 120 mX8_told [.ref 110, .int x1, .int x2] h1 (some (.int r2), h2, 0, 0) ∧ (∃ o, pobj h1 110 = some o ∧ o.1 = 8) ∧ HI HT h2 ∧ JT h2 ∧ RJ h2 := by
  obtain ⟨r1, h1, q1, hh1, f1, hj1⟩ := pub_of (E := E) (a := 0) (kg_c_told JT_P hands) (N := mX7_told) rfl (List.cons_ne_nil _ _) [x1, x2] rfl (fun q => by cases q) (Nat.le_of_ble_eq_true rfl) hh hj
  obtain ⟨r2, h2, q2, hh2, f2, hj2⟩ := pub_of (E := E) (a := 110) (kg_r_told JT_P hands) (N := mX8_told) rfl (List.cons_ne_nil _ _) [x1, x2] rfl (fun q => by cases q) (Nat.le_of_ble_eq_true rfl) hh1 hj1
  exact ⟨r1, r2, h1, h2, q1, q2, mobj hh1, hh2, hj2, ⟨pRel_fr (pRel_fr hR.1 f1 (by decide +kernel)) f2 (by decide +kernel), cRel_fr (cRel_fr hR.2.1 f1 (by decide +kernel)) f2 (by decide +kernel), xj_fr (xj_fr hR.2.2 f1 (by decide +kernel)) f2 (by decide +kernel)⟩⟩
theorem lw_says (x1 x2 : Int32) (hh : HI HT h) (hj : JT h) (hR : RJ h) : ∃ (r1 r2 : Int32) (h1 h2 : List pC), Run prog E pV1 120 mX7_says [.ref 0, .int x1, .int x2] h (some (.int r1), h1, 0, 0) ∧ Run prog E pV1 120 mX8_says [.ref 110, .int x1, .int x2] h1 (some (.int r2), h2, 0, 0) ∧ (∃ o, pobj h1 110 = some o ∧ o.1 = 8) ∧ HI HT h2 ∧ JT h2 ∧ RJ h2 := by
  obtain ⟨r1, h1, q1, hh1, f1, hj1⟩ := pub_of (E := E) (a := 0) (kg_c_says JT_P hands) (N := mX7_says) rfl (List.cons_ne_nil _ _) [x1, x2] rfl (fun q => by cases q) (Nat.le_of_ble_eq_true rfl) hh hj
  obtain ⟨r2, h2, q2, hh2, f2, hj2⟩ := pub_of (E := E) (a := 110) (kg_r_says JT_P hands) (N := mX8_says) rfl (List.cons_ne_nil _ _) [x1, x2] rfl (fun q => by cases q) (Nat.le_of_ble_eq_true rfl) hh1 hj1
  exact ⟨r1, r2, h1, h2, q1, q2, mobj hh1, hh2, hj2, ⟨pRel_fr (pRel_fr hR.1 f1 (by decide +kernel)) f2 (by decide +kernel), cRel_fr (cRel_fr hR.2.1 f1 (by decide +kernel)) f2 (by decide +kernel), xj_fr (xj_fr hR.2.2 f1 (by decide +kernel)) f2 (by decide +kernel)⟩⟩
theorem lw_as (x1 x2 : Int32) (hh : HI HT h) (hj : JT h) (hR : RJ h) : ∃ (r1 r2 : Int32) (h1 h2 : List pC), Run prog E pV1 120 mX7_as [.ref 0, .int x1, .int x2] h (some (.int r1), h1, 0, 0) ∧ Run prog E pV1 120 mX8_as [.ref 110, .int x1, .int x2] h1 (some (.int r2), h2, 0, 0) ∧ (∃ o, pobj h1 110 = some o ∧ o.1 = 8) ∧ HI HT h2 ∧ JT h2 ∧ RJ h2 := by
  obtain ⟨r1, h1, q1, hh1, f1, hj1⟩ := pub_of (E := E) (a := 0) (kg_c_as JT_P hands) (N := mX7_as) rfl (List.cons_ne_nil _ _) [x1, x2] rfl (fun q => by cases q) (Nat.le_of_ble_eq_true rfl) hh hj
  obtain ⟨r2, h2, q2, hh2, f2, hj2⟩ := pub_of (E := E) (a := 110) (kg_r_as JT_P hands) (N := mX8_as) rfl (List.cons_ne_nil _ _) [x1, x2] rfl (fun q => by cases q) (Nat.le_of_ble_eq_true rfl) hh1 hj1
  exact ⟨r1, r2, h1, h2, q1, q2, mobj hh1, hh2, hj2, ⟨pRel_fr (pRel_fr hR.1 f1 (by decide +kernel)) f2 (by decide +kernel), cRel_fr (cRel_fr hR.2.1 f1 (by decide +kernel)) f2 (by decide +kernel), xj_fr (xj_fr hR.2.2 f1 (by decide +kernel)) f2 (by decide +kernel)⟩⟩
theorem lw_turns (x1 x2 : Int32) (hh : HI HT h) (hj : JT h) (hR : RJ h) : ∃ (r1 r2 : Int32) (h1 h2 : List pC), Run prog E pV1 120 mX7_turns [.ref 0, .int x1, .int x2] h (some (.int r1), h1, 0, 0) ∧ Run prog E pV1 120 mX8_turns [.ref 110, .int x1, .int x2] h1 (some (.int r2), h2, 0, 0) ∧ (∃ o, pobj h1 110 = some o ∧ o.1 = 8) ∧ HI HT h2 ∧ JT h2 ∧ RJ h2 := by
  obtain ⟨r1, h1, q1, hh1, f1, hj1⟩ := pub_of (E := E) (a := 0) (kg_c_turns JT_P hands) (N := mX7_turns) rfl (List.cons_ne_nil _ _) [x1, x2] rfl (fun q => by cases q) (Nat.le_of_ble_eq_true rfl) hh hj
  obtain ⟨r2, h2, q2, hh2, f2, hj2⟩ := pub_of (E := E) (a := 110) (kg_r_turns JT_P hands) (N := mX8_turns) rfl (List.cons_ne_nil _ _) [x1, x2] rfl (fun q => by cases q) (Nat.le_of_ble_eq_true rfl) hh1 hj1
  exact ⟨r1, r2, h1, h2, q1, q2, mobj hh1, hh2, hj2, ⟨pRel_fr (pRel_fr hR.1 f1 (by decide +kernel)) f2 (by decide +kernel), cRel_fr (cRel_fr hR.2.1 f1 (by decide +kernel)) f2 (by decide +kernel), xj_fr (xj_fr hR.2.2 f1 (by decide +kernel)) f2 (by decide +kernel)⟩⟩
theorem lw_set (x1 x2 x3 : Int32) (hh : HI HT h) (hj : JT h) (hR : RJ h) : ∃ (r1 r2 : Int32) (h1 h2 : List pC), Run prog E pV1 120 mX7_set [.ref 0, .int x1, .int x2, .int x3] h (some (.int r1), h1, 0, 0) ∧ Run prog E pV1 120 mX8_set [.ref 110, .int x1, .int x2, .int x3] h1 (some (.int r2), h2, 0, 0) ∧ (∃ o, pobj h1 110 = some o ∧ o.1 = 8) ∧ HI HT h2 ∧ JT h2 ∧ RJ h2 := by
  obtain ⟨r1, h1, q1, hh1, f1, hj1⟩ := pub_of (E := E) (a := 0) (kg_c_set JT_P hands) (N := mX7_set) rfl (List.cons_ne_nil _ _) [x1, x2, x3] rfl (fun q => by cases q) (Nat.le_of_ble_eq_true rfl) hh hj
  obtain ⟨r2, h2, q2, hh2, f2, hj2⟩ := pub_of (E := E) (a := 110) (kg_r_set JT_P hands) (N := mX8_set) rfl (List.cons_ne_nil _ _) [x1, x2, x3] rfl (fun q => by cases q) (Nat.le_of_ble_eq_true rfl) hh1 hj1
  exact ⟨r1, r2, h1, h2, q1, q2, mobj hh1, hh2, hj2, ⟨pRel_fr (pRel_fr hR.1 f1 (by decide +kernel)) f2 (by decide +kernel), cRel_fr (cRel_fr hR.2.1 f1 (by decide +kernel)) f2 (by decide +kernel), xj_fr (xj_fr hR.2.2 f1 (by decide +kernel)) f2 (by decide +kernel)⟩⟩
theorem lw_carve (x1 x2 : Int32) (hh : HI HT h) (hj : JT h) (hR : RJ h) : ∃ (r1 r2 : Int32) (h1 h2 : List pC), Run prog E pV1 120 mX7_carve [.ref 0, .int x1, .int x2] h (some (.int r1), h1, 0, 0) ∧ Run prog E pV1 120 mX8_carve [.ref 110, .int x1, .int x2] h1 (some (.int r2), h2, 0, 0) ∧ (∃ o, pobj h1 110 = some o ∧ o.1 = 8) ∧ HI HT h2 ∧ JT h2 ∧ RJ h2 := by
  obtain ⟨r1, h1, q1, hh1, f1, hj1⟩ := pub_of (E := E) (a := 0) (kg_c_carve JT_P hands) (N := mX7_carve) rfl (List.cons_ne_nil _ _) [x1, x2] rfl (fun q => by cases q) (Nat.le_of_ble_eq_true rfl) hh hj
  obtain ⟨r2, h2, q2, hh2, f2, hj2⟩ := pub_of (E := E) (a := 110) (kg_r_carve JT_P hands) (N := mX8_carve) rfl (List.cons_ne_nil _ _) [x1, x2] rfl (fun q => by cases q) (Nat.le_of_ble_eq_true rfl) hh1 hj1
  exact ⟨r1, r2, h1, h2, q1, q2, mobj hh1, hh2, hj2, ⟨pRel_fr (pRel_fr hR.1 f1 (by decide +kernel)) f2 (by decide +kernel), cRel_fr (cRel_fr hR.2.1 f1 (by decide +kernel)) f2 (by decide +kernel), xj_fr (xj_fr hR.2.2 f1 (by decide +kernel)) f2 (by decide +kernel)⟩⟩
theorem lw_carved (x1 : Int32) (hh : HI HT h) (hj : JT h) (hR : RJ h) : ∃ (r1 r2 : Int32) (h1 h2 : List pC), Run prog E pV1 120 mX7_carved [.ref 0, .int x1] h (some (.int r1), h1, 0, 0) ∧ Run prog E pV1 120 mX8_carved [.ref 110, .int x1] h1 (some (.int r2), h2, 0, 0) ∧ (∃ o, pobj h1 110 = some o ∧ o.1 = 8) ∧ HI HT h2 ∧ JT h2 ∧ RJ h2 := by
  obtain ⟨r1, h1, q1, hh1, f1, hj1⟩ := pub_of (E := E) (a := 0) (kg_c_carved JT_P hands) (N := mX7_carved) rfl (List.cons_ne_nil _ _) [x1] rfl (fun q => by cases q) (Nat.le_of_ble_eq_true rfl) hh hj
  obtain ⟨r2, h2, q2, hh2, f2, hj2⟩ := pub_of (E := E) (a := 110) (kg_r_carved JT_P hands) (N := mX8_carved) rfl (List.cons_ne_nil _ _) [x1] rfl (fun q => by cases q) (Nat.le_of_ble_eq_true rfl) hh1 hj1
  exact ⟨r1, r2, h1, h2, q1, q2, mobj hh1, hh2, hj2, ⟨pRel_fr (pRel_fr hR.1 f1 (by decide +kernel)) f2 (by decide +kernel), cRel_fr (cRel_fr hR.2.1 f1 (by decide +kernel)) f2 (by decide +kernel), xj_fr (xj_fr hR.2.2 f1 (by decide +kernel)) f2 (by decide +kernel)⟩⟩
theorem lw_deal (x1 : Int32) (hh : HI HT h) (hj : JT h) (hR : RJ h) : ∃ (r1 r2 : Int32) (h1 h2 : List pC), Run prog E pV1 120 mX7_deal [.ref 0, .int x1] h (some (.int r1), h1, 0, 0) ∧ Run prog E pV1 120 mX8_deal [.ref 110, .int x1] h1 (some (.int r2), h2, 0, 0) ∧ (∃ o, pobj h1 110 = some o ∧ o.1 = 8) ∧ HI HT h2 ∧ JT h2 ∧ RJ h2 := by
  obtain ⟨r1, h1, q1, hh1, f1, hj1⟩ := pub_of (E := E) (a := 0) (kg_c_deal JT_P hands) (N := mX7_deal) rfl (List.cons_ne_nil _ _) [x1] rfl (fun q => by cases q) (Nat.le_of_ble_eq_true rfl) hh hj
  obtain ⟨r2, h2, q2, hh2, f2, hj2⟩ := pub_of (E := E) (a := 110) (kg_r_deal JT_P hands) (N := mX8_deal) rfl (List.cons_ne_nil _ _) [x1] rfl (fun q => by cases q) (Nat.le_of_ble_eq_true rfl) hh1 hj1
  exact ⟨r1, r2, h1, h2, q1, q2, mobj hh1, hh2, hj2, ⟨pRel_fr (pRel_fr hR.1 f1 (by decide +kernel)) f2 (by decide +kernel), cRel_fr (cRel_fr hR.2.1 f1 (by decide +kernel)) f2 (by decide +kernel), xj_fr (xj_fr hR.2.2 f1 (by decide +kernel)) f2 (by decide +kernel)⟩⟩
theorem lw_seed (x1 : Int32) (hh : HI HT h) (hj : JT h) (hR : RJ h) : ∃ (r1 r2 : Int32) (h1 h2 : List pC), Run prog E pV1 120 mX7_seed [.ref 0, .int x1] h (some (.int r1), h1, 0, 0) ∧ Run prog E pV1 120 mX8_seed [.ref 110, .int x1] h1 (some (.int r2), h2, 0, 0) ∧ (∃ o, pobj h1 110 = some o ∧ o.1 = 8) ∧ HI HT h2 ∧ JT h2 ∧ RJ h2 := by
  obtain ⟨r1, h1, q1, hh1, f1, hj1⟩ := pub_of (E := E) (a := 0) (kg_c_seed JT_P hands) (N := mX7_seed) rfl (List.cons_ne_nil _ _) [x1] rfl (fun q => by cases q) (Nat.le_of_ble_eq_true rfl) hh hj
  obtain ⟨r2, h2, q2, hh2, f2, hj2⟩ := pub_of (E := E) (a := 110) (kg_r_seed JT_P hands) (N := mX8_seed) rfl (List.cons_ne_nil _ _) [x1] rfl (fun q => by cases q) (Nat.le_of_ble_eq_true rfl) hh1 hj1
  exact ⟨r1, r2, h1, h2, q1, q2, mobj hh1, hh2, hj2, ⟨pRel_fr (pRel_fr hR.1 f1 (by decide +kernel)) f2 (by decide +kernel), cRel_fr (cRel_fr hR.2.1 f1 (by decide +kernel)) f2 (by decide +kernel), xj_fr (xj_fr hR.2.2 f1 (by decide +kernel)) f2 (by decide +kernel)⟩⟩
theorem lw_falseAt (x1 x2 : Int32) (hh : HI HT h) (hj : JT h) (hR : RJ h) : ∃ (r1 r2 : Int32) (h1 h2 : List pC), Run prog E pV1 120 mX7_falseAt [.ref 0, .int x1, .int x2] h (some (.int r1), h1, 0, 0) ∧ Run prog E pV1 120 mX8_falseAt [.ref 110, .int x1, .int x2] h1 (some (.int r2), h2, 0, 0) ∧ (∃ o, pobj h1 110 = some o ∧ o.1 = 8) ∧ HI HT h2 ∧ JT h2 ∧ RJ h2 := by
  obtain ⟨r1, h1, q1, hh1, f1, hj1⟩ := pub_of (E := E) (a := 0) (kg_c_falseAt JT_P hands) (N := mX7_falseAt) rfl (List.cons_ne_nil _ _) [x1, x2] rfl (fun q => by cases q) (Nat.le_of_ble_eq_true rfl) hh hj
  obtain ⟨r2, h2, q2, hh2, f2, hj2⟩ := pub_of (E := E) (a := 110) (kg_r_falseAt JT_P hands) (N := mX8_falseAt) rfl (List.cons_ne_nil _ _) [x1, x2] rfl (fun q => by cases q) (Nat.le_of_ble_eq_true rfl) hh1 hj1
  exact ⟨r1, r2, h1, h2, q1, q2, mobj hh1, hh2, hj2, ⟨pRel_fr (pRel_fr hR.1 f1 (by decide +kernel)) f2 (by decide +kernel), cRel_fr (cRel_fr hR.2.1 f1 (by decide +kernel)) f2 (by decide +kernel), xj_fr (xj_fr hR.2.2 f1 (by decide +kernel)) f2 (by decide +kernel)⟩⟩
theorem lw_fits (x1 x2 : Int32) (hh : HI HT h) (hj : JT h) (hR : RJ h) : ∃ (r1 r2 : Int32) (h1 h2 : List pC), Run prog E pV1 120 mX7_fits [.ref 0, .int x1, .int x2] h (some (.int r1), h1, 0, 0) ∧ Run prog E pV1 120 mX8_fits [.ref 110, .int x1, .int x2] h1 (some (.int r2), h2, 0, 0) ∧ (∃ o, pobj h1 110 = some o ∧ o.1 = 8) ∧ HI HT h2 ∧ JT h2 ∧ RJ h2 := by
  obtain ⟨r1, h1, q1, hh1, f1, hj1⟩ := pub_of (E := E) (a := 0) (kg_c_fits JT_P hands) (N := mX7_fits) rfl (List.cons_ne_nil _ _) [x1, x2] rfl (fun q => by cases q) (Nat.le_of_ble_eq_true rfl) hh hj
  obtain ⟨r2, h2, q2, hh2, f2, hj2⟩ := pub_of (E := E) (a := 110) (kg_r_fits JT_P hands) (N := mX8_fits) rfl (List.cons_ne_nil _ _) [x1, x2] rfl (fun q => by cases q) (Nat.le_of_ble_eq_true rfl) hh1 hj1
  exact ⟨r1, r2, h1, h2, q1, q2, mobj hh1, hh2, hj2, ⟨pRel_fr (pRel_fr hR.1 f1 (by decide +kernel)) f2 (by decide +kernel), cRel_fr (cRel_fr hR.2.1 f1 (by decide +kernel)) f2 (by decide +kernel), xj_fr (xj_fr hR.2.2 f1 (by decide +kernel)) f2 (by decide +kernel)⟩⟩
theorem lw_join (x1 x2 x3 : Int32) (hh : HI HT h) (hj : JT h) (hR : RJ h) : ∃ (r1 r2 : Int32) (h1 h2 : List pC), Run prog E pV1 120 mX7_join [.ref 0, .int x1, .int x2, .int x3] h (some (.int r1), h1, 0, 0) ∧ Run prog E pV1 120 mX8_join [.ref 110, .int x1, .int x2, .int x3] h1 (some (.int r2), h2, 0, 0) ∧ (∃ o, pobj h1 110 = some o ∧ o.1 = 8) ∧ HI HT h2 ∧ JT h2 ∧ RJ h2 := by
  obtain ⟨r1, h1, q1, hh1, f1, hj1⟩ := pub_of (E := E) (a := 0) (kg_c_join JT_P hands) (N := mX7_join) rfl (List.cons_ne_nil _ _) [x1, x2, x3] rfl (fun q => by cases q) (Nat.le_of_ble_eq_true rfl) hh hj
  obtain ⟨r2, h2, q2, hh2, f2, hj2⟩ := pub_of (E := E) (a := 110) (kg_r_join JT_P hands) (N := mX8_join) rfl (List.cons_ne_nil _ _) [x1, x2, x3] rfl (fun q => by cases q) (Nat.le_of_ble_eq_true rfl) hh1 hj1
  exact ⟨r1, r2, h1, h2, q1, q2, mobj hh1, hh2, hj2, ⟨pRel_fr (pRel_fr hR.1 f1 (by decide +kernel)) f2 (by decide +kernel), cRel_fr (cRel_fr hR.2.1 f1 (by decide +kernel)) f2 (by decide +kernel), xj_fr (xj_fr hR.2.2 f1 (by decide +kernel)) f2 (by decide +kernel)⟩⟩
theorem lw_clash (x1 x2 : Int32) (hh : HI HT h) (hj : JT h) (hR : RJ h) : ∃ (r1 r2 : Int32) (h1 h2 : List pC), Run prog E pV1 120 mX7_clash [.ref 0, .int x1, .int x2] h (some (.int r1), h1, 0, 0) ∧ Run prog E pV1 120 mX8_clash [.ref 110, .int x1, .int x2] h1 (some (.int r2), h2, 0, 0) ∧ (∃ o, pobj h1 110 = some o ∧ o.1 = 8) ∧ HI HT h2 ∧ JT h2 ∧ RJ h2 := by
  obtain ⟨r1, h1, q1, hh1, f1, hj1⟩ := pub_of (E := E) (a := 0) (kg_c_clash JT_P hands) (N := mX7_clash) rfl (List.cons_ne_nil _ _) [x1, x2] rfl (fun q => by cases q) (Nat.le_of_ble_eq_true rfl) hh hj
  obtain ⟨r2, h2, q2, hh2, f2, hj2⟩ := pub_of (E := E) (a := 110) (kg_r_clash JT_P hands) (N := mX8_clash) rfl (List.cons_ne_nil _ _) [x1, x2] rfl (fun q => by cases q) (Nat.le_of_ble_eq_true rfl) hh1 hj1
  exact ⟨r1, r2, h1, h2, q1, q2, mobj hh1, hh2, hj2, ⟨pRel_fr (pRel_fr hR.1 f1 (by decide +kernel)) f2 (by decide +kernel), cRel_fr (cRel_fr hR.2.1 f1 (by decide +kernel)) f2 (by decide +kernel), xj_fr (xj_fr hR.2.2 f1 (by decide +kernel)) f2 (by decide +kernel)⟩⟩
theorem lw_undone (hh : HI HT h) (hj : JT h) (hR : RJ h) : ∃ (r1 r2 : Int32) (h1 h2 : List pC), Run prog E pV1 120 mX7_undone [.ref 0] h (some (.int r1), h1, 0, 0) ∧ Run prog E pV1 120 mX8_undone [.ref 110] h1 (some (.int r2), h2, 0, 0) ∧ (∃ o, pobj h1 110 = some o ∧ o.1 = 8) ∧ HI HT h2 ∧ JT h2 ∧ RJ h2 := by
  obtain ⟨r1, h1, q1, hh1, f1, hj1⟩ := pub_of (E := E) (a := 0) (kg_c_undone JT_P hands) (N := mX7_undone) rfl (List.cons_ne_nil _ _) [] rfl (fun q => by cases q) (Nat.le_of_ble_eq_true rfl) hh hj
  obtain ⟨r2, h2, q2, hh2, f2, hj2⟩ := pub_of (E := E) (a := 110) (kg_r_undone JT_P hands) (N := mX8_undone) rfl (List.cons_ne_nil _ _) [] rfl (fun q => by cases q) (Nat.le_of_ble_eq_true rfl) hh1 hj1
  exact ⟨r1, r2, h1, h2, q1, q2, mobj hh1, hh2, hj2, ⟨pRel_fr (pRel_fr hR.1 f1 (by decide +kernel)) f2 (by decide +kernel), cRel_fr (cRel_fr hR.2.1 f1 (by decide +kernel)) f2 (by decide +kernel), xj_fr (xj_fr hR.2.2 f1 (by decide +kernel)) f2 (by decide +kernel)⟩⟩
theorem lw_borne (hh : HI HT h) (hj : JT h) (hR : RJ h) : ∃ (r1 r2 : Int32) (h1 h2 : List pC), Run prog E pV1 120 mX7_borne [.ref 0] h (some (.int r1), h1, 0, 0) ∧ Run prog E pV1 120 mX8_borne [.ref 110] h1 (some (.int r2), h2, 0, 0) ∧ (∃ o, pobj h1 110 = some o ∧ o.1 = 8) ∧ HI HT h2 ∧ JT h2 ∧ RJ h2 := by
  obtain ⟨r1, h1, q1, hh1, f1, hj1⟩ := pub_of (E := E) (a := 0) (kg_c_borne JT_P hands) (N := mX7_borne) rfl (List.cons_ne_nil _ _) [] rfl (fun q => by cases q) (Nat.le_of_ble_eq_true rfl) hh hj
  obtain ⟨r2, h2, q2, hh2, f2, hj2⟩ := pub_of (E := E) (a := 110) (kg_r_borne JT_P hands) (N := mX8_borne) rfl (List.cons_ne_nil _ _) [] rfl (fun q => by cases q) (Nat.le_of_ble_eq_true rfl) hh1 hj1
  exact ⟨r1, r2, h1, h2, q1, q2, mobj hh1, hh2, hj2, ⟨pRel_fr (pRel_fr hR.1 f1 (by decide +kernel)) f2 (by decide +kernel), cRel_fr (cRel_fr hR.2.1 f1 (by decide +kernel)) f2 (by decide +kernel), xj_fr (xj_fr hR.2.2 f1 (by decide +kernel)) f2 (by decide +kernel)⟩⟩
theorem lw_look (x1 : Int32) (hh : HI HT h) (hj : JT h) (hR : RJ h) : ∃ (r1 r2 : Int32) (h1 h2 : List pC), Run prog E pV1 120 mX7_look [.ref 0, .int x1] h (some (.int r1), h1, 0, 0) ∧ Run prog E pV1 120 mX8_look [.ref 110, .int x1] h1 (some (.int r2), h2, 0, 0) ∧ (∃ o, pobj h1 110 = some o ∧ o.1 = 8) ∧ HI HT h2 ∧ JT h2 ∧ RJ h2 := by
  obtain ⟨r1, h1, q1, hh1, f1, hj1⟩ := pub_of (E := E) (a := 0) (kg_c_look JT_P hands) (N := mX7_look) rfl (List.cons_ne_nil _ _) [x1] rfl (fun q => by cases q) (Nat.le_of_ble_eq_true rfl) hh hj
  obtain ⟨r2, h2, q2, hh2, f2, hj2⟩ := pub_of (E := E) (a := 110) (kg_r_look JT_P hands) (N := mX8_look) rfl (List.cons_ne_nil _ _) [x1] rfl (fun q => by cases q) (Nat.le_of_ble_eq_true rfl) hh1 hj1
  exact ⟨r1, r2, h1, h2, q1, q2, mobj hh1, hh2, hj2, ⟨pRel_fr (pRel_fr hR.1 f1 (by decide +kernel)) f2 (by decide +kernel), cRel_fr (cRel_fr hR.2.1 f1 (by decide +kernel)) f2 (by decide +kernel), xj_fr (xj_fr hR.2.2 f1 (by decide +kernel)) f2 (by decide +kernel)⟩⟩
theorem lw_tides (x1 : Int32) (hh : HI HT h) (hj : JT h) (hR : RJ h) : ∃ (r1 r2 : Int32) (h1 h2 : List pC), Run prog E pV1 120 mX7_tides [.ref 0, .int x1] h (some (.int r1), h1, 0, 0) ∧ Run prog E pV1 120 mX8_tides [.ref 110, .int x1] h1 (some (.int r2), h2, 0, 0) ∧ (∃ o, pobj h1 110 = some o ∧ o.1 = 8) ∧ HI HT h2 ∧ JT h2 ∧ RJ h2 := by
  obtain ⟨r1, h1, q1, hh1, f1, hj1⟩ := pub_of (E := E) (a := 0) (kg_c_tides JT_P hands) (N := mX7_tides) rfl (List.cons_ne_nil _ _) [x1] rfl (fun q => by cases q) (Nat.le_of_ble_eq_true rfl) hh hj
  obtain ⟨r2, h2, q2, hh2, f2, hj2⟩ := pub_of (E := E) (a := 110) (kg_r_tides JT_P hands) (N := mX8_tides) rfl (List.cons_ne_nil _ _) [x1] rfl (fun q => by cases q) (Nat.le_of_ble_eq_true rfl) hh1 hj1
  exact ⟨r1, r2, h1, h2, q1, q2, mobj hh1, hh2, hj2, ⟨pRel_fr (pRel_fr hR.1 f1 (by decide +kernel)) f2 (by decide +kernel), cRel_fr (cRel_fr hR.2.1 f1 (by decide +kernel)) f2 (by decide +kernel), xj_fr (xj_fr hR.2.2 f1 (by decide +kernel)) f2 (by decide +kernel)⟩⟩
theorem lw_book (x1 : Int32) (hh : HI HT h) (hj : JT h) (hR : RJ h) : ∃ (r1 r2 : Int32) (h1 h2 : List pC), Run prog E pV1 120 mX7_book [.ref 0, .int x1] h (some (.int r1), h1, 0, 0) ∧ Run prog E pV1 120 mX8_book [.ref 110, .int x1] h1 (some (.int r2), h2, 0, 0) ∧ (∃ o, pobj h1 110 = some o ∧ o.1 = 8) ∧ HI HT h2 ∧ JT h2 ∧ RJ h2 := by
  obtain ⟨r1, h1, q1, hh1, f1, hj1⟩ := pub_of (E := E) (a := 0) (kg_c_book JT_P hands) (N := mX7_book) rfl (List.cons_ne_nil _ _) [x1] rfl (fun q => by cases q) (Nat.le_of_ble_eq_true rfl) hh hj
  obtain ⟨r2, h2, q2, hh2, f2, hj2⟩ := pub_of (E := E) (a := 110) (kg_r_book JT_P hands) (N := mX8_book) rfl (List.cons_ne_nil _ _) [x1] rfl (fun q => by cases q) (Nat.le_of_ble_eq_true rfl) hh1 hj1
  exact ⟨r1, r2, h1, h2, q1, q2, mobj hh1, hh2, hj2, ⟨pRel_fr (pRel_fr hR.1 f1 (by decide +kernel)) f2 (by decide +kernel), cRel_fr (cRel_fr hR.2.1 f1 (by decide +kernel)) f2 (by decide +kernel), xj_fr (xj_fr hR.2.2 f1 (by decide +kernel)) f2 (by decide +kernel)⟩⟩
theorem lw_behind (x1 x2 : Int32) (hh : HI HT h) (hj : JT h) (hR : RJ h) : ∃ (r1 r2 : Int32) (h1 h2 : List pC), Run prog E pV1 120 mX7_behind [.ref 0, .int x1, .int x2] h (some (.int r1), h1, 0, 0) ∧ Run prog E pV1 120 mX8_behind [.ref 110, .int x1, .int x2] h1 (some (.int r2), h2, 0, 0) ∧ (∃ o, pobj h1 110 = some o ∧ o.1 = 8) ∧ HI HT h2 ∧ JT h2 ∧ RJ h2 := by
  obtain ⟨r1, h1, q1, hh1, f1, hj1⟩ := pub_of (E := E) (a := 0) (kg_c_behind JT_P hands) (N := mX7_behind) rfl (List.cons_ne_nil _ _) [x1, x2] rfl (fun q => by cases q) (Nat.le_of_ble_eq_true rfl) hh hj
  obtain ⟨r2, h2, q2, hh2, f2, hj2⟩ := pub_of (E := E) (a := 110) (hd_behind hands) (N := mX8_behind) rfl (List.cons_ne_nil _ _) [x1, x2] rfl (fun q => by cases q) (Nat.le_of_ble_eq_true rfl) hh1 hj1
  exact ⟨r1, r2, h1, h2, q1, q2, mobj hh1, hh2, hj2, ⟨pRel_fr (pRel_fr hR.1 f1 (by decide +kernel)) f2 (by decide +kernel), cRel_fr (cRel_fr hR.2.1 f1 (by decide +kernel)) f2 (by decide +kernel), xj_fr (xj_fr hR.2.2 f1 (by decide +kernel)) f2 (by decide +kernel)⟩⟩
theorem lw_lasts (hh : HI HT h) (hj : JT h) (hR : RJ h) : ∃ (r1 r2 : Int32) (h1 h2 : List pC), Run prog E pV1 120 mX7_lasts [.ref 0] h (some (.int r1), h1, 0, 0) ∧ Run prog E pV1 120 mX8_lasts [.ref 110] h1 (some (.int r2), h2, 0, 0) ∧ (∃ o, pobj h1 110 = some o ∧ o.1 = 8) ∧ HI HT h2 ∧ JT h2 ∧ RJ h2 := by
  obtain ⟨r1, h1, q1, hh1, f1, hj1⟩ := pub_of (E := E) (a := 0) (kg_c_lasts JT_P hands) (N := mX7_lasts) rfl (List.cons_ne_nil _ _) [] rfl (fun q => by cases q) (Nat.le_of_ble_eq_true rfl) hh hj
  obtain ⟨r2, h2, q2, hh2, f2, hj2⟩ := pub_of (E := E) (a := 110) (hd_lasts hands) (N := mX8_lasts) rfl (List.cons_ne_nil _ _) [] rfl (fun q => by cases q) (Nat.le_of_ble_eq_true rfl) hh1 hj1
  exact ⟨r1, r2, h1, h2, q1, q2, mobj hh1, hh2, hj2, ⟨pRel_fr (pRel_fr hR.1 f1 (by decide +kernel)) f2 (by decide +kernel), cRel_fr (cRel_fr hR.2.1 f1 (by decide +kernel)) f2 (by decide +kernel), xj_fr (xj_fr hR.2.2 f1 (by decide +kernel)) f2 (by decide +kernel)⟩⟩
theorem lw_best (x1 x2 x3 : Int32) (hh : HI HT h) (hj : JT h) (hR : RJ h) : ∃ (r1 r2 : Int32) (h1 h2 : List pC), Run prog E pV1 120 mX7_best [.ref 0, .int x1, .int x2, .int x3] h (some (.int r1), h1, 0, 0) ∧ Run prog E pV1 120 mX8_best [.ref 110, .int x1, .int x2, .int x3] h1 (some (.int r2), h2, 0, 0) ∧ (∃ o, pobj h1 110 = some o ∧ o.1 = 8) ∧ HI HT h2 ∧ JT h2 ∧ RJ h2 := by
  obtain ⟨r1, h1, q1, hh1, f1, hj1⟩ := pub_of (E := E) (a := 0) (kg_c_best JT_P hands) (N := mX7_best) rfl (List.cons_ne_nil _ _) [x1, x2, x3] rfl (fun q => by cases q) (Nat.le_of_ble_eq_true rfl) hh hj
  obtain ⟨r2, h2, q2, hh2, f2, hj2⟩ := pub_of (E := E) (a := 110) (hd_best hands) (N := mX8_best) rfl (List.cons_ne_nil _ _) [x1, x2, x3] rfl (fun q => by cases q) (Nat.le_of_ble_eq_true rfl) hh1 hj1
  exact ⟨r1, r2, h1, h2, q1, q2, mobj hh1, hh2, hj2, ⟨pRel_fr (pRel_fr hR.1 f1 (by decide +kernel)) f2 (by decide +kernel), cRel_fr (cRel_fr hR.2.1 f1 (by decide +kernel)) f2 (by decide +kernel), xj_fr (xj_fr hR.2.2 f1 (by decide +kernel)) f2 (by decide +kernel)⟩⟩
theorem lw_taught (x1 x2 : Int32) (hh : HI HT h) (hj : JT h) (hR : RJ h) : ∃ (r1 r2 : Int32) (h1 h2 : List pC), Run prog E pV1 120 mX7_taught [.ref 0, .int x1, .int x2] h (some (.int r1), h1, 0, 0) ∧ Run prog E pV1 120 mX8_taught [.ref 110, .int x1, .int x2] h1 (some (.int r2), h2, 0, 0) ∧ (∃ o, pobj h1 110 = some o ∧ o.1 = 8) ∧ HI HT h2 ∧ JT h2 ∧ RJ h2 := by
  obtain ⟨r1, h1, q1, hh1, f1, hj1⟩ := pub_of (E := E) (a := 0) (kg_c_taught JT_P hands) (N := mX7_taught) rfl (List.cons_ne_nil _ _) [x1, x2] rfl (fun q => by cases q) (Nat.le_of_ble_eq_true rfl) hh hj
  obtain ⟨r2, h2, q2, hh2, f2, hj2⟩ := pub_of (E := E) (a := 110) (hd_taught hands) (N := mX8_taught) rfl (List.cons_ne_nil _ _) [x1, x2] rfl (fun q => by cases q) (Nat.le_of_ble_eq_true rfl) hh1 hj1
  exact ⟨r1, r2, h1, h2, q1, q2, mobj hh1, hh2, hj2, ⟨pRel_fr (pRel_fr hR.1 f1 (by decide +kernel)) f2 (by decide +kernel), cRel_fr (cRel_fr hR.2.1 f1 (by decide +kernel)) f2 (by decide +kernel), xj_fr (xj_fr hR.2.2 f1 (by decide +kernel)) f2 (by decide +kernel)⟩⟩
theorem lw_whose (x1 x2 : Int32) (hh : HI HT h) (hj : JT h) (hR : RJ h) : ∃ (r1 r2 : Int32) (h1 h2 : List pC), Run prog E pV1 120 mX7_whose [.ref 0, .int x1, .int x2] h (some (.int r1), h1, 0, 0) ∧ Run prog E pV1 120 mX8_whose [.ref 110, .int x1, .int x2] h1 (some (.int r2), h2, 0, 0) ∧ (∃ o, pobj h1 110 = some o ∧ o.1 = 8) ∧ HI HT h2 ∧ JT h2 ∧ RJ h2 := by
  obtain ⟨r1, h1, q1, hh1, f1, hj1⟩ := pub_of (E := E) (a := 0) (kg_c_whose JT_P hands) (N := mX7_whose) rfl (List.cons_ne_nil _ _) [x1, x2] rfl (fun q => by cases q) (Nat.le_of_ble_eq_true rfl) hh hj
  obtain ⟨r2, h2, q2, hh2, f2, hj2⟩ := pub_of (E := E) (a := 110) (kg_r_whose JT_P hands) (N := mX8_whose) rfl (List.cons_ne_nil _ _) [x1, x2] rfl (fun q => by cases q) (Nat.le_of_ble_eq_true rfl) hh1 hj1
  exact ⟨r1, r2, h1, h2, q1, q2, mobj hh1, hh2, hj2, ⟨pRel_fr (pRel_fr hR.1 f1 (by decide +kernel)) f2 (by decide +kernel), cRel_fr (cRel_fr hR.2.1 f1 (by decide +kernel)) f2 (by decide +kernel), xj_fr (xj_fr hR.2.2 f1 (by decide +kernel)) f2 (by decide +kernel)⟩⟩
theorem lw_fee (hh : HI HT h) (hj : JT h) (hR : RJ h) : ∃ (r1 r2 : Int32) (h1 h2 : List pC), Run prog E pV1 120 mX7_fee [.ref 0] h (some (.int r1), h1, 0, 0) ∧ Run prog E pV1 120 mX8_fee [.ref 110] h1 (some (.int r2), h2, 0, 0) ∧ (∃ o, pobj h1 110 = some o ∧ o.1 = 8) ∧ HI HT h2 ∧ JT h2 ∧ RJ h2 := by
  obtain ⟨r1, h1, q1, hh1, f1, hj1⟩ := pub_of (E := E) (a := 0) (kg_c_fee JT_P hands) (N := mX7_fee) rfl (List.cons_ne_nil _ _) [] rfl (fun q => by cases q) (Nat.le_of_ble_eq_true rfl) hh hj
  obtain ⟨r2, h2, q2, hh2, f2, hj2⟩ := pub_of (E := E) (a := 110) hd_fee (N := mX8_fee) rfl (List.cons_ne_nil _ _) [] rfl (fun q => by cases q) (Nat.le_of_ble_eq_true rfl) hh1 hj1
  exact ⟨r1, r2, h1, h2, q1, q2, mobj hh1, hh2, hj2, ⟨pRel_fr (pRel_fr hR.1 f1 (by decide +kernel)) f2 (by decide +kernel), cRel_fr (cRel_fr hR.2.1 f1 (by decide +kernel)) f2 (by decide +kernel), xj_fr (xj_fr hR.2.2 f1 (by decide +kernel)) f2 (by decide +kernel)⟩⟩
theorem lw_fine (x1 : Int32) (hh : HI HT h) (hj : JT h) (hR : RJ h) : ∃ (r1 r2 : Int32) (h1 h2 : List pC), Run prog E pV1 120 mX7_fine [.ref 0, .int x1] h (some (.int r1), h1, 0, 0) ∧ Run prog E pV1 120 mX8_fine [.ref 110, .int x1] h1 (some (.int r2), h2, 0, 0) ∧ (∃ o, pobj h1 110 = some o ∧ o.1 = 8) ∧ HI HT h2 ∧ JT h2 ∧ RJ h2 := by
  obtain ⟨r1, h1, q1, hh1, f1, hj1⟩ := pub_of (E := E) (a := 0) (kg_c_fine JT_P hands) (N := mX7_fine) rfl (List.cons_ne_nil _ _) [x1] rfl (fun q => by cases q) (Nat.le_of_ble_eq_true rfl) hh hj
  obtain ⟨r2, h2, q2, hh2, f2, hj2⟩ := pub_of (E := E) (a := 110) hd_fine (N := mX8_fine) rfl (List.cons_ne_nil _ _) [x1] rfl (fun q => by cases q) (Nat.le_of_ble_eq_true rfl) hh1 hj1
  exact ⟨r1, r2, h1, h2, q1, q2, mobj hh1, hh2, hj2, ⟨pRel_fr (pRel_fr hR.1 f1 (by decide +kernel)) f2 (by decide +kernel), cRel_fr (cRel_fr hR.2.1 f1 (by decide +kernel)) f2 (by decide +kernel), xj_fr (xj_fr hR.2.2 f1 (by decide +kernel)) f2 (by decide +kernel)⟩⟩
theorem lw_feed (x1 x2 x3 : Int32) (hh : HI HT h) (hj : JT h) (hR : RJ h) : ∃ (r1 r2 : Int32) (h1 h2 : List pC), Run prog E pV1 120 mX7_feed [.ref 0, .int x1, .int x2, .int x3] h (some (.int r1), h1, 0, 0) ∧ Run prog E pV1 120 mX8_feed [.ref 110, .int x1, .int x2, .int x3] h1 (some (.int r2), h2, 0, 0) ∧ (∃ o, pobj h1 110 = some o ∧ o.1 = 8) ∧ HI HT h2 ∧ JT h2 ∧ RJ h2 := by
  obtain ⟨r1, h1, q1, hh1, f1, hj1⟩ := pub_of (E := E) (a := 0) (kg_c_feed JT_P hands) (N := mX7_feed) rfl (List.cons_ne_nil _ _) [x1, x2, x3] rfl (fun q => by cases q) (Nat.le_of_ble_eq_true rfl) hh hj
  obtain ⟨r2, h2, q2, hh2, f2, hj2⟩ := pub_of (E := E) (a := 110) (kg_r_feed JT_P hands) (N := mX8_feed) rfl (List.cons_ne_nil _ _) [x1, x2, x3] rfl (fun q => by cases q) (Nat.le_of_ble_eq_true rfl) hh1 hj1
  exact ⟨r1, r2, h1, h2, q1, q2, mobj hh1, hh2, hj2, ⟨pRel_fr (pRel_fr hR.1 f1 (by decide +kernel)) f2 (by decide +kernel), cRel_fr (cRel_fr hR.2.1 f1 (by decide +kernel)) f2 (by decide +kernel), xj_fr (xj_fr hR.2.2 f1 (by decide +kernel)) f2 (by decide +kernel)⟩⟩
theorem lw_trim (x1 : Int32) (hh : HI HT h) (hj : JT h) (hR : RJ h) : ∃ (r1 r2 : Int32) (h1 h2 : List pC), Run prog E pV1 120 mX7_trim [.ref 0, .int x1] h (some (.int r1), h1, 0, 0) ∧ Run prog E pV1 120 mX8_trim [.ref 110, .int x1] h1 (some (.int r2), h2, 0, 0) ∧ (∃ o, pobj h1 110 = some o ∧ o.1 = 8) ∧ HI HT h2 ∧ JT h2 ∧ RJ h2 := by
  obtain ⟨r1, h1, q1, hh1, f1, hj1⟩ := pub_of (E := E) (a := 0) (kg_c_trim JT_P hands) (N := mX7_trim) rfl (List.cons_ne_nil _ _) [x1] rfl (fun q => by cases q) (Nat.le_of_ble_eq_true rfl) hh hj
  obtain ⟨r2, h2, q2, hh2, f2, hj2⟩ := pub_of (E := E) (a := 110) (kg_r_trim JT_P hands) (N := mX8_trim) rfl (List.cons_ne_nil _ _) [x1] rfl (fun q => by cases q) (Nat.le_of_ble_eq_true rfl) hh1 hj1
  exact ⟨r1, r2, h1, h2, q1, q2, mobj hh1, hh2, hj2, ⟨pRel_fr (pRel_fr hR.1 f1 (by decide +kernel)) f2 (by decide +kernel), cRel_fr (cRel_fr hR.2.1 f1 (by decide +kernel)) f2 (by decide +kernel), xj_fr (xj_fr hR.2.2 f1 (by decide +kernel)) f2 (by decide +kernel)⟩⟩
theorem lw_text (hh : HI HT h) (hj : JT h) (hR : RJ h) : ∃ (r1 r2 : Int32) (h1 h2 : List pC), Run prog E pV1 120 mX7_text [.ref 0] h (some (.int r1), h1, 0, 0) ∧ Run prog E pV1 120 mX8_text [.ref 110] h1 (some (.int r2), h2, 0, 0) ∧ (∃ o, pobj h1 110 = some o ∧ o.1 = 8) ∧ HI HT h2 ∧ JT h2 ∧ RJ h2 := by
  obtain ⟨r1, h1, q1, hh1, f1, hj1⟩ := pub_of (E := E) (a := 0) (kg_c_text JT_P hands) (N := mX7_text) rfl (List.cons_ne_nil _ _) [] rfl (fun q => by cases q) (Nat.le_of_ble_eq_true rfl) hh hj
  obtain ⟨r2, h2, q2, hh2, f2, hj2⟩ := pub_of (E := E) (a := 110) hd_text (N := mX8_text) rfl (List.cons_ne_nil _ _) [] rfl (fun q => by cases q) (Nat.le_of_ble_eq_true rfl) hh1 hj1
  exact ⟨r1, r2, h1, h2, q1, q2, mobj hh1, hh2, hj2, ⟨pRel_fr (pRel_fr hR.1 f1 (by decide +kernel)) f2 (by decide +kernel), cRel_fr (cRel_fr hR.2.1 f1 (by decide +kernel)) f2 (by decide +kernel), xj_fr (xj_fr hR.2.2 f1 (by decide +kernel)) f2 (by decide +kernel)⟩⟩
theorem lw_textTold (x1 x2 : Int32) (hh : HI HT h) (hj : JT h) (hR : RJ h) : ∃ (r1 r2 : Int32) (h1 h2 : List pC), Run prog E pV1 120 mX7_textTold [.ref 0, .int x1, .int x2] h (some (.int r1), h1, 0, 0) ∧ Run prog E pV1 120 mX8_textTold [.ref 110, .int x1, .int x2] h1 (some (.int r2), h2, 0, 0) ∧ (∃ o, pobj h1 110 = some o ∧ o.1 = 8) ∧ HI HT h2 ∧ JT h2 ∧ RJ h2 := by
  obtain ⟨r1, h1, q1, hh1, f1, hj1⟩ := pub_of (E := E) (a := 0) (kg_c_textTold JT_P hands) (N := mX7_textTold) rfl (List.cons_ne_nil _ _) [x1, x2] rfl (fun q => by cases q) (Nat.le_of_ble_eq_true rfl) hh hj
  obtain ⟨r2, h2, q2, hh2, f2, hj2⟩ := pub_of (E := E) (a := 110) (kg_r_textTold JT_P hands) (N := mX8_textTold) rfl (List.cons_ne_nil _ _) [x1, x2] rfl (fun q => by cases q) (Nat.le_of_ble_eq_true rfl) hh1 hj1
  exact ⟨r1, r2, h1, h2, q1, q2, mobj hh1, hh2, hj2, ⟨pRel_fr (pRel_fr hR.1 f1 (by decide +kernel)) f2 (by decide +kernel), cRel_fr (cRel_fr hR.2.1 f1 (by decide +kernel)) f2 (by decide +kernel), xj_fr (xj_fr hR.2.2 f1 (by decide +kernel)) f2 (by decide +kernel)⟩⟩
theorem lw_why (x1 : Int32) (hh : HI HT h) (hj : JT h) (hR : RJ h) : ∃ (r1 r2 : Int32) (h1 h2 : List pC), Run prog E pV1 120 mX7_why [.ref 0, .int x1] h (some (.int r1), h1, 0, 0) ∧ Run prog E pV1 120 mX8_why [.ref 110, .int x1] h1 (some (.int r2), h2, 0, 0) ∧ (∃ o, pobj h1 110 = some o ∧ o.1 = 8) ∧ HI HT h2 ∧ JT h2 ∧ RJ h2 := by
  obtain ⟨r1, h1, q1, hh1, f1, hj1⟩ := pub_of (E := E) (a := 0) (kg_c_why JT_P hands) (N := mX7_why) rfl (List.cons_ne_nil _ _) [x1] rfl (fun q => by cases q) (Nat.le_of_ble_eq_true rfl) hh hj
  obtain ⟨r2, h2, q2, hh2, f2, hj2⟩ := pub_of (E := E) (a := 110) (kg_r_why JT_P hands) (N := mX8_why) rfl (List.cons_ne_nil _ _) [x1] rfl (fun q => by cases q) (Nat.le_of_ble_eq_true rfl) hh1 hj1
  exact ⟨r1, r2, h1, h2, q1, q2, mobj hh1, hh2, hj2, ⟨pRel_fr (pRel_fr hR.1 f1 (by decide +kernel)) f2 (by decide +kernel), cRel_fr (cRel_fr hR.2.1 f1 (by decide +kernel)) f2 (by decide +kernel), xj_fr (xj_fr hR.2.2 f1 (by decide +kernel)) f2 (by decide +kernel)⟩⟩
theorem lf_sheet0_0 (x1 x2 x3 : Int32) (hh : HI HT h) (hj : JT h) (hR : RJ h) (a1 : 0 ≤ x1.toInt ∧ x1.toInt ≤ 0) (a2 : (-2147483648) ≤ x2.toInt ∧ x2.toInt ≤ (-2)) : ∃ (r1 r2 : Int32) (h1 h2 : List pC), Run prog E pV1 120 mX7_sheet [.ref 0, .int x1, .int x2, .int x3] h (some (.int r1), h1, 0, 0) ∧ Run prog E pV1 120 mX8_sheet [.ref 110, .int x1, .int x2, .int x3] h1 (some (.int r2), h2, 0, 0) ∧ (∃ o, pobj h1 110 = some o ∧ o.1 = 8) ∧ HI HT h2 ∧ JT h2 ∧ RJ h2 := by
  obtain ⟨r, h1, h2, q1, q2, q3, p1, p2, p3, p4⟩ := pr_ok3 (E := E) (x1 := x1) (x2 := x2) (x3 := x3) cp_sheet0_0 rfl rfl (List.cons_ne_nil _ _) (List.cons_ne_nil _ _) (fun _ h => absurd h List.not_mem_nil) hh hj hR.1 hR.2.1 ⟨a1, a2, i32_b x3, trivial⟩ (pBd.cs (ty_82_1 hh hR).1 (ty_82_1 hh hR).2 (pBd.cs (ty_82_2 hh hR).1 (ty_82_2 hh hR).2 pBd.nl)) (fun e he => by cases he)
  exact ⟨r, r, h1, h2, q1, q2, q3, p1, p2, p3.1, p3.2, xj_fr hR.2.2 p4 (by decide +kernel)⟩
theorem lf_sheet0_1 (x1 x2 x3 : Int32) (hh : HI HT h) (hj : JT h) (hR : RJ h) (a1 : 0 ≤ x1.toInt ∧ x1.toInt ≤ 0) (a2 : (-1) ≤ x2.toInt ∧ x2.toInt ≤ (-1)) : ∃ (r1 r2 : Int32) (h1 h2 : List pC), Run prog E pV1 120 mX7_sheet [.ref 0, .int x1, .int x2, .int x3] h (some (.int r1), h1, 0, 0) ∧ Run prog E pV1 120 mX8_sheet [.ref 110, .int x1, .int x2, .int x3] h1 (some (.int r2), h2, 0, 0) ∧ (∃ o, pobj h1 110 = some o ∧ o.1 = 8) ∧ HI HT h2 ∧ JT h2 ∧ RJ h2 := by
  obtain ⟨r, h1, h2, q1, q2, q3, p1, p2, p3, p4⟩ := pr_ok3 (E := E) (x1 := x1) (x2 := x2) (x3 := x3) cp_sheet0_1 rfl rfl (List.cons_ne_nil _ _) (List.cons_ne_nil _ _) (fun _ h => absurd h List.not_mem_nil) hh hj hR.1 hR.2.1 ⟨a1, a2, i32_b x3, trivial⟩ (pBd.cs (ty_82_1 hh hR).1 (ty_82_1 hh hR).2 (pBd.cs (ty_82_2 hh hR).1 (ty_82_2 hh hR).2 pBd.nl)) (fun e he => by cases he)
  exact ⟨r, r, h1, h2, q1, q2, q3, p1, p2, p3.1, p3.2, xj_fr hR.2.2 p4 (by decide +kernel)⟩
theorem lf_sheet0_2 (x1 x2 x3 : Int32) (hh : HI HT h) (hj : JT h) (hR : RJ h) (a1 : 0 ≤ x1.toInt ∧ x1.toInt ≤ 0) (a2 : 0 ≤ x2.toInt ∧ x2.toInt ≤ 0) : ∃ (r1 r2 : Int32) (h1 h2 : List pC), Run prog E pV1 120 mX7_sheet [.ref 0, .int x1, .int x2, .int x3] h (some (.int r1), h1, 0, 0) ∧ Run prog E pV1 120 mX8_sheet [.ref 110, .int x1, .int x2, .int x3] h1 (some (.int r2), h2, 0, 0) ∧ (∃ o, pobj h1 110 = some o ∧ o.1 = 8) ∧ HI HT h2 ∧ JT h2 ∧ RJ h2 := by
  obtain ⟨r, h1, h2, q1, q2, q3, p1, p2, p3, p4⟩ := pr_ok3 (E := E) (x1 := x1) (x2 := x2) (x3 := x3) cp_sheet0_2 rfl rfl (List.cons_ne_nil _ _) (List.cons_ne_nil _ _) (fun _ h => absurd h List.not_mem_nil) hh hj hR.1 hR.2.1 ⟨a1, a2, i32_b x3, trivial⟩ (pBd.cs (ty_82_1 hh hR).1 (ty_82_1 hh hR).2 (pBd.cs (ty_82_2 hh hR).1 (ty_82_2 hh hR).2 pBd.nl)) (fun e he => by cases he)
  exact ⟨r, r, h1, h2, q1, q2, q3, p1, p2, p3.1, p3.2, xj_fr hR.2.2 p4 (by decide +kernel)⟩
theorem lf_sheet0_3 (x1 x2 x3 : Int32) (hh : HI HT h) (hj : JT h) (hR : RJ h) (a1 : 0 ≤ x1.toInt ∧ x1.toInt ≤ 0) (a2 : 1 ≤ x2.toInt ∧ x2.toInt ≤ 1) : ∃ (r1 r2 : Int32) (h1 h2 : List pC), Run prog E pV1 120 mX7_sheet [.ref 0, .int x1, .int x2, .int x3] h (some (.int r1), h1, 0, 0) ∧ Run prog E pV1 120 mX8_sheet [.ref 110, .int x1, .int x2, .int x3] h1 (some (.int r2), h2, 0, 0) ∧ (∃ o, pobj h1 110 = some o ∧ o.1 = 8) ∧ HI HT h2 ∧ JT h2 ∧ RJ h2 := by
  obtain ⟨r, h1, h2, q1, q2, q3, p1, p2, p3, p4⟩ := pr_ok3 (E := E) (x1 := x1) (x2 := x2) (x3 := x3) cp_sheet0_3 rfl rfl (List.cons_ne_nil _ _) (List.cons_ne_nil _ _) (fun _ h => absurd h List.not_mem_nil) hh hj hR.1 hR.2.1 ⟨a1, a2, i32_b x3, trivial⟩ (pBd.cs (ty_82_1 hh hR).1 (ty_82_1 hh hR).2 (pBd.cs (ty_82_2 hh hR).1 (ty_82_2 hh hR).2 pBd.nl)) (fun e he => by cases he)
  exact ⟨r, r, h1, h2, q1, q2, q3, p1, p2, p3.1, p3.2, xj_fr hR.2.2 p4 (by decide +kernel)⟩
theorem lf_sheet0_4 (x1 x2 x3 : Int32) (hh : HI HT h) (hj : JT h) (hR : RJ h) (a1 : 0 ≤ x1.toInt ∧ x1.toInt ≤ 0) (a2 : 2 ≤ x2.toInt ∧ x2.toInt ≤ 2147483647) : ∃ (r1 r2 : Int32) (h1 h2 : List pC), Run prog E pV1 120 mX7_sheet [.ref 0, .int x1, .int x2, .int x3] h (some (.int r1), h1, 0, 0) ∧ Run prog E pV1 120 mX8_sheet [.ref 110, .int x1, .int x2, .int x3] h1 (some (.int r2), h2, 0, 0) ∧ (∃ o, pobj h1 110 = some o ∧ o.1 = 8) ∧ HI HT h2 ∧ JT h2 ∧ RJ h2 := by
  obtain ⟨r, h1, h2, q1, q2, q3, p1, p2, p3, p4⟩ := pr_ok3 (E := E) (x1 := x1) (x2 := x2) (x3 := x3) cp_sheet0_4 rfl rfl (List.cons_ne_nil _ _) (List.cons_ne_nil _ _) (fun _ h => absurd h List.not_mem_nil) hh hj hR.1 hR.2.1 ⟨a1, a2, i32_b x3, trivial⟩ (pBd.cs (ty_82_1 hh hR).1 (ty_82_1 hh hR).2 (pBd.cs (ty_82_2 hh hR).1 (ty_82_2 hh hR).2 pBd.nl)) (fun e he => by cases he)
  exact ⟨r, r, h1, h2, q1, q2, q3, p1, p2, p3.1, p3.2, xj_fr hR.2.2 p4 (by decide +kernel)⟩
theorem lf_sheet1_0 (x1 x2 x3 : Int32) (hh : HI HT h) (hj : JT h) (hR : RJ h) (a1 : 1 ≤ x1.toInt ∧ x1.toInt ≤ 1) (a2 : (-2147483648) ≤ x2.toInt ∧ x2.toInt ≤ (-2)) : ∃ (r1 r2 : Int32) (h1 h2 : List pC), Run prog E pV1 120 mX7_sheet [.ref 0, .int x1, .int x2, .int x3] h (some (.int r1), h1, 0, 0) ∧ Run prog E pV1 120 mX8_sheet [.ref 110, .int x1, .int x2, .int x3] h1 (some (.int r2), h2, 0, 0) ∧ (∃ o, pobj h1 110 = some o ∧ o.1 = 8) ∧ HI HT h2 ∧ JT h2 ∧ RJ h2 := by
  obtain ⟨r, h1, h2, q1, q2, q3, p1, p2, p3, p4⟩ := pr_ok3 (E := E) (x1 := x1) (x2 := x2) (x3 := x3) cp_sheet1_0 rfl rfl (List.cons_ne_nil _ _) (List.cons_ne_nil _ _) (fun _ h => absurd h List.not_mem_nil) hh hj hR.1 hR.2.1 ⟨a1, a2, i32_b x3, trivial⟩ (pBd.cs (ty_84_1 hh hR).1 (ty_84_1 hh hR).2 (pBd.cs (ty_84_2 hh hR).1 (ty_84_2 hh hR).2 pBd.nl)) (fun e he => by cases he)
  exact ⟨r, r, h1, h2, q1, q2, q3, p1, p2, p3.1, p3.2, xj_fr hR.2.2 p4 (by decide +kernel)⟩
theorem lf_sheet1_1 (x1 x2 x3 : Int32) (hh : HI HT h) (hj : JT h) (hR : RJ h) (a1 : 1 ≤ x1.toInt ∧ x1.toInt ≤ 1) (a2 : (-1) ≤ x2.toInt ∧ x2.toInt ≤ (-1)) : ∃ (r1 r2 : Int32) (h1 h2 : List pC), Run prog E pV1 120 mX7_sheet [.ref 0, .int x1, .int x2, .int x3] h (some (.int r1), h1, 0, 0) ∧ Run prog E pV1 120 mX8_sheet [.ref 110, .int x1, .int x2, .int x3] h1 (some (.int r2), h2, 0, 0) ∧ (∃ o, pobj h1 110 = some o ∧ o.1 = 8) ∧ HI HT h2 ∧ JT h2 ∧ RJ h2 := by
  obtain ⟨r, h1, h2, q1, q2, q3, p1, p2, p3, p4⟩ := pr_ok3 (E := E) (x1 := x1) (x2 := x2) (x3 := x3) cp_sheet1_1 rfl rfl (List.cons_ne_nil _ _) (List.cons_ne_nil _ _) (fun _ h => absurd h List.not_mem_nil) hh hj hR.1 hR.2.1 ⟨a1, a2, i32_b x3, trivial⟩ (pBd.cs (ty_84_1 hh hR).1 (ty_84_1 hh hR).2 (pBd.cs (ty_84_2 hh hR).1 (ty_84_2 hh hR).2 pBd.nl)) (fun e he => by cases he)
  exact ⟨r, r, h1, h2, q1, q2, q3, p1, p2, p3.1, p3.2, xj_fr hR.2.2 p4 (by decide +kernel)⟩
theorem lf_sheet1_2 (x1 x2 x3 : Int32) (hh : HI HT h) (hj : JT h) (hR : RJ h) (a1 : 1 ≤ x1.toInt ∧ x1.toInt ≤ 1) (a2 : 0 ≤ x2.toInt ∧ x2.toInt ≤ 0) : ∃ (r1 r2 : Int32) (h1 h2 : List pC), Run prog E pV1 120 mX7_sheet [.ref 0, .int x1, .int x2, .int x3] h (some (.int r1), h1, 0, 0) ∧ Run prog E pV1 120 mX8_sheet [.ref 110, .int x1, .int x2, .int x3] h1 (some (.int r2), h2, 0, 0) ∧ (∃ o, pobj h1 110 = some o ∧ o.1 = 8) ∧ HI HT h2 ∧ JT h2 ∧ RJ h2 := by
  obtain ⟨r, h1, h2, q1, q2, q3, p1, p2, p3, p4⟩ := pr_ok3 (E := E) (x1 := x1) (x2 := x2) (x3 := x3) cp_sheet1_2 rfl rfl (List.cons_ne_nil _ _) (List.cons_ne_nil _ _) (fun _ h => absurd h List.not_mem_nil) hh hj hR.1 hR.2.1 ⟨a1, a2, i32_b x3, trivial⟩ (pBd.cs (ty_84_1 hh hR).1 (ty_84_1 hh hR).2 (pBd.cs (ty_84_2 hh hR).1 (ty_84_2 hh hR).2 pBd.nl)) (fun e he => by cases he)
  exact ⟨r, r, h1, h2, q1, q2, q3, p1, p2, p3.1, p3.2, xj_fr hR.2.2 p4 (by decide +kernel)⟩
theorem lf_sheet1_3 (x1 x2 x3 : Int32) (hh : HI HT h) (hj : JT h) (hR : RJ h) (a1 : 1 ≤ x1.toInt ∧ x1.toInt ≤ 1) (a2 : 1 ≤ x2.toInt ∧ x2.toInt ≤ 1) : ∃ (r1 r2 : Int32) (h1 h2 : List pC), Run prog E pV1 120 mX7_sheet [.ref 0, .int x1, .int x2, .int x3] h (some (.int r1), h1, 0, 0) ∧ Run prog E pV1 120 mX8_sheet [.ref 110, .int x1, .int x2, .int x3] h1 (some (.int r2), h2, 0, 0) ∧ (∃ o, pobj h1 110 = some o ∧ o.1 = 8) ∧ HI HT h2 ∧ JT h2 ∧ RJ h2 := by
  obtain ⟨r, h1, h2, q1, q2, q3, p1, p2, p3, p4⟩ := pr_ok3 (E := E) (x1 := x1) (x2 := x2) (x3 := x3) cp_sheet1_3 rfl rfl (List.cons_ne_nil _ _) (List.cons_ne_nil _ _) (fun _ h => absurd h List.not_mem_nil) hh hj hR.1 hR.2.1 ⟨a1, a2, i32_b x3, trivial⟩ (pBd.cs (ty_84_1 hh hR).1 (ty_84_1 hh hR).2 (pBd.cs (ty_84_2 hh hR).1 (ty_84_2 hh hR).2 pBd.nl)) (fun e he => by cases he)
  exact ⟨r, r, h1, h2, q1, q2, q3, p1, p2, p3.1, p3.2, xj_fr hR.2.2 p4 (by decide +kernel)⟩
theorem lf_sheet1_4 (x1 x2 x3 : Int32) (hh : HI HT h) (hj : JT h) (hR : RJ h) (a1 : 1 ≤ x1.toInt ∧ x1.toInt ≤ 1) (a2 : 2 ≤ x2.toInt ∧ x2.toInt ≤ 2147483647) : ∃ (r1 r2 : Int32) (h1 h2 : List pC), Run prog E pV1 120 mX7_sheet [.ref 0, .int x1, .int x2, .int x3] h (some (.int r1), h1, 0, 0) ∧ Run prog E pV1 120 mX8_sheet [.ref 110, .int x1, .int x2, .int x3] h1 (some (.int r2), h2, 0, 0) ∧ (∃ o, pobj h1 110 = some o ∧ o.1 = 8) ∧ HI HT h2 ∧ JT h2 ∧ RJ h2 := by
  obtain ⟨r, h1, h2, q1, q2, q3, p1, p2, p3, p4⟩ := pr_ok3 (E := E) (x1 := x1) (x2 := x2) (x3 := x3) cp_sheet1_4 rfl rfl (List.cons_ne_nil _ _) (List.cons_ne_nil _ _) (fun _ h => absurd h List.not_mem_nil) hh hj hR.1 hR.2.1 ⟨a1, a2, i32_b x3, trivial⟩ (pBd.cs (ty_84_1 hh hR).1 (ty_84_1 hh hR).2 (pBd.cs (ty_84_2 hh hR).1 (ty_84_2 hh hR).2 pBd.nl)) (fun e he => by cases he)
  exact ⟨r, r, h1, h2, q1, q2, q3, p1, p2, p3.1, p3.2, xj_fr hR.2.2 p4 (by decide +kernel)⟩
theorem lf_sheet2_0 (x1 x2 x3 : Int32) (hh : HI HT h) (hj : JT h) (hR : RJ h) (a1 : 2 ≤ x1.toInt ∧ x1.toInt ≤ 2) (a2 : (-2147483648) ≤ x2.toInt ∧ x2.toInt ≤ (-2)) : ∃ (r1 r2 : Int32) (h1 h2 : List pC), Run prog E pV1 120 mX7_sheet [.ref 0, .int x1, .int x2, .int x3] h (some (.int r1), h1, 0, 0) ∧ Run prog E pV1 120 mX8_sheet [.ref 110, .int x1, .int x2, .int x3] h1 (some (.int r2), h2, 0, 0) ∧ (∃ o, pobj h1 110 = some o ∧ o.1 = 8) ∧ HI HT h2 ∧ JT h2 ∧ RJ h2 := by
  obtain ⟨r, h1, h2, q1, q2, q3, p1, p2, p3, p4⟩ := pr_ok3 (E := E) (x1 := x1) (x2 := x2) (x3 := x3) cp_sheet2_0 rfl rfl (List.cons_ne_nil _ _) (List.cons_ne_nil _ _) (fun _ h => absurd h List.not_mem_nil) hh hj hR.1 hR.2.1 ⟨a1, a2, i32_b x3, trivial⟩ (pBd.cs (ty_86_1 hh hR).1 (ty_86_1 hh hR).2 (pBd.cs (ty_86_2 hh hR).1 (ty_86_2 hh hR).2 pBd.nl)) (fun e he => by cases he)
  exact ⟨r, r, h1, h2, q1, q2, q3, p1, p2, p3.1, p3.2, xj_fr hR.2.2 p4 (by decide +kernel)⟩
theorem lf_sheet2_1 (x1 x2 x3 : Int32) (hh : HI HT h) (hj : JT h) (hR : RJ h) (a1 : 2 ≤ x1.toInt ∧ x1.toInt ≤ 2) (a2 : (-1) ≤ x2.toInt ∧ x2.toInt ≤ (-1)) : ∃ (r1 r2 : Int32) (h1 h2 : List pC), Run prog E pV1 120 mX7_sheet [.ref 0, .int x1, .int x2, .int x3] h (some (.int r1), h1, 0, 0) ∧ Run prog E pV1 120 mX8_sheet [.ref 110, .int x1, .int x2, .int x3] h1 (some (.int r2), h2, 0, 0) ∧ (∃ o, pobj h1 110 = some o ∧ o.1 = 8) ∧ HI HT h2 ∧ JT h2 ∧ RJ h2 := by
  obtain ⟨r, h1, h2, q1, q2, q3, p1, p2, p3, p4⟩ := pr_ok3 (E := E) (x1 := x1) (x2 := x2) (x3 := x3) cp_sheet2_1 rfl rfl (List.cons_ne_nil _ _) (List.cons_ne_nil _ _) (fun _ h => absurd h List.not_mem_nil) hh hj hR.1 hR.2.1 ⟨a1, a2, i32_b x3, trivial⟩ (pBd.cs (ty_86_1 hh hR).1 (ty_86_1 hh hR).2 (pBd.cs (ty_86_2 hh hR).1 (ty_86_2 hh hR).2 pBd.nl)) (fun e he => by cases he)
  exact ⟨r, r, h1, h2, q1, q2, q3, p1, p2, p3.1, p3.2, xj_fr hR.2.2 p4 (by decide +kernel)⟩
theorem lf_sheet2_2 (x1 x2 x3 : Int32) (hh : HI HT h) (hj : JT h) (hR : RJ h) (a1 : 2 ≤ x1.toInt ∧ x1.toInt ≤ 2) (a2 : 0 ≤ x2.toInt ∧ x2.toInt ≤ 0) : ∃ (r1 r2 : Int32) (h1 h2 : List pC), Run prog E pV1 120 mX7_sheet [.ref 0, .int x1, .int x2, .int x3] h (some (.int r1), h1, 0, 0) ∧ Run prog E pV1 120 mX8_sheet [.ref 110, .int x1, .int x2, .int x3] h1 (some (.int r2), h2, 0, 0) ∧ (∃ o, pobj h1 110 = some o ∧ o.1 = 8) ∧ HI HT h2 ∧ JT h2 ∧ RJ h2 := by
  obtain ⟨r, h1, h2, q1, q2, q3, p1, p2, p3, p4⟩ := pr_ok3 (E := E) (x1 := x1) (x2 := x2) (x3 := x3) cp_sheet2_2 rfl rfl (List.cons_ne_nil _ _) (List.cons_ne_nil _ _) (fun _ h => absurd h List.not_mem_nil) hh hj hR.1 hR.2.1 ⟨a1, a2, i32_b x3, trivial⟩ (pBd.cs (ty_86_1 hh hR).1 (ty_86_1 hh hR).2 (pBd.cs (ty_86_2 hh hR).1 (ty_86_2 hh hR).2 pBd.nl)) (fun e he => by cases he)
  exact ⟨r, r, h1, h2, q1, q2, q3, p1, p2, p3.1, p3.2, xj_fr hR.2.2 p4 (by decide +kernel)⟩
theorem lf_sheet2_3 (x1 x2 x3 : Int32) (hh : HI HT h) (hj : JT h) (hR : RJ h) (a1 : 2 ≤ x1.toInt ∧ x1.toInt ≤ 2) (a2 : 1 ≤ x2.toInt ∧ x2.toInt ≤ 1) : ∃ (r1 r2 : Int32) (h1 h2 : List pC), Run prog E pV1 120 mX7_sheet [.ref 0, .int x1, .int x2, .int x3] h (some (.int r1), h1, 0, 0) ∧ Run prog E pV1 120 mX8_sheet [.ref 110, .int x1, .int x2, .int x3] h1 (some (.int r2), h2, 0, 0) ∧ (∃ o, pobj h1 110 = some o ∧ o.1 = 8) ∧ HI HT h2 ∧ JT h2 ∧ RJ h2 := by
  obtain ⟨r, h1, h2, q1, q2, q3, p1, p2, p3, p4⟩ := pr_ok3 (E := E) (x1 := x1) (x2 := x2) (x3 := x3) cp_sheet2_3 rfl rfl (List.cons_ne_nil _ _) (List.cons_ne_nil _ _) (fun _ h => absurd h List.not_mem_nil) hh hj hR.1 hR.2.1 ⟨a1, a2, i32_b x3, trivial⟩ (pBd.cs (ty_86_1 hh hR).1 (ty_86_1 hh hR).2 (pBd.cs (ty_86_2 hh hR).1 (ty_86_2 hh hR).2 pBd.nl)) (fun e he => by cases he)
  exact ⟨r, r, h1, h2, q1, q2, q3, p1, p2, p3.1, p3.2, xj_fr hR.2.2 p4 (by decide +kernel)⟩
theorem lf_sheet2_4 (x1 x2 x3 : Int32) (hh : HI HT h) (hj : JT h) (hR : RJ h) (a1 : 2 ≤ x1.toInt ∧ x1.toInt ≤ 2) (a2 : 2 ≤ x2.toInt ∧ x2.toInt ≤ 2147483647) : ∃ (r1 r2 : Int32) (h1 h2 : List pC), Run prog E pV1 120 mX7_sheet [.ref 0, .int x1, .int x2, .int x3] h (some (.int r1), h1, 0, 0) ∧ Run prog E pV1 120 mX8_sheet [.ref 110, .int x1, .int x2, .int x3] h1 (some (.int r2), h2, 0, 0) ∧ (∃ o, pobj h1 110 = some o ∧ o.1 = 8) ∧ HI HT h2 ∧ JT h2 ∧ RJ h2 := by
  obtain ⟨r, h1, h2, q1, q2, q3, p1, p2, p3, p4⟩ := pr_ok3 (E := E) (x1 := x1) (x2 := x2) (x3 := x3) cp_sheet2_4 rfl rfl (List.cons_ne_nil _ _) (List.cons_ne_nil _ _) (fun _ h => absurd h List.not_mem_nil) hh hj hR.1 hR.2.1 ⟨a1, a2, i32_b x3, trivial⟩ (pBd.cs (ty_86_1 hh hR).1 (ty_86_1 hh hR).2 (pBd.cs (ty_86_2 hh hR).1 (ty_86_2 hh hR).2 pBd.nl)) (fun e he => by cases he)
  exact ⟨r, r, h1, h2, q1, q2, q3, p1, p2, p3.1, p3.2, xj_fr hR.2.2 p4 (by decide +kernel)⟩
theorem lf_sheet3_0 (x1 x2 x3 : Int32) (hh : HI HT h) (hj : JT h) (hR : RJ h) (a1 : 3 ≤ x1.toInt ∧ x1.toInt ≤ 3) (a2 : (-2147483648) ≤ x2.toInt ∧ x2.toInt ≤ (-2)) : ∃ (r1 r2 : Int32) (h1 h2 : List pC), Run prog E pV1 120 mX7_sheet [.ref 0, .int x1, .int x2, .int x3] h (some (.int r1), h1, 0, 0) ∧ Run prog E pV1 120 mX8_sheet [.ref 110, .int x1, .int x2, .int x3] h1 (some (.int r2), h2, 0, 0) ∧ (∃ o, pobj h1 110 = some o ∧ o.1 = 8) ∧ HI HT h2 ∧ JT h2 ∧ RJ h2 := by
  obtain ⟨r, h1, h2, q1, q2, q3, p1, p2, p3, p4⟩ := pr_ok3 (E := E) (x1 := x1) (x2 := x2) (x3 := x3) cp_sheet3_0 rfl rfl (List.cons_ne_nil _ _) (List.cons_ne_nil _ _) (fun _ h => absurd h List.not_mem_nil) hh hj hR.1 hR.2.1 ⟨a1, a2, i32_b x3, trivial⟩ (pBd.cs (ty_88_1 hh hR).1 (ty_88_1 hh hR).2 (pBd.cs (ty_88_2 hh hR).1 (ty_88_2 hh hR).2 pBd.nl)) (fun e he => by cases he)
  exact ⟨r, r, h1, h2, q1, q2, q3, p1, p2, p3.1, p3.2, xj_fr hR.2.2 p4 (by decide +kernel)⟩
theorem lf_sheet3_1 (x1 x2 x3 : Int32) (hh : HI HT h) (hj : JT h) (hR : RJ h) (a1 : 3 ≤ x1.toInt ∧ x1.toInt ≤ 3) (a2 : (-1) ≤ x2.toInt ∧ x2.toInt ≤ (-1)) : ∃ (r1 r2 : Int32) (h1 h2 : List pC), Run prog E pV1 120 mX7_sheet [.ref 0, .int x1, .int x2, .int x3] h (some (.int r1), h1, 0, 0) ∧ Run prog E pV1 120 mX8_sheet [.ref 110, .int x1, .int x2, .int x3] h1 (some (.int r2), h2, 0, 0) ∧ (∃ o, pobj h1 110 = some o ∧ o.1 = 8) ∧ HI HT h2 ∧ JT h2 ∧ RJ h2 := by
  obtain ⟨r, h1, h2, q1, q2, q3, p1, p2, p3, p4⟩ := pr_ok3 (E := E) (x1 := x1) (x2 := x2) (x3 := x3) cp_sheet3_1 rfl rfl (List.cons_ne_nil _ _) (List.cons_ne_nil _ _) (fun _ h => absurd h List.not_mem_nil) hh hj hR.1 hR.2.1 ⟨a1, a2, i32_b x3, trivial⟩ (pBd.cs (ty_88_1 hh hR).1 (ty_88_1 hh hR).2 (pBd.cs (ty_88_2 hh hR).1 (ty_88_2 hh hR).2 pBd.nl)) (fun e he => by cases he)
  exact ⟨r, r, h1, h2, q1, q2, q3, p1, p2, p3.1, p3.2, xj_fr hR.2.2 p4 (by decide +kernel)⟩
theorem lf_sheet3_2 (x1 x2 x3 : Int32) (hh : HI HT h) (hj : JT h) (hR : RJ h) (a1 : 3 ≤ x1.toInt ∧ x1.toInt ≤ 3) (a2 : 0 ≤ x2.toInt ∧ x2.toInt ≤ 0) : ∃ (r1 r2 : Int32) (h1 h2 : List pC), Run prog E pV1 120 mX7_sheet [.ref 0, .int x1, .int x2, .int x3] h (some (.int r1), h1, 0, 0) ∧ Run prog E pV1 120 mX8_sheet [.ref 110, .int x1, .int x2, .int x3] h1 (some (.int r2), h2, 0, 0) ∧ (∃ o, pobj h1 110 = some o ∧ o.1 = 8) ∧ HI HT h2 ∧ JT h2 ∧ RJ h2 := by
  obtain ⟨r, h1, h2, q1, q2, q3, p1, p2, p3, p4⟩ := pr_ok3 (E := E) (x1 := x1) (x2 := x2) (x3 := x3) cp_sheet3_2 rfl rfl (List.cons_ne_nil _ _) (List.cons_ne_nil _ _) (fun _ h => absurd h List.not_mem_nil) hh hj hR.1 hR.2.1 ⟨a1, a2, i32_b x3, trivial⟩ (pBd.cs (ty_88_1 hh hR).1 (ty_88_1 hh hR).2 (pBd.cs (ty_88_2 hh hR).1 (ty_88_2 hh hR).2 pBd.nl)) (fun e he => by cases he)
  exact ⟨r, r, h1, h2, q1, q2, q3, p1, p2, p3.1, p3.2, xj_fr hR.2.2 p4 (by decide +kernel)⟩
theorem lf_sheet3_3 (x1 x2 x3 : Int32) (hh : HI HT h) (hj : JT h) (hR : RJ h) (a1 : 3 ≤ x1.toInt ∧ x1.toInt ≤ 3) (a2 : 1 ≤ x2.toInt ∧ x2.toInt ≤ 1) : ∃ (r1 r2 : Int32) (h1 h2 : List pC), Run prog E pV1 120 mX7_sheet [.ref 0, .int x1, .int x2, .int x3] h (some (.int r1), h1, 0, 0) ∧ Run prog E pV1 120 mX8_sheet [.ref 110, .int x1, .int x2, .int x3] h1 (some (.int r2), h2, 0, 0) ∧ (∃ o, pobj h1 110 = some o ∧ o.1 = 8) ∧ HI HT h2 ∧ JT h2 ∧ RJ h2 := by
  obtain ⟨r, h1, h2, q1, q2, q3, p1, p2, p3, p4⟩ := pr_ok3 (E := E) (x1 := x1) (x2 := x2) (x3 := x3) cp_sheet3_3 rfl rfl (List.cons_ne_nil _ _) (List.cons_ne_nil _ _) (fun _ h => absurd h List.not_mem_nil) hh hj hR.1 hR.2.1 ⟨a1, a2, i32_b x3, trivial⟩ (pBd.cs (ty_88_1 hh hR).1 (ty_88_1 hh hR).2 (pBd.cs (ty_88_2 hh hR).1 (ty_88_2 hh hR).2 pBd.nl)) (fun e he => by cases he)
  exact ⟨r, r, h1, h2, q1, q2, q3, p1, p2, p3.1, p3.2, xj_fr hR.2.2 p4 (by decide +kernel)⟩
theorem lf_sheet3_4 (x1 x2 x3 : Int32) (hh : HI HT h) (hj : JT h) (hR : RJ h) (a1 : 3 ≤ x1.toInt ∧ x1.toInt ≤ 3) (a2 : 2 ≤ x2.toInt ∧ x2.toInt ≤ 2147483647) : ∃ (r1 r2 : Int32) (h1 h2 : List pC), Run prog E pV1 120 mX7_sheet [.ref 0, .int x1, .int x2, .int x3] h (some (.int r1), h1, 0, 0) ∧ Run prog E pV1 120 mX8_sheet [.ref 110, .int x1, .int x2, .int x3] h1 (some (.int r2), h2, 0, 0) ∧ (∃ o, pobj h1 110 = some o ∧ o.1 = 8) ∧ HI HT h2 ∧ JT h2 ∧ RJ h2 := by
  obtain ⟨r, h1, h2, q1, q2, q3, p1, p2, p3, p4⟩ := pr_ok3 (E := E) (x1 := x1) (x2 := x2) (x3 := x3) cp_sheet3_4 rfl rfl (List.cons_ne_nil _ _) (List.cons_ne_nil _ _) (fun _ h => absurd h List.not_mem_nil) hh hj hR.1 hR.2.1 ⟨a1, a2, i32_b x3, trivial⟩ (pBd.cs (ty_88_1 hh hR).1 (ty_88_1 hh hR).2 (pBd.cs (ty_88_2 hh hR).1 (ty_88_2 hh hR).2 pBd.nl)) (fun e he => by cases he)
  exact ⟨r, r, h1, h2, q1, q2, q3, p1, p2, p3.1, p3.2, xj_fr hR.2.2 p4 (by decide +kernel)⟩
theorem lf_sheetl (x1 x2 x3 : Int32) (hh : HI HT h) (hj : JT h) (hR : RJ h) (a1 : (-2147483648) ≤ x1.toInt ∧ x1.toInt ≤ (-1)) : ∃ (r1 r2 : Int32) (h1 h2 : List pC), Run prog E pV1 120 mX7_sheet [.ref 0, .int x1, .int x2, .int x3] h (some (.int r1), h1, 0, 0) ∧ Run prog E pV1 120 mX8_sheet [.ref 110, .int x1, .int x2, .int x3] h1 (some (.int r2), h2, 0, 0) ∧ (∃ o, pobj h1 110 = some o ∧ o.1 = 8) ∧ HI HT h2 ∧ JT h2 ∧ RJ h2 := by
  obtain ⟨r, h1, h2, q1, q2, q3, p1, p2, p3, p4⟩ := pr_ok3 (E := E) (x1 := x1) (x2 := x2) (x3 := x3) cp_sheetl rfl rfl (List.cons_ne_nil _ _) (List.cons_ne_nil _ _) (fun _ h => absurd h List.not_mem_nil) hh hj hR.1 hR.2.1 ⟨a1, i32_b x2, i32_b x3, trivial⟩ pBd.nl (fun e he => by cases he)
  exact ⟨r, r, h1, h2, q1, q2, q3, p1, p2, p3.1, p3.2, xj_fr hR.2.2 p4 (by decide +kernel)⟩
theorem lf_sheeth (x1 x2 x3 : Int32) (hh : HI HT h) (hj : JT h) (hR : RJ h) (a1 : 4 ≤ x1.toInt ∧ x1.toInt ≤ 2147483647) : ∃ (r1 r2 : Int32) (h1 h2 : List pC), Run prog E pV1 120 mX7_sheet [.ref 0, .int x1, .int x2, .int x3] h (some (.int r1), h1, 0, 0) ∧ Run prog E pV1 120 mX8_sheet [.ref 110, .int x1, .int x2, .int x3] h1 (some (.int r2), h2, 0, 0) ∧ (∃ o, pobj h1 110 = some o ∧ o.1 = 8) ∧ HI HT h2 ∧ JT h2 ∧ RJ h2 := by
  obtain ⟨r, h1, h2, q1, q2, q3, p1, p2, p3, p4⟩ := pr_ok3 (E := E) (x1 := x1) (x2 := x2) (x3 := x3) cp_sheeth rfl rfl (List.cons_ne_nil _ _) (List.cons_ne_nil _ _) (fun _ h => absurd h List.not_mem_nil) hh hj hR.1 hR.2.1 ⟨a1, i32_b x2, i32_b x3, trivial⟩ pBd.nl (fun e he => by cases he)
  exact ⟨r, r, h1, h2, q1, q2, q3, p1, p2, p3.1, p3.2, xj_fr hR.2.2 p4 (by decide +kernel)⟩
theorem lw_sheet (x1 x2 x3 : Int32) (hh : HI HT h) (hj : JT h) (hR : RJ h) : ∃ (r1 r2 : Int32) (h1 h2 : List pC), Run prog E pV1 120 mX7_sheet [.ref 0, .int x1, .int x2, .int x3] h (some (.int r1), h1, 0, 0) ∧ Run prog E pV1 120 mX8_sheet [.ref 110, .int x1, .int x2, .int x3] h1 (some (.int r2), h2, 0, 0) ∧ (∃ o, pobj h1 110 = some o ∧ o.1 = 8) ∧ HI HT h2 ∧ JT h2 ∧ RJ h2 := by
  have ex1 := i32_b x1
  have ex2 := i32_b x2
  have ex3 := i32_b x3
  have t82_1 := ty_82_1 hh hR
  have t82_2 := ty_82_2 hh hR
  have t84_1 := ty_84_1 hh hR
  have t84_2 := ty_84_2 hh hR
  have t86_1 := ty_86_1 hh hR
  have t86_2 := ty_86_2 hh hR
  have t88_1 := ty_88_1 hh hR
  have t88_2 := ty_88_2 hh hR
  by_cases c1 : x1.toInt ≤ (-1)
  · exact lf_sheetl x1 x2 x3 hh hj hR ⟨by omega, by omega⟩
  by_cases c2 : x1.toInt ≤ 0
  · by_cases c3 : x2.toInt ≤ (-2)
    · exact lf_sheet0_0 x1 x2 x3 hh hj hR ⟨by omega, by omega⟩ ⟨by omega, by omega⟩
    by_cases c4 : x2.toInt ≤ (-1)
    · exact lf_sheet0_1 x1 x2 x3 hh hj hR ⟨by omega, by omega⟩ ⟨by omega, by omega⟩
    by_cases c5 : x2.toInt ≤ 0
    · exact lf_sheet0_2 x1 x2 x3 hh hj hR ⟨by omega, by omega⟩ ⟨by omega, by omega⟩
    by_cases c6 : x2.toInt ≤ 1
    · exact lf_sheet0_3 x1 x2 x3 hh hj hR ⟨by omega, by omega⟩ ⟨by omega, by omega⟩
    exact lf_sheet0_4 x1 x2 x3 hh hj hR ⟨by omega, by omega⟩ ⟨by omega, by omega⟩
  by_cases c7 : x1.toInt ≤ 1
  · by_cases c8 : x2.toInt ≤ (-2)
    · exact lf_sheet1_0 x1 x2 x3 hh hj hR ⟨by omega, by omega⟩ ⟨by omega, by omega⟩
    by_cases c9 : x2.toInt ≤ (-1)
    · exact lf_sheet1_1 x1 x2 x3 hh hj hR ⟨by omega, by omega⟩ ⟨by omega, by omega⟩
    by_cases c10 : x2.toInt ≤ 0
    · exact lf_sheet1_2 x1 x2 x3 hh hj hR ⟨by omega, by omega⟩ ⟨by omega, by omega⟩
    by_cases c11 : x2.toInt ≤ 1
    · exact lf_sheet1_3 x1 x2 x3 hh hj hR ⟨by omega, by omega⟩ ⟨by omega, by omega⟩
    exact lf_sheet1_4 x1 x2 x3 hh hj hR ⟨by omega, by omega⟩ ⟨by omega, by omega⟩
  by_cases c12 : x1.toInt ≤ 2
  · by_cases c13 : x2.toInt ≤ (-2)
    · exact lf_sheet2_0 x1 x2 x3 hh hj hR ⟨by omega, by omega⟩ ⟨by omega, by omega⟩
    by_cases c14 : x2.toInt ≤ (-1)
    · exact lf_sheet2_1 x1 x2 x3 hh hj hR ⟨by omega, by omega⟩ ⟨by omega, by omega⟩
    by_cases c15 : x2.toInt ≤ 0
    · exact lf_sheet2_2 x1 x2 x3 hh hj hR ⟨by omega, by omega⟩ ⟨by omega, by omega⟩
    by_cases c16 : x2.toInt ≤ 1
    · exact lf_sheet2_3 x1 x2 x3 hh hj hR ⟨by omega, by omega⟩ ⟨by omega, by omega⟩
    exact lf_sheet2_4 x1 x2 x3 hh hj hR ⟨by omega, by omega⟩ ⟨by omega, by omega⟩
  by_cases c17 : x1.toInt ≤ 3
  · by_cases c18 : x2.toInt ≤ (-2)
    · exact lf_sheet3_0 x1 x2 x3 hh hj hR ⟨by omega, by omega⟩ ⟨by omega, by omega⟩
    by_cases c19 : x2.toInt ≤ (-1)
    · exact lf_sheet3_1 x1 x2 x3 hh hj hR ⟨by omega, by omega⟩ ⟨by omega, by omega⟩
    by_cases c20 : x2.toInt ≤ 0
    · exact lf_sheet3_2 x1 x2 x3 hh hj hR ⟨by omega, by omega⟩ ⟨by omega, by omega⟩
    by_cases c21 : x2.toInt ≤ 1
    · exact lf_sheet3_3 x1 x2 x3 hh hj hR ⟨by omega, by omega⟩ ⟨by omega, by omega⟩
    exact lf_sheet3_4 x1 x2 x3 hh hj hR ⟨by omega, by omega⟩ ⟨by omega, by omega⟩
  exact lf_sheeth x1 x2 x3 hh hj hR ⟨by omega, by omega⟩
theorem lf_mark0 (x1 x2 x3 : Int32) (hh : HI HT h) (hj : JT h) (hR : RJ h) (a1 : 0 ≤ x1.toInt ∧ x1.toInt ≤ 0) : ∃ (r : Int32) (h1 h2 : List pC), Run prog E pV1 120 mX7_mark [.ref 0, .int x1, .int x2, .int x3] h (some (.int r), h1, 0, 0) ∧ Run prog E pV1 120 mX8_mark [.ref 110, .int x1, .int x2, .int x3] h1 (some (.int r), h2, 0, 0) ∧ (∃ o, pobj h1 110 = some o ∧ o.1 = 8) ∧ HI HT h2 ∧ JT h2 ∧ RJ h2 := by
  obtain ⟨r, h1, h2, q1, q2, q3, p1, p2, p3, p4⟩ := pr_ok3 (E := E) (x1 := x1) (x2 := x2) (x3 := x3) cp_mark0 rfl rfl (List.cons_ne_nil _ _) (List.cons_ne_nil _ _) (fun _ h => absurd h List.not_mem_nil) hh hj hR.1 hR.2.1 ⟨a1, i32_b x2, i32_b x3, trivial⟩ (pBd.cs (ty_82_1 hh hR).1 (ty_82_1 hh hR).2 (pBd.cs (ty_82_2 hh hR).1 (ty_82_2 hh hR).2 pBd.nl)) (fun e he => by cases he)
  exact ⟨r, h1, h2, q1, q2, q3, p1, p2, p3.1, p3.2, xj_fr hR.2.2 p4 (by decide +kernel)⟩
theorem lf_mark1 (x1 x2 x3 : Int32) (hh : HI HT h) (hj : JT h) (hR : RJ h) (a1 : 1 ≤ x1.toInt ∧ x1.toInt ≤ 1) : ∃ (r : Int32) (h1 h2 : List pC), Run prog E pV1 120 mX7_mark [.ref 0, .int x1, .int x2, .int x3] h (some (.int r), h1, 0, 0) ∧ Run prog E pV1 120 mX8_mark [.ref 110, .int x1, .int x2, .int x3] h1 (some (.int r), h2, 0, 0) ∧ (∃ o, pobj h1 110 = some o ∧ o.1 = 8) ∧ HI HT h2 ∧ JT h2 ∧ RJ h2 := by
  obtain ⟨r, h1, h2, q1, q2, q3, p1, p2, p3, p4⟩ := pr_ok3 (E := E) (x1 := x1) (x2 := x2) (x3 := x3) cp_mark1 rfl rfl (List.cons_ne_nil _ _) (List.cons_ne_nil _ _) (fun _ h => absurd h List.not_mem_nil) hh hj hR.1 hR.2.1 ⟨a1, i32_b x2, i32_b x3, trivial⟩ (pBd.cs (ty_84_1 hh hR).1 (ty_84_1 hh hR).2 (pBd.cs (ty_84_2 hh hR).1 (ty_84_2 hh hR).2 pBd.nl)) (fun e he => by cases he)
  exact ⟨r, h1, h2, q1, q2, q3, p1, p2, p3.1, p3.2, xj_fr hR.2.2 p4 (by decide +kernel)⟩
theorem lf_mark2 (x1 x2 x3 : Int32) (hh : HI HT h) (hj : JT h) (hR : RJ h) (a1 : 2 ≤ x1.toInt ∧ x1.toInt ≤ 2) : ∃ (r : Int32) (h1 h2 : List pC), Run prog E pV1 120 mX7_mark [.ref 0, .int x1, .int x2, .int x3] h (some (.int r), h1, 0, 0) ∧ Run prog E pV1 120 mX8_mark [.ref 110, .int x1, .int x2, .int x3] h1 (some (.int r), h2, 0, 0) ∧ (∃ o, pobj h1 110 = some o ∧ o.1 = 8) ∧ HI HT h2 ∧ JT h2 ∧ RJ h2 := by
  obtain ⟨r, h1, h2, q1, q2, q3, p1, p2, p3, p4⟩ := pr_ok3 (E := E) (x1 := x1) (x2 := x2) (x3 := x3) cp_mark2 rfl rfl (List.cons_ne_nil _ _) (List.cons_ne_nil _ _) (fun _ h => absurd h List.not_mem_nil) hh hj hR.1 hR.2.1 ⟨a1, i32_b x2, i32_b x3, trivial⟩ (pBd.cs (ty_86_1 hh hR).1 (ty_86_1 hh hR).2 (pBd.cs (ty_86_2 hh hR).1 (ty_86_2 hh hR).2 pBd.nl)) (fun e he => by cases he)
  exact ⟨r, h1, h2, q1, q2, q3, p1, p2, p3.1, p3.2, xj_fr hR.2.2 p4 (by decide +kernel)⟩
theorem lf_mark3 (x1 x2 x3 : Int32) (hh : HI HT h) (hj : JT h) (hR : RJ h) (a1 : 3 ≤ x1.toInt ∧ x1.toInt ≤ 3) : ∃ (r : Int32) (h1 h2 : List pC), Run prog E pV1 120 mX7_mark [.ref 0, .int x1, .int x2, .int x3] h (some (.int r), h1, 0, 0) ∧ Run prog E pV1 120 mX8_mark [.ref 110, .int x1, .int x2, .int x3] h1 (some (.int r), h2, 0, 0) ∧ (∃ o, pobj h1 110 = some o ∧ o.1 = 8) ∧ HI HT h2 ∧ JT h2 ∧ RJ h2 := by
  obtain ⟨r, h1, h2, q1, q2, q3, p1, p2, p3, p4⟩ := pr_ok3 (E := E) (x1 := x1) (x2 := x2) (x3 := x3) cp_mark3 rfl rfl (List.cons_ne_nil _ _) (List.cons_ne_nil _ _) (fun _ h => absurd h List.not_mem_nil) hh hj hR.1 hR.2.1 ⟨a1, i32_b x2, i32_b x3, trivial⟩ (pBd.cs (ty_88_1 hh hR).1 (ty_88_1 hh hR).2 (pBd.cs (ty_88_2 hh hR).1 (ty_88_2 hh hR).2 pBd.nl)) (fun e he => by cases he)
  exact ⟨r, h1, h2, q1, q2, q3, p1, p2, p3.1, p3.2, xj_fr hR.2.2 p4 (by decide +kernel)⟩
theorem lf_markl (x1 x2 x3 : Int32) (hh : HI HT h) (hj : JT h) (hR : RJ h) (a1 : (-2147483648) ≤ x1.toInt ∧ x1.toInt ≤ (-1)) : ∃ (r : Int32) (h1 h2 : List pC), Run prog E pV1 120 mX7_mark [.ref 0, .int x1, .int x2, .int x3] h (some (.int r), h1, 0, 0) ∧ Run prog E pV1 120 mX8_mark [.ref 110, .int x1, .int x2, .int x3] h1 (some (.int r), h2, 0, 0) ∧ (∃ o, pobj h1 110 = some o ∧ o.1 = 8) ∧ HI HT h2 ∧ JT h2 ∧ RJ h2 := by
  obtain ⟨r, h1, h2, q1, q2, q3, p1, p2, p3, p4⟩ := pr_ok3 (E := E) (x1 := x1) (x2 := x2) (x3 := x3) cp_markl rfl rfl (List.cons_ne_nil _ _) (List.cons_ne_nil _ _) (fun _ h => absurd h List.not_mem_nil) hh hj hR.1 hR.2.1 ⟨a1, i32_b x2, i32_b x3, trivial⟩ pBd.nl (fun e he => by cases he)
  exact ⟨r, h1, h2, q1, q2, q3, p1, p2, p3.1, p3.2, xj_fr hR.2.2 p4 (by decide +kernel)⟩
theorem lf_markh (x1 x2 x3 : Int32) (hh : HI HT h) (hj : JT h) (hR : RJ h) (a1 : 4 ≤ x1.toInt ∧ x1.toInt ≤ 2147483647) : ∃ (r : Int32) (h1 h2 : List pC), Run prog E pV1 120 mX7_mark [.ref 0, .int x1, .int x2, .int x3] h (some (.int r), h1, 0, 0) ∧ Run prog E pV1 120 mX8_mark [.ref 110, .int x1, .int x2, .int x3] h1 (some (.int r), h2, 0, 0) ∧ (∃ o, pobj h1 110 = some o ∧ o.1 = 8) ∧ HI HT h2 ∧ JT h2 ∧ RJ h2 := by
  obtain ⟨r, h1, h2, q1, q2, q3, p1, p2, p3, p4⟩ := pr_ok3 (E := E) (x1 := x1) (x2 := x2) (x3 := x3) cp_markh rfl rfl (List.cons_ne_nil _ _) (List.cons_ne_nil _ _) (fun _ h => absurd h List.not_mem_nil) hh hj hR.1 hR.2.1 ⟨a1, i32_b x2, i32_b x3, trivial⟩ pBd.nl (fun e he => by cases he)
  exact ⟨r, h1, h2, q1, q2, q3, p1, p2, p3.1, p3.2, xj_fr hR.2.2 p4 (by decide +kernel)⟩
theorem lw_mark (x1 x2 x3 : Int32) (hh : HI HT h) (hj : JT h) (hR : RJ h) : ∃ (r : Int32) (h1 h2 : List pC), Run prog E pV1 120 mX7_mark [.ref 0, .int x1, .int x2, .int x3] h (some (.int r), h1, 0, 0) ∧ Run prog E pV1 120 mX8_mark [.ref 110, .int x1, .int x2, .int x3] h1 (some (.int r), h2, 0, 0) ∧ (∃ o, pobj h1 110 = some o ∧ o.1 = 8) ∧ HI HT h2 ∧ JT h2 ∧ RJ h2 := by
  have ex1 := i32_b x1
  have ex2 := i32_b x2
  have ex3 := i32_b x3
  have t82_1 := ty_82_1 hh hR
  have t82_2 := ty_82_2 hh hR
  have t84_1 := ty_84_1 hh hR
  have t84_2 := ty_84_2 hh hR
  have t86_1 := ty_86_1 hh hR
  have t86_2 := ty_86_2 hh hR
  have t88_1 := ty_88_1 hh hR
  have t88_2 := ty_88_2 hh hR
  by_cases c1 : x1.toInt ≤ (-1)
  · exact lf_markl x1 x2 x3 hh hj hR ⟨by omega, by omega⟩
  by_cases c2 : x1.toInt ≤ 0
  · exact lf_mark0 x1 x2 x3 hh hj hR ⟨by omega, by omega⟩
  by_cases c3 : x1.toInt ≤ 1
  · exact lf_mark1 x1 x2 x3 hh hj hR ⟨by omega, by omega⟩
  by_cases c4 : x1.toInt ≤ 2
  · exact lf_mark2 x1 x2 x3 hh hj hR ⟨by omega, by omega⟩
  by_cases c5 : x1.toInt ≤ 3
  · exact lf_mark3 x1 x2 x3 hh hj hR ⟨by omega, by omega⟩
  exact lf_markh x1 x2 x3 hh hj hR ⟨by omega, by omega⟩
theorem lw_pour (x1 : Int32) (hh : HI HT h) (hj : JT h) (hR : RJ h) : ∃ (r1 r2 : Int32) (h1 h2 : List pC), Run prog E pV1 120 mX7_pour [.ref 0, .int x1] h (some (.int r1), h1, 0, 0) ∧ Run prog E pV1 120 mX8_pour [.ref 110, .int x1] h1 (some (.int r2), h2, 0, 0) ∧ (∃ o, pobj h1 110 = some o ∧ o.1 = 8) ∧ HI HT h2 ∧ JT h2 ∧ RJ h2 := by
  obtain ⟨r1, h1, q1, hh1, f1, hj1⟩ := pub_of (E := E) (a := 0) (kg_c_pour JT_P hands) (N := mX7_pour) rfl (List.cons_ne_nil _ _) [x1] rfl (fun q => by cases q) (Nat.le_of_ble_eq_true rfl) hh hj
  obtain ⟨r2, h2, q2, hh2, f2, hj2⟩ := pub_of (E := E) (a := 110) (kg_r_pour JT_P hands) (N := mX8_pour) rfl (List.cons_ne_nil _ _) [x1] rfl (fun q => by cases q) (Nat.le_of_ble_eq_true rfl) hh1 hj1
  exact ⟨r1, r2, h1, h2, q1, q2, mobj hh1, hh2, hj2, ⟨pRel_fr (pRel_fr hR.1 f1 (by decide +kernel)) f2 (by decide +kernel), cRel_fr (cRel_fr hR.2.1 f1 (by decide +kernel)) f2 (by decide +kernel), xj_fr (xj_fr hR.2.2 f1 (by decide +kernel)) f2 (by decide +kernel)⟩⟩
theorem lw_reads (x1 : Int32) (hh : HI HT h) (hj : JT h) (hR : RJ h) : ∃ (r1 r2 : Int32) (h1 h2 : List pC), Run prog E pV1 120 mX7_reads [.ref 0, .int x1] h (some (.int r1), h1, 0, 0) ∧ Run prog E pV1 120 mX8_reads [.ref 110, .int x1] h1 (some (.int r2), h2, 0, 0) ∧ (∃ o, pobj h1 110 = some o ∧ o.1 = 8) ∧ HI HT h2 ∧ JT h2 ∧ RJ h2 := by
  obtain ⟨r1, h1, q1, hh1, f1, hj1⟩ := pub_of (E := E) (a := 0) (kg_c_reads JT_P hands) (N := mX7_reads) rfl (List.cons_ne_nil _ _) [x1] rfl (fun q => by cases q) (Nat.le_of_ble_eq_true rfl) hh hj
  obtain ⟨r2, h2, q2, hh2, f2, hj2⟩ := pub_of (E := E) (a := 110) (kg_r_reads JT_P hands) (N := mX8_reads) rfl (List.cons_ne_nil _ _) [x1] rfl (fun q => by cases q) (Nat.le_of_ble_eq_true rfl) hh1 hj1
  exact ⟨r1, r2, h1, h2, q1, q2, mobj hh1, hh2, hj2, ⟨pRel_fr (pRel_fr hR.1 f1 (by decide +kernel)) f2 (by decide +kernel), cRel_fr (cRel_fr hR.2.1 f1 (by decide +kernel)) f2 (by decide +kernel), xj_fr (xj_fr hR.2.2 f1 (by decide +kernel)) f2 (by decide +kernel)⟩⟩
theorem lw_copy (x1 x2 x3 x4 x5 : Int32) (hh : HI HT h) (hj : JT h) (hR : RJ h) : ∃ (r1 r2 : Int32) (h1 h2 : List pC), Run prog E pV1 120 mX7_copy [.ref 0, .int x1, .int x2, .int x3, .int x4, .int x5] h (some (.int r1), h1, 0, 0) ∧ Run prog E pV1 120 mX8_copy [.ref 110, .int x1, .int x2, .int x3, .int x4, .int x5] h1 (some (.int r2), h2, 0, 0) ∧ (∃ o, pobj h1 110 = some o ∧ o.1 = 8) ∧ HI HT h2 ∧ JT h2 ∧ RJ h2 := by
  obtain ⟨r1, h1, q1, hh1, f1, hj1⟩ := pub_of (E := E) (a := 0) (kg_c_copyF) (N := mX7_copy) rfl (List.cons_ne_nil _ _) [x1, x2, x3, x4, x5] rfl (fun q => by cases q) (Nat.le_of_ble_eq_true rfl) hh hj
  obtain ⟨r2, h2, q2, hh2, f2, hj2⟩ := pub_of (E := E) (a := 110) hd_copy (N := mX8_copy) rfl (List.cons_ne_nil _ _) [x1, x2, x3, x4, x5] rfl (fun q => by cases q) (Nat.le_of_ble_eq_true rfl) hh1 hj1
  exact ⟨r1, r2, h1, h2, q1, q2, mobj hh1, hh2, hj2, ⟨pRel_fr (pRel_fr hR.1 f1 (by decide +kernel)) f2 (by decide +kernel), cRel_fr (cRel_fr hR.2.1 f1 (by decide +kernel)) f2 (by decide +kernel), xj_fr (xj_fr hR.2.2 f1 (by decide +kernel)) f2 (by decide +kernel)⟩⟩
theorem lw_lay (x1 x2 x3 : Int32) (hh : HI HT h) (hj : JT h) (hR : RJ h) : ∃ (r1 r2 : Int32) (h1 h2 : List pC), Run prog E pV1 120 mX7_lay [.ref 0, .int x1, .int x2, .int x3] h (some (.int r1), h1, 0, 0) ∧ Run prog E pV1 120 mX8_lay [.ref 110, .int x1, .int x2, .int x3] h1 (some (.int r2), h2, 0, 0) ∧ (∃ o, pobj h1 110 = some o ∧ o.1 = 8) ∧ HI HT h2 ∧ JT h2 ∧ RJ h2 := by
  obtain ⟨r1, h1, q1, hh1, f1, hj1⟩ := pub_of (E := E) (a := 0) (kg_c_lay JT_P hands) (N := mX7_lay) rfl (List.cons_ne_nil _ _) [x1, x2, x3] rfl (fun q => by cases q) (Nat.le_of_ble_eq_true rfl) hh hj
  obtain ⟨r2, h2, q2, hh2, f2, hj2⟩ := pub_of (E := E) (a := 110) (kg_r_lay JT_P hands) (N := mX8_lay) rfl (List.cons_ne_nil _ _) [x1, x2, x3] rfl (fun q => by cases q) (Nat.le_of_ble_eq_true rfl) hh1 hj1
  exact ⟨r1, r2, h1, h2, q1, q2, mobj hh1, hh2, hj2, ⟨pRel_fr (pRel_fr hR.1 f1 (by decide +kernel)) f2 (by decide +kernel), cRel_fr (cRel_fr hR.2.1 f1 (by decide +kernel)) f2 (by decide +kernel), xj_fr (xj_fr hR.2.2 f1 (by decide +kernel)) f2 (by decide +kernel)⟩⟩
theorem lw_ask (x1 x2 : Int32) (hh : HI HT h) (hj : JT h) (hR : RJ h) : ∃ (r1 r2 : Int32) (h1 h2 : List pC), Run prog E pV1 120 mX7_ask [.ref 0, .int x1, .int x2] h (some (.int r1), h1, 0, 0) ∧ Run prog E pV1 120 mX8_ask [.ref 110, .int x1, .int x2] h1 (some (.int r2), h2, 0, 0) ∧ (∃ o, pobj h1 110 = some o ∧ o.1 = 8) ∧ HI HT h2 ∧ JT h2 ∧ RJ h2 := by
  obtain ⟨r1, h1, q1, hh1, f1, hj1⟩ := pub_of (E := E) (a := 0) (kg_c_ask JT_P hands) (N := mX7_ask) rfl (List.cons_ne_nil _ _) [x1, x2] rfl (fun q => by cases q) (Nat.le_of_ble_eq_true rfl) hh hj
  obtain ⟨r2, h2, q2, hh2, f2, hj2⟩ := pub_of (E := E) (a := 110) (kg_r_ask JT_P hands) (N := mX8_ask) rfl (List.cons_ne_nil _ _) [x1, x2] rfl (fun q => by cases q) (Nat.le_of_ble_eq_true rfl) hh1 hj1
  exact ⟨r1, r2, h1, h2, q1, q2, mobj hh1, hh2, hj2, ⟨pRel_fr (pRel_fr hR.1 f1 (by decide +kernel)) f2 (by decide +kernel), cRel_fr (cRel_fr hR.2.1 f1 (by decide +kernel)) f2 (by decide +kernel), xj_fr (xj_fr hR.2.2 f1 (by decide +kernel)) f2 (by decide +kernel)⟩⟩
theorem lw_item (x1 x2 : Int32) (hh : HI HT h) (hj : JT h) (hR : RJ h) : ∃ (r1 r2 : Int32) (h1 h2 : List pC), Run prog E pV1 120 mX7_item [.ref 0, .int x1, .int x2] h (some (.int r1), h1, 0, 0) ∧ Run prog E pV1 120 mX8_item [.ref 110, .int x1, .int x2] h1 (some (.int r2), h2, 0, 0) ∧ (∃ o, pobj h1 110 = some o ∧ o.1 = 8) ∧ HI HT h2 ∧ JT h2 ∧ RJ h2 := by
  obtain ⟨r1, h1, q1, hh1, f1, hj1⟩ := pub_of (E := E) (a := 0) (kg_c_item JT_P hands) (N := mX7_item) rfl (List.cons_ne_nil _ _) [x1, x2] rfl (fun q => by cases q) (Nat.le_of_ble_eq_true rfl) hh hj
  obtain ⟨r2, h2, q2, hh2, f2, hj2⟩ := pub_of (E := E) (a := 110) (kg_r_item JT_P hands) (N := mX8_item) rfl (List.cons_ne_nil _ _) [x1, x2] rfl (fun q => by cases q) (Nat.le_of_ble_eq_true rfl) hh1 hj1
  exact ⟨r1, r2, h1, h2, q1, q2, mobj hh1, hh2, hj2, ⟨pRel_fr (pRel_fr hR.1 f1 (by decide +kernel)) f2 (by decide +kernel), cRel_fr (cRel_fr hR.2.1 f1 (by decide +kernel)) f2 (by decide +kernel), xj_fr (xj_fr hR.2.2 f1 (by decide +kernel)) f2 (by decide +kernel)⟩⟩
theorem lw_rest (x1 x2 : Int32) (hh : HI HT h) (hj : JT h) (hR : RJ h) : ∃ (r1 r2 : Int32) (h1 h2 : List pC), Run prog E pV1 120 mX7_rest [.ref 0, .int x1, .int x2] h (some (.int r1), h1, 0, 0) ∧ Run prog E pV1 120 mX8_rest [.ref 110, .int x1, .int x2] h1 (some (.int r2), h2, 0, 0) ∧ (∃ o, pobj h1 110 = some o ∧ o.1 = 8) ∧ HI HT h2 ∧ JT h2 ∧ RJ h2 := by
  obtain ⟨r1, h1, q1, hh1, f1, hj1⟩ := pub_of (E := E) (a := 0) (kg_c_rest JT_P hands) (N := mX7_rest) rfl (List.cons_ne_nil _ _) [x1, x2] rfl (fun q => by cases q) (Nat.le_of_ble_eq_true rfl) hh hj
  obtain ⟨r2, h2, q2, hh2, f2, hj2⟩ := pub_of (E := E) (a := 110) (kg_r_rest JT_P hands) (N := mX8_rest) rfl (List.cons_ne_nil _ _) [x1, x2] rfl (fun q => by cases q) (Nat.le_of_ble_eq_true rfl) hh1 hj1
  exact ⟨r1, r2, h1, h2, q1, q2, mobj hh1, hh2, hj2, ⟨pRel_fr (pRel_fr hR.1 f1 (by decide +kernel)) f2 (by decide +kernel), cRel_fr (cRel_fr hR.2.1 f1 (by decide +kernel)) f2 (by decide +kernel), xj_fr (xj_fr hR.2.2 f1 (by decide +kernel)) f2 (by decide +kernel)⟩⟩
theorem lw_tell (x1 : Int32) (hh : HI HT h) (hj : JT h) (hR : RJ h) : ∃ (r1 r2 : Int32) (h1 h2 : List pC), Run prog E pV1 120 mX7_tell [.ref 0, .int x1] h (some (.int r1), h1, 0, 0) ∧ Run prog E pV1 120 mX8_tell [.ref 110, .int x1] h1 (some (.int r2), h2, 0, 0) ∧ (∃ o, pobj h1 110 = some o ∧ o.1 = 8) ∧ HI HT h2 ∧ JT h2 ∧ RJ h2 := by
  obtain ⟨r1, h1, q1, hh1, f1, hj1⟩ := pub_of (E := E) (a := 0) (kg_c_tell JT_P hands) (N := mX7_tell) rfl (List.cons_ne_nil _ _) [x1] rfl (fun q => by cases q) (Nat.le_of_ble_eq_true rfl) hh hj
  obtain ⟨r2, h2, q2, hh2, f2, hj2⟩ := pub_of (E := E) (a := 110) (kg_r_tell JT_P hands) (N := mX8_tell) rfl (List.cons_ne_nil _ _) [x1] rfl (fun q => by cases q) (Nat.le_of_ble_eq_true rfl) hh1 hj1
  exact ⟨r1, r2, h1, h2, q1, q2, mobj hh1, hh2, hj2, ⟨pRel_fr (pRel_fr hR.1 f1 (by decide +kernel)) f2 (by decide +kernel), cRel_fr (cRel_fr hR.2.1 f1 (by decide +kernel)) f2 (by decide +kernel), xj_fr (xj_fr hR.2.2 f1 (by decide +kernel)) f2 (by decide +kernel)⟩⟩
theorem lw_check (x1 : Int32) (hh : HI HT h) (hj : JT h) (hR : RJ h) : ∃ (r1 r2 : Int32) (h1 h2 : List pC), Run prog E pV1 120 mX7_check [.ref 0, .int x1] h (some (.int r1), h1, 0, 0) ∧ Run prog E pV1 120 mX8_check [.ref 110, .int x1] h1 (some (.int r2), h2, 0, 0) ∧ (∃ o, pobj h1 110 = some o ∧ o.1 = 8) ∧ HI HT h2 ∧ JT h2 ∧ RJ h2 := by
  obtain ⟨r1, h1, q1, hh1, f1, hj1⟩ := pub_of (E := E) (a := 0) (kg_c_check JT_P hands) (N := mX7_check) rfl (List.cons_ne_nil _ _) [x1] rfl (fun q => by cases q) (Nat.le_of_ble_eq_true rfl) hh hj
  obtain ⟨r2, h2, q2, hh2, f2, hj2⟩ := pub_of (E := E) (a := 110) (hd_check hands) (N := mX8_check) rfl (List.cons_ne_nil _ _) [x1] rfl (fun q => by cases q) (Nat.le_of_ble_eq_true rfl) hh1 hj1
  exact ⟨r1, r2, h1, h2, q1, q2, mobj hh1, hh2, hj2, ⟨pRel_fr (pRel_fr hR.1 f1 (by decide +kernel)) f2 (by decide +kernel), cRel_fr (cRel_fr hR.2.1 f1 (by decide +kernel)) f2 (by decide +kernel), xj_fr (xj_fr hR.2.2 f1 (by decide +kernel)) f2 (by decide +kernel)⟩⟩
theorem lw_keep (hh : HI HT h) (hj : JT h) (hR : RJ h) : ∃ (r1 r2 : Int32) (h1 h2 : List pC), Run prog E pV1 120 mX7_keep [.ref 0] h (some (.int r1), h1, 0, 0) ∧ Run prog E pV1 120 mX8_keep [.ref 110] h1 (some (.int r2), h2, 0, 0) ∧ (∃ o, pobj h1 110 = some o ∧ o.1 = 8) ∧ HI HT h2 ∧ JT h2 ∧ RJ h2 := by
  obtain ⟨r1, h1, q1, hh1, f1, hj1⟩ := pub_of (E := E) (a := 0) (kg_c_keep JT_P hands) (N := mX7_keep) rfl (List.cons_ne_nil _ _) [] rfl (fun q => by cases q) (Nat.le_of_ble_eq_true rfl) hh hj
  obtain ⟨r2, h2, q2, hh2, f2, hj2⟩ := pub_of (E := E) (a := 110) hd_keep (N := mX8_keep) rfl (List.cons_ne_nil _ _) [] rfl (fun q => by cases q) (Nat.le_of_ble_eq_true rfl) hh1 hj1
  exact ⟨r1, r2, h1, h2, q1, q2, mobj hh1, hh2, hj2, ⟨pRel_fr (pRel_fr hR.1 f1 (by decide +kernel)) f2 (by decide +kernel), cRel_fr (cRel_fr hR.2.1 f1 (by decide +kernel)) f2 (by decide +kernel), xj_fr (xj_fr hR.2.2 f1 (by decide +kernel)) f2 (by decide +kernel)⟩⟩
theorem lw_back (hh : HI HT h) (hj : JT h) (hR : RJ h) : ∃ (r1 r2 : Int32) (h1 h2 : List pC), Run prog E pV1 120 mX7_back [.ref 0] h (some (.int r1), h1, 0, 0) ∧ Run prog E pV1 120 mX8_back [.ref 110] h1 (some (.int r2), h2, 0, 0) ∧ (∃ o, pobj h1 110 = some o ∧ o.1 = 8) ∧ HI HT h2 ∧ JT h2 ∧ RJ h2 := by
  obtain ⟨r1, h1, q1, hh1, f1, hj1⟩ := pub_of (E := E) (a := 0) (kg_c_back JT_P hands) (N := mX7_back) rfl (List.cons_ne_nil _ _) [] rfl (fun q => by cases q) (Nat.le_of_ble_eq_true rfl) hh hj
  obtain ⟨r2, h2, q2, hh2, f2, hj2⟩ := pub_of (E := E) (a := 110) hd_back (N := mX8_back) rfl (List.cons_ne_nil _ _) [] rfl (fun q => by cases q) (Nat.le_of_ble_eq_true rfl) hh1 hj1
  exact ⟨r1, r2, h1, h2, q1, q2, mobj hh1, hh2, hj2, ⟨pRel_fr (pRel_fr hR.1 f1 (by decide +kernel)) f2 (by decide +kernel), cRel_fr (cRel_fr hR.2.1 f1 (by decide +kernel)) f2 (by decide +kernel), xj_fr (xj_fr hR.2.2 f1 (by decide +kernel)) f2 (by decide +kernel)⟩⟩
theorem lw_count (x1 : Int32) (hh : HI HT h) (hj : JT h) (hR : RJ h) : ∃ (r1 r2 : Int32) (h1 h2 : List pC), Run prog E pV1 120 mX7_count [.ref 0, .int x1] h (some (.int r1), h1, 0, 0) ∧ Run prog E pV1 120 mX8_count [.ref 110, .int x1] h1 (some (.int r2), h2, 0, 0) ∧ (∃ o, pobj h1 110 = some o ∧ o.1 = 8) ∧ HI HT h2 ∧ JT h2 ∧ RJ h2 := by
  obtain ⟨r1, h1, q1, hh1, f1, hj1⟩ := pub_of (E := E) (a := 0) (kg_c_count JT_P hands) (N := mX7_count) rfl (List.cons_ne_nil _ _) [x1] rfl (fun q => by cases q) (Nat.le_of_ble_eq_true rfl) hh hj
  obtain ⟨r2, h2, q2, hh2, f2, hj2⟩ := pub_of (E := E) (a := 110) (kg_r_count JT_P hands) (N := mX8_count) rfl (List.cons_ne_nil _ _) [x1] rfl (fun q => by cases q) (Nat.le_of_ble_eq_true rfl) hh1 hj1
  exact ⟨r1, r2, h1, h2, q1, q2, mobj hh1, hh2, hj2, ⟨pRel_fr (pRel_fr hR.1 f1 (by decide +kernel)) f2 (by decide +kernel), cRel_fr (cRel_fr hR.2.1 f1 (by decide +kernel)) f2 (by decide +kernel), xj_fr (xj_fr hR.2.2 f1 (by decide +kernel)) f2 (by decide +kernel)⟩⟩
end LWS
