/-! ===== what each pair of calls does, and what stays alike (printed by program) ===== -/
def RL : List pq := [((5, 82, 1), (0, 114, 0), (-1), 1), ((5, 84, 1), (0, 114, 1), (-1), 1), ((5, 86, 1), (0, 114, 2), (-1), 1), ((5, 88, 1), (0, 114, 3), (-1), 1), ((5, 82, 2), (0, 115, 0), 0, 24), ((5, 84, 2), (0, 115, 1), 0, 24), ((5, 86, 2), (0, 115, 2), 0, 24), ((5, 88, 2), (0, 115, 3), 0, 24)]
def RLt : List pq := [((5, 88, 1), (0, 114, 3), (-1), 1), ((5, 82, 2), (0, 115, 0), 0, 24), ((5, 84, 2), (0, 115, 1), 0, 24), ((5, 86, 2), (0, 115, 2), 0, 24), ((5, 88, 2), (0, 115, 3), 0, 24)]
def RLu : List pq := [((5, 84, 1), (0, 114, 1), (-1), 1), ((5, 86, 1), (0, 114, 2), (-1), 1), ((5, 88, 1), (0, 114, 3), (-1), 1), ((5, 82, 2), (0, 115, 0), 0, 24), ((5, 84, 2), (0, 115, 1), 0, 24), ((5, 86, 2), (0, 115, 2), 0, 24), ((5, 88, 2), (0, 115, 3), 0, 24)]
def CL : List cq := []
/-- what is kept beside -/
def XJ (_ : List pC) : Prop := True
def xjW (_ : aW) : Bool := true
theorem xj_fr {W : aW} {h h' : List pC} (hx : XJ h) (_ : Fr W h h') (_ : xjW W = true) : XJ h' := hx
theorem xj0 : XJ h0 := trivial
def RJ (h : List pC) : Prop := pRel RL h ∧ cRel CL h ∧ XJ h
theorem rj0 : RJ h0 := ⟨fun q hq => of_decide_eq_true (List.all_eq_true.mp (show RL.all (fun q => decide (ri h0 q.1.2.1 q.1.2.2 = ri h0 q.2.1.2.1 q.2.1.2.2)) = true by decide +kernel) q hq), fun c hc b1 b2 => of_decide_eq_true (List.all_eq_true.mp (show CL.all (fun c => decide (c.2.1 ≤ (ri h0 c.1.2.1 c.1.2.2).toInt → (ri h0 c.1.2.1 c.1.2.2).toInt ≤ c.2.2.1 → ri h0 c.2.2.2.1.2.1 c.2.2.2.1.2.2 = ri h0 c.2.2.2.2.1.2.1 c.2.2.2.2.1.2.2)) = true by decide +kernel) c hc) b1 b2, xj0⟩
theorem i32_b (v : Int32) : -2147483648 ≤ v.toInt ∧ v.toInt ≤ 2147483647 := ⟨i32_lo v, i32_hi v⟩
theorem args_top : ∀ (xs : List Int32), argsG (xs.map Value.int) (List.replicate xs.length (.inl (-2147483648, 2147483647)))
  | [] => trivial
  | x :: xs => ⟨⟨x, rfl, i32_lo x, i32_hi x⟩, args_top xs⟩
/-- what a public method does, from its contract -/
theorem pub_of {E : pX} {i a : Nat} {c : aK} (hk : KGi E pV1 JT i c) {N : pM} (hN : prog[i]? = some N) (hc : m_code N ≠ []) (xs : List Int32) (h1 : c.1 = .inr (false, [a]) :: List.replicate xs.length (.inl (-2147483648, 2147483647))) (h2 : c.2.1 ≠ none) (h3 : c.2.2.2 ≤ 120) {h : List pC} (hh : HI HT h) (hj : JT h) : ∃ (r : Int32) (h' : List pC), Run prog E pV1 120 N (.ref a :: xs.map Value.int) h (some (.int r), h', 0, 0) ∧ HI HT h' ∧ Fr c.2.2.1 h h' ∧ JT h' := by
  obtain ⟨r, h', q, hr, hh', hf, hj'⟩ := hk N hN 120 h3 (.ref a :: xs.map Value.int) h (by rw [h1]; exact ⟨Or.inr ⟨a, List.mem_singleton.mpr rfl, rfl⟩, args_top xs⟩) hh hj
  obtain ⟨z, hz⟩ : ∃ z, c.2.1 = some z := by
    cases e : c.2.1 with
    | none => exact absurd e h2
    | some z => exact ⟨z, rfl⟩
  rw [hz] at hr
  obtain ⟨v, rfl, -⟩ := (show ∃ v : Int32, r = some (.int v) ∧ z.1 ≤ v.toInt ∧ v.toInt ≤ z.2 from hr)
  rcases q with q | q
  · exact ⟨v, h', q, hh', hf, hj'⟩
  · exact absurd q.1 hc
theorem cobj {h : List pC} (hh : HI HT h) : ∃ o, pobj h 0 = some o ∧ o.1 = 7 := by
  obtain ⟨fs, ho, -⟩ := hi_obj hh (a := 0) rfl
  exact ⟨_, ho, rfl⟩
def k_c_markF : aK := ([.inr (false, [0]), .inl ((-2147483648), 2147483647), .inl ((-2147483648), 2147483647), .inl ((-2147483648), 2147483647)], some ((-2147483648), 2147483647), [(83, 83, 0, 23), (85, 85, 0, 23), (87, 87, 0, 23), (89, 89, 0, 23)], 50)
def tb_c_markF : aTb := fun mi i => none
def kc_c_markF : List (Nat × aK) := [(48, k_covers), (50, k_sayAt), (44, k_value), (54, k_gainOver), (55, k_loss), (56, k_worth), (49, k_covered), (57, k_joined), (58, k_clashes), (70, k_falsehood34), (71, k_trustOfAll34), (72, k_laidSet34), (73, k_coveredBy34), (77, k_deniers34), (80, k_gainOf34), (78, k_flow34), (75, k_noteClashes), (76, k_anyClash)]
set_option maxRecDepth 100000 in
set_option maxHeartbeats 40000000 in
theorem ck_c_markF : kchk prog HT kc_c_markF tb_c_markF 94 118 k_c_markF = true := by decide +kernel
theorem kg_c_markF {E : pX} : KGi E pV1 JT 118 k_c_markF := kgi_of JT_P (by decide) ck_c_markF (by unfold kc_c_markF; exact (List.forall_mem_cons.mpr ⟨kg_covers JT_P hands, (List.forall_mem_cons.mpr ⟨kg_sayAt JT_P hands, (List.forall_mem_cons.mpr ⟨kg_value JT_P hands, (List.forall_mem_cons.mpr ⟨kg_gainOver JT_P hands, (List.forall_mem_cons.mpr ⟨kg_loss JT_P hands, (List.forall_mem_cons.mpr ⟨kg_worth JT_P hands, (List.forall_mem_cons.mpr ⟨kg_covered JT_P hands, (List.forall_mem_cons.mpr ⟨kg_joined JT_P hands, (List.forall_mem_cons.mpr ⟨kg_clashes JT_P hands, (List.forall_mem_cons.mpr ⟨kg_falsehood34 JT_P hands, (List.forall_mem_cons.mpr ⟨kg_trustOfAll34 JT_P hands, (List.forall_mem_cons.mpr ⟨kg_laidSet34 JT_P hands, (List.forall_mem_cons.mpr ⟨kg_coveredBy34 JT_P hands, (List.forall_mem_cons.mpr ⟨kg_deniers34 JT_P hands, (List.forall_mem_cons.mpr ⟨kg_gainOf34 JT_P hands, (List.forall_mem_cons.mpr ⟨kg_flow34 JT_P hands, (List.forall_mem_cons.mpr ⟨kg_noteClashes JT_P hands, (List.forall_mem_cons.mpr ⟨kg_anyClash JT_P hands, (fun _ h => absurd h List.not_mem_nil)⟩)⟩)⟩)⟩)⟩)⟩)⟩)⟩)⟩)⟩)⟩)⟩)⟩)⟩)⟩)⟩)⟩)⟩))
def k_r_markF : aK := ([.inr (false, [110]), .inl ((-2147483648), 2147483647), .inl ((-2147483648), 2147483647), .inl ((-2147483648), 2147483647)], some ((-2147483648), 2147483647), [(116, 116, 0, 95)], 50)
def tb_r_markF : aTb := fun mi i => none
def kc_r_markF : List (Nat × aK) := [(158, k_m_saysAt), (160, k_m_loses), (161, k_m_worth), (163, k_m_covers), (222, k_m_counts), (159, k_m_gains), (147, k_m_manyIn), (175, k_m_falseOf), (178, k_m_joinBy), (180, k_m_doClash), (182, k_m_laidOnes), (183, k_m_coveredBy), (184, k_m_findClashing), (185, k_m_areAtPeace), (188, k_m_otherwiseAt), (193, k_m_allTrust), (190, k_m_goesOn), (191, k_m_goesOnMany)]
set_option maxRecDepth 100000 in
set_option maxHeartbeats 40000000 in
theorem ck_r_markF : kchk prog HT kc_r_markF tb_r_markF 98 228 k_r_markF = true := by decide +kernel
theorem kg_r_markF {E : pX} : KGi E pV1 JT 228 k_r_markF := kgi_of JT_P (by decide) ck_r_markF (by unfold kc_r_markF; exact (List.forall_mem_cons.mpr ⟨kg_m_saysAt JT_P hands, (List.forall_mem_cons.mpr ⟨kg_m_loses JT_P hands, (List.forall_mem_cons.mpr ⟨kg_m_worth JT_P hands, (List.forall_mem_cons.mpr ⟨kg_m_covers JT_P hands, (List.forall_mem_cons.mpr ⟨kg_m_counts JT_P hands, (List.forall_mem_cons.mpr ⟨kg_m_gains hands, (List.forall_mem_cons.mpr ⟨kg_m_manyIn hands, (List.forall_mem_cons.mpr ⟨kg_m_falseOf JT_P hands, (List.forall_mem_cons.mpr ⟨kg_m_joinBy JT_P hands, (List.forall_mem_cons.mpr ⟨kg_m_doClash JT_P hands, (List.forall_mem_cons.mpr ⟨kg_m_laidOnes JT_P hands, (List.forall_mem_cons.mpr ⟨kg_m_coveredBy JT_P hands, (List.forall_mem_cons.mpr ⟨kg_m_findClashing JT_P hands, (List.forall_mem_cons.mpr ⟨kg_m_areAtPeace JT_P hands, (List.forall_mem_cons.mpr ⟨kg_m_otherwiseAt JT_P hands, (List.forall_mem_cons.mpr ⟨kg_m_allTrust JT_P hands, (List.forall_mem_cons.mpr ⟨kg_m_goesOn JT_P hands, (List.forall_mem_cons.mpr ⟨kg_m_goesOnMany JT_P hands, (fun _ h => absurd h List.not_mem_nil)⟩)⟩)⟩)⟩)⟩)⟩)⟩)⟩)⟩)⟩)⟩)⟩)⟩)⟩)⟩)⟩)⟩)⟩))
def tp_sheet0_0 : aTb := fun mi i => if mi = 227 ∧ i = 38 then some ([(0, 2147483647, .inl 4)], [], [], [(116, 116, 0, 95)], 0, true) else none
def rp_sheet0_0 : List pq := [((5, 82, 1), (0, 114, 0), (-1), 1), ((5, 82, 2), (0, 115, 0), 0, 24)]
set_option maxRecDepth 100000 in
set_option maxHeartbeats 40000000 in
theorem cp_sheet0_0 : prchk RL CL rp_sheet0_0 [(82, 82, 1, 2), (83, 83, 0, 23), (114, 114, 0, 0), (115, 115, 0, 0), (116, 116, 0, 23)] [] tp_sheet0_0 82 117 227 3 [(0, 0), ((-2147483648), (-2)), ((-2147483648), 2147483647)] [] = true := by decide +kernel
def tp_sheet0_1 : aTb := fun mi i => if mi = 227 ∧ i = 38 then some ([(0, 2147483647, .inl 4)], [], [], [(116, 116, 0, 95)], 0, true) else none
def rp_sheet0_1 : List pq := [((5, 82, 1), (0, 114, 0), (-1), 1), ((5, 82, 2), (0, 115, 0), 0, 24)]
set_option maxRecDepth 100000 in
set_option maxHeartbeats 40000000 in
theorem cp_sheet0_1 : prchk RL CL rp_sheet0_1 [(82, 82, 1, 2), (83, 83, 0, 23), (114, 114, 0, 0), (115, 115, 0, 0), (116, 116, 0, 23)] [] tp_sheet0_1 366 117 227 3 [(0, 0), ((-1), (-1)), ((-2147483648), 2147483647)] [] = true := by decide +kernel
def tp_sheet0_2 : aTb := fun mi i => if mi = 227 ∧ i = 38 then some ([(0, 2147483647, .inl 4)], [], [], [(116, 116, 0, 95)], 0, true) else none
def rp_sheet0_2 : List pq := [((5, 82, 1), (0, 114, 0), (-1), 1), ((5, 82, 2), (0, 115, 0), 0, 24)]
set_option maxRecDepth 100000 in
set_option maxHeartbeats 40000000 in
theorem cp_sheet0_2 : prchk RL CL rp_sheet0_2 [(82, 82, 1, 2), (83, 83, 0, 23), (114, 114, 0, 0), (115, 115, 0, 0), (116, 116, 0, 23)] [] tp_sheet0_2 375 117 227 3 [(0, 0), (0, 0), ((-2147483648), 2147483647)] [] = true := by decide +kernel
def tp_sheet0_3 : aTb := fun mi i => if mi = 227 ∧ i = 38 then some ([(0, 2147483647, .inl 4)], [], [], [(116, 116, 0, 95)], 0, true) else none
def rp_sheet0_3 : List pq := [((5, 82, 1), (0, 114, 0), (-1), 1), ((5, 82, 2), (0, 115, 0), 0, 24)]
set_option maxRecDepth 100000 in
set_option maxHeartbeats 40000000 in
theorem cp_sheet0_3 : prchk RL CL rp_sheet0_3 [(82, 82, 1, 2), (83, 83, 0, 23), (114, 114, 0, 0), (115, 115, 0, 0), (116, 116, 0, 23)] [] tp_sheet0_3 375 117 227 3 [(0, 0), (1, 1), ((-2147483648), 2147483647)] [] = true := by decide +kernel
def tp_sheet0_4 : aTb := fun mi i => if mi = 227 ∧ i = 38 then some ([(0, 2147483647, .inl 4)], [], [], [(116, 116, 0, 95)], 0, true) else none
def rp_sheet0_4 : List pq := [((5, 82, 1), (0, 114, 0), (-1), 1), ((5, 82, 2), (0, 115, 0), 0, 24)]
set_option maxRecDepth 100000 in
set_option maxHeartbeats 40000000 in
theorem cp_sheet0_4 : prchk RL CL rp_sheet0_4 [(82, 82, 1, 2), (83, 83, 0, 23), (114, 114, 0, 0), (115, 115, 0, 0), (116, 116, 0, 23)] [] tp_sheet0_4 89 117 227 3 [(0, 0), (2, 2147483647), ((-2147483648), 2147483647)] [] = true := by decide +kernel
def tp_sheet1_0 : aTb := fun mi i => if mi = 227 ∧ i = 38 then some ([(0, 2147483647, .inl 4)], [], [], [(116, 116, 0, 95)], 0, true) else none
def rp_sheet1_0 : List pq := [((5, 84, 1), (0, 114, 1), (-1), 1), ((5, 84, 2), (0, 115, 1), 0, 24)]
set_option maxRecDepth 100000 in
set_option maxHeartbeats 40000000 in
theorem cp_sheet1_0 : prchk RL CL rp_sheet1_0 [(84, 84, 1, 2), (85, 85, 0, 23), (114, 114, 1, 1), (115, 115, 1, 1), (116, 116, 24, 47)] [] tp_sheet1_0 82 117 227 3 [(1, 1), ((-2147483648), (-2)), ((-2147483648), 2147483647)] [] = true := by decide +kernel
def tp_sheet1_1 : aTb := fun mi i => if mi = 227 ∧ i = 38 then some ([(0, 2147483647, .inl 4)], [], [], [(116, 116, 0, 95)], 0, true) else none
def rp_sheet1_1 : List pq := [((5, 84, 1), (0, 114, 1), (-1), 1), ((5, 84, 2), (0, 115, 1), 0, 24)]
set_option maxRecDepth 100000 in
set_option maxHeartbeats 40000000 in
theorem cp_sheet1_1 : prchk RL CL rp_sheet1_1 [(84, 84, 1, 2), (85, 85, 0, 23), (114, 114, 1, 1), (115, 115, 1, 1), (116, 116, 24, 47)] [] tp_sheet1_1 366 117 227 3 [(1, 1), ((-1), (-1)), ((-2147483648), 2147483647)] [] = true := by decide +kernel
def tp_sheet1_2 : aTb := fun mi i => if mi = 227 ∧ i = 38 then some ([(0, 2147483647, .inl 4)], [], [], [(116, 116, 0, 95)], 0, true) else none
def rp_sheet1_2 : List pq := [((5, 84, 1), (0, 114, 1), (-1), 1), ((5, 84, 2), (0, 115, 1), 0, 24)]
set_option maxRecDepth 100000 in
set_option maxHeartbeats 40000000 in
theorem cp_sheet1_2 : prchk RL CL rp_sheet1_2 [(84, 84, 1, 2), (85, 85, 0, 23), (114, 114, 1, 1), (115, 115, 1, 1), (116, 116, 24, 47)] [] tp_sheet1_2 375 117 227 3 [(1, 1), (0, 0), ((-2147483648), 2147483647)] [] = true := by decide +kernel
def tp_sheet1_3 : aTb := fun mi i => if mi = 227 ∧ i = 38 then some ([(0, 2147483647, .inl 4)], [], [], [(116, 116, 0, 95)], 0, true) else none
def rp_sheet1_3 : List pq := [((5, 84, 1), (0, 114, 1), (-1), 1), ((5, 84, 2), (0, 115, 1), 0, 24)]
set_option maxRecDepth 100000 in
set_option maxHeartbeats 40000000 in
theorem cp_sheet1_3 : prchk RL CL rp_sheet1_3 [(84, 84, 1, 2), (85, 85, 0, 23), (114, 114, 1, 1), (115, 115, 1, 1), (116, 116, 24, 47)] [] tp_sheet1_3 375 117 227 3 [(1, 1), (1, 1), ((-2147483648), 2147483647)] [] = true := by decide +kernel
def tp_sheet1_4 : aTb := fun mi i => if mi = 227 ∧ i = 38 then some ([(0, 2147483647, .inl 4)], [], [], [(116, 116, 0, 95)], 0, true) else none
def rp_sheet1_4 : List pq := [((5, 84, 1), (0, 114, 1), (-1), 1), ((5, 84, 2), (0, 115, 1), 0, 24)]
set_option maxRecDepth 100000 in
set_option maxHeartbeats 40000000 in
theorem cp_sheet1_4 : prchk RL CL rp_sheet1_4 [(84, 84, 1, 2), (85, 85, 0, 23), (114, 114, 1, 1), (115, 115, 1, 1), (116, 116, 24, 47)] [] tp_sheet1_4 89 117 227 3 [(1, 1), (2, 2147483647), ((-2147483648), 2147483647)] [] = true := by decide +kernel
def tp_sheet2_0 : aTb := fun mi i => if mi = 227 ∧ i = 38 then some ([(0, 2147483647, .inl 4)], [], [], [(116, 116, 0, 95)], 0, true) else none
def rp_sheet2_0 : List pq := [((5, 86, 1), (0, 114, 2), (-1), 1), ((5, 86, 2), (0, 115, 2), 0, 24)]
set_option maxRecDepth 100000 in
set_option maxHeartbeats 40000000 in
theorem cp_sheet2_0 : prchk RL CL rp_sheet2_0 [(86, 86, 1, 2), (87, 87, 0, 23), (114, 114, 2, 2), (115, 115, 2, 2), (116, 116, 48, 71)] [] tp_sheet2_0 82 117 227 3 [(2, 2), ((-2147483648), (-2)), ((-2147483648), 2147483647)] [] = true := by decide +kernel
def tp_sheet2_1 : aTb := fun mi i => if mi = 227 ∧ i = 38 then some ([(0, 2147483647, .inl 4)], [], [], [(116, 116, 0, 95)], 0, true) else none
def rp_sheet2_1 : List pq := [((5, 86, 1), (0, 114, 2), (-1), 1), ((5, 86, 2), (0, 115, 2), 0, 24)]
set_option maxRecDepth 100000 in
set_option maxHeartbeats 40000000 in
theorem cp_sheet2_1 : prchk RL CL rp_sheet2_1 [(86, 86, 1, 2), (87, 87, 0, 23), (114, 114, 2, 2), (115, 115, 2, 2), (116, 116, 48, 71)] [] tp_sheet2_1 366 117 227 3 [(2, 2), ((-1), (-1)), ((-2147483648), 2147483647)] [] = true := by decide +kernel
def tp_sheet2_2 : aTb := fun mi i => if mi = 227 ∧ i = 38 then some ([(0, 2147483647, .inl 4)], [], [], [(116, 116, 0, 95)], 0, true) else none
def rp_sheet2_2 : List pq := [((5, 86, 1), (0, 114, 2), (-1), 1), ((5, 86, 2), (0, 115, 2), 0, 24)]
set_option maxRecDepth 100000 in
set_option maxHeartbeats 40000000 in
theorem cp_sheet2_2 : prchk RL CL rp_sheet2_2 [(86, 86, 1, 2), (87, 87, 0, 23), (114, 114, 2, 2), (115, 115, 2, 2), (116, 116, 48, 71)] [] tp_sheet2_2 375 117 227 3 [(2, 2), (0, 0), ((-2147483648), 2147483647)] [] = true := by decide +kernel
def tp_sheet2_3 : aTb := fun mi i => if mi = 227 ∧ i = 38 then some ([(0, 2147483647, .inl 4)], [], [], [(116, 116, 0, 95)], 0, true) else none
def rp_sheet2_3 : List pq := [((5, 86, 1), (0, 114, 2), (-1), 1), ((5, 86, 2), (0, 115, 2), 0, 24)]
set_option maxRecDepth 100000 in
set_option maxHeartbeats 40000000 in
theorem cp_sheet2_3 : prchk RL CL rp_sheet2_3 [(86, 86, 1, 2), (87, 87, 0, 23), (114, 114, 2, 2), (115, 115, 2, 2), (116, 116, 48, 71)] [] tp_sheet2_3 375 117 227 3 [(2, 2), (1, 1), ((-2147483648), 2147483647)] [] = true := by decide +kernel
def tp_sheet2_4 : aTb := fun mi i => if mi = 227 ∧ i = 38 then some ([(0, 2147483647, .inl 4)], [], [], [(116, 116, 0, 95)], 0, true) else none
def rp_sheet2_4 : List pq := [((5, 86, 1), (0, 114, 2), (-1), 1), ((5, 86, 2), (0, 115, 2), 0, 24)]
set_option maxRecDepth 100000 in
set_option maxHeartbeats 40000000 in
theorem cp_sheet2_4 : prchk RL CL rp_sheet2_4 [(86, 86, 1, 2), (87, 87, 0, 23), (114, 114, 2, 2), (115, 115, 2, 2), (116, 116, 48, 71)] [] tp_sheet2_4 89 117 227 3 [(2, 2), (2, 2147483647), ((-2147483648), 2147483647)] [] = true := by decide +kernel
def tp_sheet3_0 : aTb := fun mi i => if mi = 227 ∧ i = 38 then some ([(0, 2147483647, .inl 4)], [], [], [(116, 116, 0, 95)], 0, true) else none
def rp_sheet3_0 : List pq := [((5, 88, 1), (0, 114, 3), (-1), 1), ((5, 88, 2), (0, 115, 3), 0, 24)]
set_option maxRecDepth 100000 in
set_option maxHeartbeats 40000000 in
theorem cp_sheet3_0 : prchk RL CL rp_sheet3_0 [(88, 88, 1, 2), (89, 89, 0, 23), (114, 114, 3, 3), (115, 115, 3, 3), (116, 116, 72, 95)] [] tp_sheet3_0 82 117 227 3 [(3, 3), ((-2147483648), (-2)), ((-2147483648), 2147483647)] [] = true := by decide +kernel
def tp_sheet3_1 : aTb := fun mi i => if mi = 227 ∧ i = 38 then some ([(0, 2147483647, .inl 4)], [], [], [(116, 116, 0, 95)], 0, true) else none
def rp_sheet3_1 : List pq := [((5, 88, 1), (0, 114, 3), (-1), 1), ((5, 88, 2), (0, 115, 3), 0, 24)]
set_option maxRecDepth 100000 in
set_option maxHeartbeats 40000000 in
theorem cp_sheet3_1 : prchk RL CL rp_sheet3_1 [(88, 88, 1, 2), (89, 89, 0, 23), (114, 114, 3, 3), (115, 115, 3, 3), (116, 116, 72, 95)] [] tp_sheet3_1 366 117 227 3 [(3, 3), ((-1), (-1)), ((-2147483648), 2147483647)] [] = true := by decide +kernel
def tp_sheet3_2 : aTb := fun mi i => if mi = 227 ∧ i = 38 then some ([(0, 2147483647, .inl 4)], [], [], [(116, 116, 0, 95)], 0, true) else none
def rp_sheet3_2 : List pq := [((5, 88, 1), (0, 114, 3), (-1), 1), ((5, 88, 2), (0, 115, 3), 0, 24)]
set_option maxRecDepth 100000 in
set_option maxHeartbeats 40000000 in
theorem cp_sheet3_2 : prchk RL CL rp_sheet3_2 [(88, 88, 1, 2), (89, 89, 0, 23), (114, 114, 3, 3), (115, 115, 3, 3), (116, 116, 72, 95)] [] tp_sheet3_2 375 117 227 3 [(3, 3), (0, 0), ((-2147483648), 2147483647)] [] = true := by decide +kernel
def tp_sheet3_3 : aTb := fun mi i => if mi = 227 ∧ i = 38 then some ([(0, 2147483647, .inl 4)], [], [], [(116, 116, 0, 95)], 0, true) else none
def rp_sheet3_3 : List pq := [((5, 88, 1), (0, 114, 3), (-1), 1), ((5, 88, 2), (0, 115, 3), 0, 24)]
set_option maxRecDepth 100000 in
set_option maxHeartbeats 40000000 in
theorem cp_sheet3_3 : prchk RL CL rp_sheet3_3 [(88, 88, 1, 2), (89, 89, 0, 23), (114, 114, 3, 3), (115, 115, 3, 3), (116, 116, 72, 95)] [] tp_sheet3_3 375 117 227 3 [(3, 3), (1, 1), ((-2147483648), 2147483647)] [] = true := by decide +kernel
def tp_sheet3_4 : aTb := fun mi i => if mi = 227 ∧ i = 38 then some ([(0, 2147483647, .inl 4)], [], [], [(116, 116, 0, 95)], 0, true) else none
def rp_sheet3_4 : List pq := [((5, 88, 1), (0, 114, 3), (-1), 1), ((5, 88, 2), (0, 115, 3), 0, 24)]
set_option maxRecDepth 100000 in
set_option maxHeartbeats 40000000 in
theorem cp_sheet3_4 : prchk RL CL rp_sheet3_4 [(88, 88, 1, 2), (89, 89, 0, 23), (114, 114, 3, 3), (115, 115, 3, 3), (116, 116, 72, 95)] [] tp_sheet3_4 89 117 227 3 [(3, 3), (2, 2147483647), ((-2147483648), 2147483647)] [] = true := by decide +kernel
def tp_sheetl : aTb := fun mi i => none
def rp_sheetl : List pq := []
set_option maxRecDepth 100000 in
set_option maxHeartbeats 40000000 in
theorem cp_sheetl : prchk RL CL rp_sheetl [] [] tp_sheetl 46 117 227 3 [((-2147483648), (-1)), ((-2147483648), 2147483647), ((-2147483648), 2147483647)] [] = true := by decide +kernel
def tp_sheeth : aTb := fun mi i => none
def rp_sheeth : List pq := []
set_option maxRecDepth 100000 in
set_option maxHeartbeats 40000000 in
theorem cp_sheeth : prchk RL CL rp_sheeth [] [] tp_sheeth 55 117 227 3 [(4, 2147483647), ((-2147483648), 2147483647), ((-2147483648), 2147483647)] [] = true := by decide +kernel
def tp_copyA : aTb := fun mi i => none
def rp_copyA : List pq := []
set_option maxRecDepth 100000 in
set_option maxHeartbeats 40000000 in
theorem cp_copyA : prchk RL CL rp_copyA [] [] tp_copyA 67 121 232 5 [((-2147483648), (-1)), ((-2147483648), 2147483647), ((-2147483648), 2147483647), ((-2147483648), 2147483647), ((-2147483648), 2147483647)] [] = true := by decide +kernel
def tp_copyB : aTb := fun mi i => none
def rp_copyB : List pq := []
set_option maxRecDepth 100000 in
set_option maxHeartbeats 40000000 in
theorem cp_copyB : prchk RL CL rp_copyB [] [] tp_copyB 76 121 232 5 [(4, 2147483647), ((-2147483648), 2147483647), ((-2147483648), 2147483647), ((-2147483648), 2147483647), ((-2147483648), 2147483647)] [] = true := by decide +kernel
def tp_copyC0 : aTb := fun mi i => none
def rp_copyC0 : List pq := []
set_option maxRecDepth 100000 in
set_option maxHeartbeats 40000000 in
theorem cp_copyC0 : prchk RL CL rp_copyC0 [] [] tp_copyC0 89 121 232 5 [(0, 0), ((-2147483648), 2147483647), ((-2147483648), (-1)), ((-2147483648), 2147483647), ((-2147483648), 2147483647)] [] = true := by decide +kernel
def tp_copyC1 : aTb := fun mi i => none
def rp_copyC1 : List pq := []
set_option maxRecDepth 100000 in
set_option maxHeartbeats 40000000 in
theorem cp_copyC1 : prchk RL CL rp_copyC1 [] [] tp_copyC1 89 121 232 5 [(1, 1), ((-2147483648), 2147483647), ((-2147483648), (-1)), ((-2147483648), 2147483647), ((-2147483648), 2147483647)] [] = true := by decide +kernel
def tp_copyC2 : aTb := fun mi i => none
def rp_copyC2 : List pq := []
set_option maxRecDepth 100000 in
set_option maxHeartbeats 40000000 in
theorem cp_copyC2 : prchk RL CL rp_copyC2 [] [] tp_copyC2 89 121 232 5 [(2, 2), ((-2147483648), 2147483647), ((-2147483648), (-1)), ((-2147483648), 2147483647), ((-2147483648), 2147483647)] [] = true := by decide +kernel
def tp_copyC3 : aTb := fun mi i => none
def rp_copyC3 : List pq := []
set_option maxRecDepth 100000 in
set_option maxHeartbeats 40000000 in
theorem cp_copyC3 : prchk RL CL rp_copyC3 [] [] tp_copyC3 89 121 232 5 [(3, 3), ((-2147483648), 2147483647), ((-2147483648), (-1)), ((-2147483648), 2147483647), ((-2147483648), 2147483647)] [] = true := by decide +kernel
def tp_copyD0 : aTb := fun mi i => none
def rp_copyD0 : List pq := []
set_option maxRecDepth 100000 in
set_option maxHeartbeats 40000000 in
theorem cp_copyD0 : prchk RL CL rp_copyD0 [] [] tp_copyD0 98 121 232 5 [(0, 0), ((-2147483648), 2147483647), (4, 2147483647), ((-2147483648), 2147483647), ((-2147483648), 2147483647)] [] = true := by decide +kernel
def tp_copyD1 : aTb := fun mi i => none
def rp_copyD1 : List pq := []
set_option maxRecDepth 100000 in
set_option maxHeartbeats 40000000 in
theorem cp_copyD1 : prchk RL CL rp_copyD1 [] [] tp_copyD1 98 121 232 5 [(1, 1), ((-2147483648), 2147483647), (4, 2147483647), ((-2147483648), 2147483647), ((-2147483648), 2147483647)] [] = true := by decide +kernel
def tp_copyD2 : aTb := fun mi i => none
def rp_copyD2 : List pq := []
set_option maxRecDepth 100000 in
set_option maxHeartbeats 40000000 in
theorem cp_copyD2 : prchk RL CL rp_copyD2 [] [] tp_copyD2 98 121 232 5 [(2, 2), ((-2147483648), 2147483647), (4, 2147483647), ((-2147483648), 2147483647), ((-2147483648), 2147483647)] [] = true := by decide +kernel
def tp_copyD3 : aTb := fun mi i => none
def rp_copyD3 : List pq := []
set_option maxRecDepth 100000 in
set_option maxHeartbeats 40000000 in
theorem cp_copyD3 : prchk RL CL rp_copyD3 [] [] tp_copyD3 98 121 232 5 [(3, 3), ((-2147483648), 2147483647), (4, 2147483647), ((-2147483648), 2147483647), ((-2147483648), 2147483647)] [] = true := by decide +kernel
def tp_copy00n : aTb := fun mi i => none
def rp_copy00n : List pq := [((5, 82, 1), (0, 114, 0), (-1), (-1))]
set_option maxRecDepth 100000 in
set_option maxHeartbeats 40000000 in
theorem cp_copy00n : prchk RL CL rp_copy00n [] [] tp_copy00n 118 121 232 5 [(0, 0), ((-2147483648), 2147483647), (0, 0), ((-2147483648), 2147483647), ((-2147483648), 2147483647)] [] = true := by decide +kernel
def tp_copy01n : aTb := fun mi i => none
def rp_copy01n : List pq := [((5, 82, 1), (0, 114, 0), (-1), (-1)), ((5, 84, 1), (0, 114, 1), (-1), 1)]
set_option maxRecDepth 100000 in
set_option maxHeartbeats 40000000 in
theorem cp_copy01n : prchk RL CL rp_copy01n [] [] tp_copy01n 118 121 232 5 [(0, 0), ((-2147483648), 2147483647), (1, 1), ((-2147483648), 2147483647), ((-2147483648), 2147483647)] [] = true := by decide +kernel
def tp_copy01m0 : aTb := fun mi i => none
def rp_copy01m0 : List pq := [((5, 82, 1), (0, 114, 0), 0, 0), ((5, 84, 1), (0, 114, 1), (-1), (-1))]
set_option maxRecDepth 100000 in
set_option maxHeartbeats 40000000 in
theorem cp_copy01m0 : prchk RL CL rp_copy01m0 [] [] tp_copy01m0 132 121 232 5 [(0, 0), ((-2147483648), 2147483647), (1, 1), ((-2147483648), 2147483647), ((-2147483648), 2147483647)] [] = true := by decide +kernel
def tp_copy01k0 : aTb := fun mi i => none
def rp_copy01k0 : List pq := [((5, 82, 1), (0, 114, 0), 0, 0), ((5, 84, 1), (0, 114, 1), 1, 1)]
set_option maxRecDepth 100000 in
set_option maxHeartbeats 40000000 in
theorem cp_copy01k0 : prchk RL CL rp_copy01k0 [] [] tp_copy01k0 145 121 232 5 [(0, 0), ((-2147483648), 2147483647), (1, 1), ((-2147483648), 2147483647), ((-2147483648), 2147483647)] [] = true := by decide +kernel
def tp_copy01m1 : aTb := fun mi i => none
def rp_copy01m1 : List pq := [((5, 82, 1), (0, 114, 0), 1, 1), ((5, 84, 1), (0, 114, 1), (-1), (-1))]
set_option maxRecDepth 100000 in
set_option maxHeartbeats 40000000 in
theorem cp_copy01m1 : prchk RL CL rp_copy01m1 [] [] tp_copy01m1 132 121 232 5 [(0, 0), ((-2147483648), 2147483647), (1, 1), ((-2147483648), 2147483647), ((-2147483648), 2147483647)] [] = true := by decide +kernel
def tp_copy01k1 : aTb := fun mi i => none
def rp_copy01k1 : List pq := [((5, 82, 1), (0, 114, 0), 1, 1), ((5, 84, 1), (0, 114, 1), 0, 0)]
set_option maxRecDepth 100000 in
set_option maxHeartbeats 40000000 in
theorem cp_copy01k1 : prchk RL CL rp_copy01k1 [] [] tp_copy01k1 145 121 232 5 [(0, 0), ((-2147483648), 2147483647), (1, 1), ((-2147483648), 2147483647), ((-2147483648), 2147483647)] [] = true := by decide +kernel
def tp_copy02n : aTb := fun mi i => none
def rp_copy02n : List pq := [((5, 82, 1), (0, 114, 0), (-1), (-1)), ((5, 86, 1), (0, 114, 2), (-1), 1)]
set_option maxRecDepth 100000 in
set_option maxHeartbeats 40000000 in
theorem cp_copy02n : prchk RL CL rp_copy02n [] [] tp_copy02n 118 121 232 5 [(0, 0), ((-2147483648), 2147483647), (2, 2), ((-2147483648), 2147483647), ((-2147483648), 2147483647)] [] = true := by decide +kernel
def tp_copy02m0 : aTb := fun mi i => none
def rp_copy02m0 : List pq := [((5, 82, 1), (0, 114, 0), 0, 0), ((5, 86, 1), (0, 114, 2), (-1), (-1))]
set_option maxRecDepth 100000 in
set_option maxHeartbeats 40000000 in
theorem cp_copy02m0 : prchk RL CL rp_copy02m0 [] [] tp_copy02m0 132 121 232 5 [(0, 0), ((-2147483648), 2147483647), (2, 2), ((-2147483648), 2147483647), ((-2147483648), 2147483647)] [] = true := by decide +kernel
def tp_copy02k0 : aTb := fun mi i => none
def rp_copy02k0 : List pq := [((5, 82, 1), (0, 114, 0), 0, 0), ((5, 86, 1), (0, 114, 2), 1, 1)]
set_option maxRecDepth 100000 in
set_option maxHeartbeats 40000000 in
theorem cp_copy02k0 : prchk RL CL rp_copy02k0 [] [] tp_copy02k0 145 121 232 5 [(0, 0), ((-2147483648), 2147483647), (2, 2), ((-2147483648), 2147483647), ((-2147483648), 2147483647)] [] = true := by decide +kernel
def tp_copy02m1 : aTb := fun mi i => none
def rp_copy02m1 : List pq := [((5, 82, 1), (0, 114, 0), 1, 1), ((5, 86, 1), (0, 114, 2), (-1), (-1))]
set_option maxRecDepth 100000 in
set_option maxHeartbeats 40000000 in
theorem cp_copy02m1 : prchk RL CL rp_copy02m1 [] [] tp_copy02m1 132 121 232 5 [(0, 0), ((-2147483648), 2147483647), (2, 2), ((-2147483648), 2147483647), ((-2147483648), 2147483647)] [] = true := by decide +kernel
def tp_copy02k1 : aTb := fun mi i => none
def rp_copy02k1 : List pq := [((5, 82, 1), (0, 114, 0), 1, 1), ((5, 86, 1), (0, 114, 2), 0, 0)]
set_option maxRecDepth 100000 in
set_option maxHeartbeats 40000000 in
theorem cp_copy02k1 : prchk RL CL rp_copy02k1 [] [] tp_copy02k1 145 121 232 5 [(0, 0), ((-2147483648), 2147483647), (2, 2), ((-2147483648), 2147483647), ((-2147483648), 2147483647)] [] = true := by decide +kernel
def tp_copy03n : aTb := fun mi i => none
def rp_copy03n : List pq := [((5, 82, 1), (0, 114, 0), (-1), (-1)), ((5, 88, 1), (0, 114, 3), (-1), 1)]
set_option maxRecDepth 100000 in
set_option maxHeartbeats 40000000 in
theorem cp_copy03n : prchk RL CL rp_copy03n [] [] tp_copy03n 118 121 232 5 [(0, 0), ((-2147483648), 2147483647), (3, 3), ((-2147483648), 2147483647), ((-2147483648), 2147483647)] [] = true := by decide +kernel
def tp_copy03m0 : aTb := fun mi i => none
def rp_copy03m0 : List pq := [((5, 82, 1), (0, 114, 0), 0, 0), ((5, 88, 1), (0, 114, 3), (-1), (-1))]
set_option maxRecDepth 100000 in
set_option maxHeartbeats 40000000 in
theorem cp_copy03m0 : prchk RL CL rp_copy03m0 [] [] tp_copy03m0 132 121 232 5 [(0, 0), ((-2147483648), 2147483647), (3, 3), ((-2147483648), 2147483647), ((-2147483648), 2147483647)] [] = true := by decide +kernel
def tp_copy03k0 : aTb := fun mi i => none
def rp_copy03k0 : List pq := [((5, 82, 1), (0, 114, 0), 0, 0), ((5, 88, 1), (0, 114, 3), 1, 1)]
set_option maxRecDepth 100000 in
set_option maxHeartbeats 40000000 in
theorem cp_copy03k0 : prchk RL CL rp_copy03k0 [] [] tp_copy03k0 145 121 232 5 [(0, 0), ((-2147483648), 2147483647), (3, 3), ((-2147483648), 2147483647), ((-2147483648), 2147483647)] [] = true := by decide +kernel
def tp_copy03m1 : aTb := fun mi i => none
def rp_copy03m1 : List pq := [((5, 82, 1), (0, 114, 0), 1, 1), ((5, 88, 1), (0, 114, 3), (-1), (-1))]
set_option maxRecDepth 100000 in
set_option maxHeartbeats 40000000 in
theorem cp_copy03m1 : prchk RL CL rp_copy03m1 [] [] tp_copy03m1 132 121 232 5 [(0, 0), ((-2147483648), 2147483647), (3, 3), ((-2147483648), 2147483647), ((-2147483648), 2147483647)] [] = true := by decide +kernel
def tp_copy03k1 : aTb := fun mi i => none
def rp_copy03k1 : List pq := [((5, 82, 1), (0, 114, 0), 1, 1), ((5, 88, 1), (0, 114, 3), 0, 0)]
set_option maxRecDepth 100000 in
set_option maxHeartbeats 40000000 in
theorem cp_copy03k1 : prchk RL CL rp_copy03k1 [] [] tp_copy03k1 145 121 232 5 [(0, 0), ((-2147483648), 2147483647), (3, 3), ((-2147483648), 2147483647), ((-2147483648), 2147483647)] [] = true := by decide +kernel
def tp_copy10n : aTb := fun mi i => none
def rp_copy10n : List pq := [((5, 84, 1), (0, 114, 1), (-1), (-1)), ((5, 82, 1), (0, 114, 0), (-1), 1)]
set_option maxRecDepth 100000 in
set_option maxHeartbeats 40000000 in
theorem cp_copy10n : prchk RL CL rp_copy10n [] [] tp_copy10n 118 121 232 5 [(1, 1), ((-2147483648), 2147483647), (0, 0), ((-2147483648), 2147483647), ((-2147483648), 2147483647)] [] = true := by decide +kernel
def tp_copy10m0 : aTb := fun mi i => none
def rp_copy10m0 : List pq := [((5, 84, 1), (0, 114, 1), 0, 0), ((5, 82, 1), (0, 114, 0), (-1), (-1))]
set_option maxRecDepth 100000 in
set_option maxHeartbeats 40000000 in
theorem cp_copy10m0 : prchk RL CL rp_copy10m0 [] [] tp_copy10m0 132 121 232 5 [(1, 1), ((-2147483648), 2147483647), (0, 0), ((-2147483648), 2147483647), ((-2147483648), 2147483647)] [] = true := by decide +kernel
def tp_copy10k0 : aTb := fun mi i => none
def rp_copy10k0 : List pq := [((5, 84, 1), (0, 114, 1), 0, 0), ((5, 82, 1), (0, 114, 0), 1, 1)]
set_option maxRecDepth 100000 in
set_option maxHeartbeats 40000000 in
theorem cp_copy10k0 : prchk RL CL rp_copy10k0 [] [] tp_copy10k0 145 121 232 5 [(1, 1), ((-2147483648), 2147483647), (0, 0), ((-2147483648), 2147483647), ((-2147483648), 2147483647)] [] = true := by decide +kernel
def tp_copy10m1 : aTb := fun mi i => none
def rp_copy10m1 : List pq := [((5, 84, 1), (0, 114, 1), 1, 1), ((5, 82, 1), (0, 114, 0), (-1), (-1))]
set_option maxRecDepth 100000 in
set_option maxHeartbeats 40000000 in
theorem cp_copy10m1 : prchk RL CL rp_copy10m1 [] [] tp_copy10m1 132 121 232 5 [(1, 1), ((-2147483648), 2147483647), (0, 0), ((-2147483648), 2147483647), ((-2147483648), 2147483647)] [] = true := by decide +kernel
def tp_copy10k1 : aTb := fun mi i => none
def rp_copy10k1 : List pq := [((5, 84, 1), (0, 114, 1), 1, 1), ((5, 82, 1), (0, 114, 0), 0, 0)]
set_option maxRecDepth 100000 in
set_option maxHeartbeats 40000000 in
theorem cp_copy10k1 : prchk RL CL rp_copy10k1 [] [] tp_copy10k1 145 121 232 5 [(1, 1), ((-2147483648), 2147483647), (0, 0), ((-2147483648), 2147483647), ((-2147483648), 2147483647)] [] = true := by decide +kernel
def tp_copy11n : aTb := fun mi i => none
def rp_copy11n : List pq := [((5, 84, 1), (0, 114, 1), (-1), (-1))]
set_option maxRecDepth 100000 in
set_option maxHeartbeats 40000000 in
theorem cp_copy11n : prchk RL CL rp_copy11n [] [] tp_copy11n 118 121 232 5 [(1, 1), ((-2147483648), 2147483647), (1, 1), ((-2147483648), 2147483647), ((-2147483648), 2147483647)] [] = true := by decide +kernel
def tp_copy12n : aTb := fun mi i => none
def rp_copy12n : List pq := [((5, 84, 1), (0, 114, 1), (-1), (-1)), ((5, 86, 1), (0, 114, 2), (-1), 1)]
set_option maxRecDepth 100000 in
set_option maxHeartbeats 40000000 in
theorem cp_copy12n : prchk RL CL rp_copy12n [] [] tp_copy12n 118 121 232 5 [(1, 1), ((-2147483648), 2147483647), (2, 2), ((-2147483648), 2147483647), ((-2147483648), 2147483647)] [] = true := by decide +kernel
def tp_copy12m0 : aTb := fun mi i => none
def rp_copy12m0 : List pq := [((5, 84, 1), (0, 114, 1), 0, 0), ((5, 86, 1), (0, 114, 2), (-1), (-1))]
set_option maxRecDepth 100000 in
set_option maxHeartbeats 40000000 in
theorem cp_copy12m0 : prchk RL CL rp_copy12m0 [] [] tp_copy12m0 132 121 232 5 [(1, 1), ((-2147483648), 2147483647), (2, 2), ((-2147483648), 2147483647), ((-2147483648), 2147483647)] [] = true := by decide +kernel
def tp_copy12k0 : aTb := fun mi i => none
def rp_copy12k0 : List pq := [((5, 84, 1), (0, 114, 1), 0, 0), ((5, 86, 1), (0, 114, 2), 1, 1)]
set_option maxRecDepth 100000 in
set_option maxHeartbeats 40000000 in
theorem cp_copy12k0 : prchk RL CL rp_copy12k0 [] [] tp_copy12k0 145 121 232 5 [(1, 1), ((-2147483648), 2147483647), (2, 2), ((-2147483648), 2147483647), ((-2147483648), 2147483647)] [] = true := by decide +kernel
def tp_copy12m1 : aTb := fun mi i => none
def rp_copy12m1 : List pq := [((5, 84, 1), (0, 114, 1), 1, 1), ((5, 86, 1), (0, 114, 2), (-1), (-1))]
set_option maxRecDepth 100000 in
set_option maxHeartbeats 40000000 in
theorem cp_copy12m1 : prchk RL CL rp_copy12m1 [] [] tp_copy12m1 132 121 232 5 [(1, 1), ((-2147483648), 2147483647), (2, 2), ((-2147483648), 2147483647), ((-2147483648), 2147483647)] [] = true := by decide +kernel
def tp_copy12k1 : aTb := fun mi i => none
def rp_copy12k1 : List pq := [((5, 84, 1), (0, 114, 1), 1, 1), ((5, 86, 1), (0, 114, 2), 0, 0)]
set_option maxRecDepth 100000 in
set_option maxHeartbeats 40000000 in
theorem cp_copy12k1 : prchk RL CL rp_copy12k1 [] [] tp_copy12k1 145 121 232 5 [(1, 1), ((-2147483648), 2147483647), (2, 2), ((-2147483648), 2147483647), ((-2147483648), 2147483647)] [] = true := by decide +kernel
def tp_copy13n : aTb := fun mi i => none
def rp_copy13n : List pq := [((5, 84, 1), (0, 114, 1), (-1), (-1)), ((5, 88, 1), (0, 114, 3), (-1), 1)]
set_option maxRecDepth 100000 in
set_option maxHeartbeats 40000000 in
theorem cp_copy13n : prchk RL CL rp_copy13n [] [] tp_copy13n 118 121 232 5 [(1, 1), ((-2147483648), 2147483647), (3, 3), ((-2147483648), 2147483647), ((-2147483648), 2147483647)] [] = true := by decide +kernel
def tp_copy13m0 : aTb := fun mi i => none
def rp_copy13m0 : List pq := [((5, 84, 1), (0, 114, 1), 0, 0), ((5, 88, 1), (0, 114, 3), (-1), (-1))]
set_option maxRecDepth 100000 in
set_option maxHeartbeats 40000000 in
theorem cp_copy13m0 : prchk RL CL rp_copy13m0 [] [] tp_copy13m0 132 121 232 5 [(1, 1), ((-2147483648), 2147483647), (3, 3), ((-2147483648), 2147483647), ((-2147483648), 2147483647)] [] = true := by decide +kernel
def tp_copy13k0 : aTb := fun mi i => none
def rp_copy13k0 : List pq := [((5, 84, 1), (0, 114, 1), 0, 0), ((5, 88, 1), (0, 114, 3), 1, 1)]
set_option maxRecDepth 100000 in
set_option maxHeartbeats 40000000 in
theorem cp_copy13k0 : prchk RL CL rp_copy13k0 [] [] tp_copy13k0 145 121 232 5 [(1, 1), ((-2147483648), 2147483647), (3, 3), ((-2147483648), 2147483647), ((-2147483648), 2147483647)] [] = true := by decide +kernel
def tp_copy13m1 : aTb := fun mi i => none
def rp_copy13m1 : List pq := [((5, 84, 1), (0, 114, 1), 1, 1), ((5, 88, 1), (0, 114, 3), (-1), (-1))]
set_option maxRecDepth 100000 in
set_option maxHeartbeats 40000000 in
theorem cp_copy13m1 : prchk RL CL rp_copy13m1 [] [] tp_copy13m1 132 121 232 5 [(1, 1), ((-2147483648), 2147483647), (3, 3), ((-2147483648), 2147483647), ((-2147483648), 2147483647)] [] = true := by decide +kernel
def tp_copy13k1 : aTb := fun mi i => none
def rp_copy13k1 : List pq := [((5, 84, 1), (0, 114, 1), 1, 1), ((5, 88, 1), (0, 114, 3), 0, 0)]
set_option maxRecDepth 100000 in
set_option maxHeartbeats 40000000 in
theorem cp_copy13k1 : prchk RL CL rp_copy13k1 [] [] tp_copy13k1 145 121 232 5 [(1, 1), ((-2147483648), 2147483647), (3, 3), ((-2147483648), 2147483647), ((-2147483648), 2147483647)] [] = true := by decide +kernel
def tp_copy20n : aTb := fun mi i => none
def rp_copy20n : List pq := [((5, 86, 1), (0, 114, 2), (-1), (-1)), ((5, 82, 1), (0, 114, 0), (-1), 1)]
set_option maxRecDepth 100000 in
set_option maxHeartbeats 40000000 in
theorem cp_copy20n : prchk RL CL rp_copy20n [] [] tp_copy20n 118 121 232 5 [(2, 2), ((-2147483648), 2147483647), (0, 0), ((-2147483648), 2147483647), ((-2147483648), 2147483647)] [] = true := by decide +kernel
def tp_copy20m0 : aTb := fun mi i => none
def rp_copy20m0 : List pq := [((5, 86, 1), (0, 114, 2), 0, 0), ((5, 82, 1), (0, 114, 0), (-1), (-1))]
set_option maxRecDepth 100000 in
set_option maxHeartbeats 40000000 in
theorem cp_copy20m0 : prchk RL CL rp_copy20m0 [] [] tp_copy20m0 132 121 232 5 [(2, 2), ((-2147483648), 2147483647), (0, 0), ((-2147483648), 2147483647), ((-2147483648), 2147483647)] [] = true := by decide +kernel
def tp_copy20k0 : aTb := fun mi i => none
def rp_copy20k0 : List pq := [((5, 86, 1), (0, 114, 2), 0, 0), ((5, 82, 1), (0, 114, 0), 1, 1)]
set_option maxRecDepth 100000 in
set_option maxHeartbeats 40000000 in
theorem cp_copy20k0 : prchk RL CL rp_copy20k0 [] [] tp_copy20k0 145 121 232 5 [(2, 2), ((-2147483648), 2147483647), (0, 0), ((-2147483648), 2147483647), ((-2147483648), 2147483647)] [] = true := by decide +kernel
def tp_copy20m1 : aTb := fun mi i => none
def rp_copy20m1 : List pq := [((5, 86, 1), (0, 114, 2), 1, 1), ((5, 82, 1), (0, 114, 0), (-1), (-1))]
set_option maxRecDepth 100000 in
set_option maxHeartbeats 40000000 in
theorem cp_copy20m1 : prchk RL CL rp_copy20m1 [] [] tp_copy20m1 132 121 232 5 [(2, 2), ((-2147483648), 2147483647), (0, 0), ((-2147483648), 2147483647), ((-2147483648), 2147483647)] [] = true := by decide +kernel
def tp_copy20k1 : aTb := fun mi i => none
def rp_copy20k1 : List pq := [((5, 86, 1), (0, 114, 2), 1, 1), ((5, 82, 1), (0, 114, 0), 0, 0)]
set_option maxRecDepth 100000 in
set_option maxHeartbeats 40000000 in
theorem cp_copy20k1 : prchk RL CL rp_copy20k1 [] [] tp_copy20k1 145 121 232 5 [(2, 2), ((-2147483648), 2147483647), (0, 0), ((-2147483648), 2147483647), ((-2147483648), 2147483647)] [] = true := by decide +kernel
def tp_copy21n : aTb := fun mi i => none
def rp_copy21n : List pq := [((5, 86, 1), (0, 114, 2), (-1), (-1)), ((5, 84, 1), (0, 114, 1), (-1), 1)]
set_option maxRecDepth 100000 in
set_option maxHeartbeats 40000000 in
theorem cp_copy21n : prchk RL CL rp_copy21n [] [] tp_copy21n 118 121 232 5 [(2, 2), ((-2147483648), 2147483647), (1, 1), ((-2147483648), 2147483647), ((-2147483648), 2147483647)] [] = true := by decide +kernel
def tp_copy21m0 : aTb := fun mi i => none
def rp_copy21m0 : List pq := [((5, 86, 1), (0, 114, 2), 0, 0), ((5, 84, 1), (0, 114, 1), (-1), (-1))]
set_option maxRecDepth 100000 in
set_option maxHeartbeats 40000000 in
theorem cp_copy21m0 : prchk RL CL rp_copy21m0 [] [] tp_copy21m0 132 121 232 5 [(2, 2), ((-2147483648), 2147483647), (1, 1), ((-2147483648), 2147483647), ((-2147483648), 2147483647)] [] = true := by decide +kernel
def tp_copy21k0 : aTb := fun mi i => none
def rp_copy21k0 : List pq := [((5, 86, 1), (0, 114, 2), 0, 0), ((5, 84, 1), (0, 114, 1), 1, 1)]
set_option maxRecDepth 100000 in
set_option maxHeartbeats 40000000 in
theorem cp_copy21k0 : prchk RL CL rp_copy21k0 [] [] tp_copy21k0 145 121 232 5 [(2, 2), ((-2147483648), 2147483647), (1, 1), ((-2147483648), 2147483647), ((-2147483648), 2147483647)] [] = true := by decide +kernel
def tp_copy21m1 : aTb := fun mi i => none
def rp_copy21m1 : List pq := [((5, 86, 1), (0, 114, 2), 1, 1), ((5, 84, 1), (0, 114, 1), (-1), (-1))]
set_option maxRecDepth 100000 in
set_option maxHeartbeats 40000000 in
theorem cp_copy21m1 : prchk RL CL rp_copy21m1 [] [] tp_copy21m1 132 121 232 5 [(2, 2), ((-2147483648), 2147483647), (1, 1), ((-2147483648), 2147483647), ((-2147483648), 2147483647)] [] = true := by decide +kernel
def tp_copy21k1 : aTb := fun mi i => none
def rp_copy21k1 : List pq := [((5, 86, 1), (0, 114, 2), 1, 1), ((5, 84, 1), (0, 114, 1), 0, 0)]
set_option maxRecDepth 100000 in
set_option maxHeartbeats 40000000 in
theorem cp_copy21k1 : prchk RL CL rp_copy21k1 [] [] tp_copy21k1 145 121 232 5 [(2, 2), ((-2147483648), 2147483647), (1, 1), ((-2147483648), 2147483647), ((-2147483648), 2147483647)] [] = true := by decide +kernel
def tp_copy22n : aTb := fun mi i => none
def rp_copy22n : List pq := [((5, 86, 1), (0, 114, 2), (-1), (-1))]
set_option maxRecDepth 100000 in
set_option maxHeartbeats 40000000 in
theorem cp_copy22n : prchk RL CL rp_copy22n [] [] tp_copy22n 118 121 232 5 [(2, 2), ((-2147483648), 2147483647), (2, 2), ((-2147483648), 2147483647), ((-2147483648), 2147483647)] [] = true := by decide +kernel
def tp_copy23n : aTb := fun mi i => none
def rp_copy23n : List pq := [((5, 86, 1), (0, 114, 2), (-1), (-1)), ((5, 88, 1), (0, 114, 3), (-1), 1)]
set_option maxRecDepth 100000 in
set_option maxHeartbeats 40000000 in
theorem cp_copy23n : prchk RL CL rp_copy23n [] [] tp_copy23n 118 121 232 5 [(2, 2), ((-2147483648), 2147483647), (3, 3), ((-2147483648), 2147483647), ((-2147483648), 2147483647)] [] = true := by decide +kernel
def tp_copy23m0 : aTb := fun mi i => none
def rp_copy23m0 : List pq := [((5, 86, 1), (0, 114, 2), 0, 0), ((5, 88, 1), (0, 114, 3), (-1), (-1))]
set_option maxRecDepth 100000 in
set_option maxHeartbeats 40000000 in
theorem cp_copy23m0 : prchk RL CL rp_copy23m0 [] [] tp_copy23m0 132 121 232 5 [(2, 2), ((-2147483648), 2147483647), (3, 3), ((-2147483648), 2147483647), ((-2147483648), 2147483647)] [] = true := by decide +kernel
def tp_copy23k0 : aTb := fun mi i => none
def rp_copy23k0 : List pq := [((5, 86, 1), (0, 114, 2), 0, 0), ((5, 88, 1), (0, 114, 3), 1, 1)]
set_option maxRecDepth 100000 in
set_option maxHeartbeats 40000000 in
theorem cp_copy23k0 : prchk RL CL rp_copy23k0 [] [] tp_copy23k0 145 121 232 5 [(2, 2), ((-2147483648), 2147483647), (3, 3), ((-2147483648), 2147483647), ((-2147483648), 2147483647)] [] = true := by decide +kernel
def tp_copy23m1 : aTb := fun mi i => none
def rp_copy23m1 : List pq := [((5, 86, 1), (0, 114, 2), 1, 1), ((5, 88, 1), (0, 114, 3), (-1), (-1))]
set_option maxRecDepth 100000 in
set_option maxHeartbeats 40000000 in
theorem cp_copy23m1 : prchk RL CL rp_copy23m1 [] [] tp_copy23m1 132 121 232 5 [(2, 2), ((-2147483648), 2147483647), (3, 3), ((-2147483648), 2147483647), ((-2147483648), 2147483647)] [] = true := by decide +kernel
