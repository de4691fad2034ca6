/-! ===== what each pair of calls does, and what stays alike (printed by program) ===== -/
def RL : List pq := [((8, 34, 5), (0, 111, 0), 0, 9), ((8, 48, 5), (0, 112, 0), 0, 9), ((9, 0, 9), (10, 110, 3), 0, 1)]
def RLt : List pq := []
def RLu : List pq := [((8, 48, 5), (0, 112, 0), 0, 9), ((9, 0, 9), (10, 110, 3), 0, 1)]
def CL : List cq := []
/-- what is kept beside -/
def XJ (_ : List pC) : Prop := True
def xjW (_ : aW) : Bool := true
theorem xj_fr {W : aW} {h h' : List pC} (hx : XJ h) (_ : Fr W h h') (_ : xjW W = true) : XJ h' := hx
theorem xj0 : XJ h0 := trivial
def RJ (h : List pC) : Prop := pRel RL h ∧ cRel CL h ∧ XJ h
theorem rj0 : RJ h0 := ⟨fun q hq => of_decide_eq_true (List.all_eq_true.mp (show RL.all (fun q => decide (ri h0 q.1.2.1 q.1.2.2 = ri h0 q.2.1.2.1 q.2.1.2.2)) = true by decide +kernel) q hq), fun c hc b1 b2 => of_decide_eq_true (List.all_eq_true.mp (show CL.all (fun c => decide (c.2.1 ≤ (ri h0 c.1.2.1 c.1.2.2).toInt → (ri h0 c.1.2.1 c.1.2.2).toInt ≤ c.2.2.1 → ri h0 c.2.2.2.1.2.1 c.2.2.2.1.2.2 = ri h0 c.2.2.2.2.1.2.1 c.2.2.2.2.1.2.2)) = true by decide +kernel) c hc) b1 b2, xj0⟩
theorem i32_b (v : Int32) : -2147483648 ≤ v.toInt ∧ v.toInt ≤ 2147483647 := ⟨i32_lo v, i32_hi v⟩
theorem args_top : ∀ (xs : List Int32), argsG (xs.map Value.int) (List.replicate xs.length (.inl (-2147483648, 2147483647)))
  | [] => trivial
  | x :: xs => ⟨⟨x, rfl, i32_lo x, i32_hi x⟩, args_top xs⟩
/-- what a public method does, from its contract -/
theorem pub_of {E : pX} {i a : Nat} {c : aK} (hk : KGi E pV1 JT i c) {N : pM} (hN : prog[i]? = some N) (hc : m_code N ≠ []) (xs : List Int32) (h1 : c.1 = .inr (false, [a]) :: List.replicate xs.length (.inl (-2147483648, 2147483647))) (h2 : c.2.1 ≠ none) (h3 : c.2.2.2 ≤ 120) {h : List pC} (hh : HI HT h) (hj : JT h) : ∃ (r : Int32) (h' : List pC), Run prog E pV1 120 N (.ref a :: xs.map Value.int) h (some (.int r), h', 0, 0) ∧ HI HT h' ∧ Fr c.2.2.1 h h' ∧ JT h' := by
  obtain ⟨r, h', q, hr, hh', hf, hj'⟩ := hk N hN 120 h3 (.ref a :: xs.map Value.int) h (by rw [h1]; exact ⟨Or.inr ⟨a, List.mem_singleton.mpr rfl, rfl⟩, args_top xs⟩) hh hj
  obtain ⟨z, hz⟩ : ∃ z, c.2.1 = some z := by
    cases e : c.2.1 with
    | none => exact absurd e h2
    | some z => exact ⟨z, rfl⟩
  rw [hz] at hr
  obtain ⟨v, rfl, -⟩ := (show ∃ v : Int32, r = some (.int v) ∧ z.1 ≤ v.toInt ∧ v.toInt ≤ z.2 from hr)
  rcases q with q | q
  · exact ⟨v, h', q, hh', hf, hj'⟩
  · exact absurd q.1 hc
theorem cobj {h : List pC} (hh : HI HT h) : ∃ o, pobj h 0 = some o ∧ o.1 = 7 := by
  obtain ⟨fs, ho, -⟩ := hi_obj hh (a := 0) rfl
  exact ⟨_, ho, rfl⟩
def k_c_carveF : aK := ([.inr (false, [0]), .inl ((-2147483648), 2147483647), .inl ((-2147483648), 2147483647)], some ((-2147483648), 2147483647), [(35, 35, 0, 15)], 50)
def tb_c_carveF : aTb := fun mi i => none
def kc_c_carveF : List (Nat × aK) := [(48, k_covers), (50, k_sayAt), (44, k_value), (54, k_gainOver), (55, k_loss), (56, k_worth), (49, k_covered), (57, k_joined), (58, k_clashes), (70, k_falsehood34), (71, k_trustOfAll34), (72, k_laidSet34), (73, k_coveredBy34), (77, k_deniers34), (80, k_gainOf34), (78, k_flow34), (75, k_noteClashes), (76, k_anyClash)]
set_option maxRecDepth 100000 in
set_option maxHeartbeats 40000000 in
theorem ck_c_carveF : kchk prog HT kc_c_carveF tb_c_carveF 72 92 k_c_carveF = true := by decide +kernel
theorem kg_c_carveF {E : pX} : KGi E pV1 JT 92 k_c_carveF := kgi_of JT_P (by decide) ck_c_carveF (by unfold kc_c_carveF; exact (List.forall_mem_cons.mpr ⟨kg_covers JT_P hands, (List.forall_mem_cons.mpr ⟨kg_sayAt JT_P hands, (List.forall_mem_cons.mpr ⟨kg_value JT_P hands, (List.forall_mem_cons.mpr ⟨kg_gainOver JT_P hands, (List.forall_mem_cons.mpr ⟨kg_loss JT_P hands, (List.forall_mem_cons.mpr ⟨kg_worth JT_P hands, (List.forall_mem_cons.mpr ⟨kg_covered JT_P hands, (List.forall_mem_cons.mpr ⟨kg_joined JT_P hands, (List.forall_mem_cons.mpr ⟨kg_clashes JT_P hands, (List.forall_mem_cons.mpr ⟨kg_falsehood34 JT_P hands, (List.forall_mem_cons.mpr ⟨kg_trustOfAll34 JT_P hands, (List.forall_mem_cons.mpr ⟨kg_laidSet34 JT_P hands, (List.forall_mem_cons.mpr ⟨kg_coveredBy34 JT_P hands, (List.forall_mem_cons.mpr ⟨kg_deniers34 JT_P hands, (List.forall_mem_cons.mpr ⟨kg_gainOf34 JT_P hands, (List.forall_mem_cons.mpr ⟨kg_flow34 JT_P hands, (List.forall_mem_cons.mpr ⟨kg_noteClashes JT_P hands, (List.forall_mem_cons.mpr ⟨kg_anyClash JT_P hands, (fun _ h => absurd h List.not_mem_nil)⟩)⟩)⟩)⟩)⟩)⟩)⟩)⟩)⟩)⟩)⟩)⟩)⟩)⟩)⟩)⟩)⟩)⟩))
def k_r_carveF : aK := ([.inr (false, [110]), .inl ((-2147483648), 2147483647), .inl ((-2147483648), 2147483647)], some ((-2147483648), 2147483647), [(111, 111, 5, 20)], 50)
def tb_r_carveF : aTb := fun mi i => none
def kc_r_carveF : List (Nat × aK) := [(158, k_m_saysAt), (160, k_m_loses), (161, k_m_worth), (163, k_m_covers), (222, k_m_counts), (159, k_m_gains), (147, k_m_manyIn), (175, k_m_falseOf), (178, k_m_joinBy), (180, k_m_doClash), (182, k_m_laidOnes), (183, k_m_coveredBy), (184, k_m_findClashing), (185, k_m_areAtPeace), (188, k_m_otherwiseAt), (193, k_m_allTrust), (190, k_m_goesOn), (191, k_m_goesOnMany)]
set_option maxRecDepth 100000 in
set_option maxHeartbeats 40000000 in
theorem ck_r_carveF : kchk prog HT kc_r_carveF tb_r_carveF 57 171 k_r_carveF = true := by decide +kernel
theorem kg_r_carveF {E : pX} : KGi E pV1 JT 171 k_r_carveF := kgi_of JT_P (by decide) ck_r_carveF (by unfold kc_r_carveF; exact (List.forall_mem_cons.mpr ⟨kg_m_saysAt JT_P hands, (List.forall_mem_cons.mpr ⟨kg_m_loses JT_P hands, (List.forall_mem_cons.mpr ⟨kg_m_worth JT_P hands, (List.forall_mem_cons.mpr ⟨kg_m_covers JT_P hands, (List.forall_mem_cons.mpr ⟨kg_m_counts JT_P hands, (List.forall_mem_cons.mpr ⟨kg_m_gains hands, (List.forall_mem_cons.mpr ⟨kg_m_manyIn hands, (List.forall_mem_cons.mpr ⟨kg_m_falseOf JT_P hands, (List.forall_mem_cons.mpr ⟨kg_m_joinBy JT_P hands, (List.forall_mem_cons.mpr ⟨kg_m_doClash JT_P hands, (List.forall_mem_cons.mpr ⟨kg_m_laidOnes JT_P hands, (List.forall_mem_cons.mpr ⟨kg_m_coveredBy JT_P hands, (List.forall_mem_cons.mpr ⟨kg_m_findClashing JT_P hands, (List.forall_mem_cons.mpr ⟨kg_m_areAtPeace JT_P hands, (List.forall_mem_cons.mpr ⟨kg_m_otherwiseAt JT_P hands, (List.forall_mem_cons.mpr ⟨kg_m_allTrust JT_P hands, (List.forall_mem_cons.mpr ⟨kg_m_goesOn JT_P hands, (List.forall_mem_cons.mpr ⟨kg_m_goesOnMany JT_P hands, (fun _ h => absurd h List.not_mem_nil)⟩)⟩)⟩)⟩)⟩)⟩)⟩)⟩)⟩)⟩)⟩)⟩)⟩)⟩)⟩)⟩)⟩)⟩))
def k_c_seedF : aK := ([.inr (false, [0]), .inl ((-2147483648), 2147483647)], some ((-2147483648), 2147483647), [(34, 34, 9, 9)], 50)
def tb_c_seedF : aTb := fun mi i => none
def kc_c_seedF : List (Nat × aK) := [(48, k_covers), (50, k_sayAt), (44, k_value), (54, k_gainOver), (55, k_loss), (56, k_worth), (49, k_covered), (57, k_joined), (58, k_clashes), (70, k_falsehood34), (71, k_trustOfAll34), (72, k_laidSet34), (73, k_coveredBy34), (77, k_deniers34), (80, k_gainOf34), (78, k_flow34), (75, k_noteClashes), (76, k_anyClash)]
set_option maxRecDepth 100000 in
set_option maxHeartbeats 40000000 in
theorem ck_c_seedF : kchk prog HT kc_c_seedF tb_c_seedF 13 95 k_c_seedF = true := by decide +kernel
theorem kg_c_seedF {E : pX} : KGi E pV1 JT 95 k_c_seedF := kgi_of JT_P (by decide) ck_c_seedF (by unfold kc_c_seedF; exact (List.forall_mem_cons.mpr ⟨kg_covers JT_P hands, (List.forall_mem_cons.mpr ⟨kg_sayAt JT_P hands, (List.forall_mem_cons.mpr ⟨kg_value JT_P hands, (List.forall_mem_cons.mpr ⟨kg_gainOver JT_P hands, (List.forall_mem_cons.mpr ⟨kg_loss JT_P hands, (List.forall_mem_cons.mpr ⟨kg_worth JT_P hands, (List.forall_mem_cons.mpr ⟨kg_covered JT_P hands, (List.forall_mem_cons.mpr ⟨kg_joined JT_P hands, (List.forall_mem_cons.mpr ⟨kg_clashes JT_P hands, (List.forall_mem_cons.mpr ⟨kg_falsehood34 JT_P hands, (List.forall_mem_cons.mpr ⟨kg_trustOfAll34 JT_P hands, (List.forall_mem_cons.mpr ⟨kg_laidSet34 JT_P hands, (List.forall_mem_cons.mpr ⟨kg_coveredBy34 JT_P hands, (List.forall_mem_cons.mpr ⟨kg_deniers34 JT_P hands, (List.forall_mem_cons.mpr ⟨kg_gainOf34 JT_P hands, (List.forall_mem_cons.mpr ⟨kg_flow34 JT_P hands, (List.forall_mem_cons.mpr ⟨kg_noteClashes JT_P hands, (List.forall_mem_cons.mpr ⟨kg_anyClash JT_P hands, (fun _ h => absurd h List.not_mem_nil)⟩)⟩)⟩)⟩)⟩)⟩)⟩)⟩)⟩)⟩)⟩)⟩)⟩)⟩)⟩)⟩)⟩)⟩))
def k_r_seedF : aK := ([.inr (false, [110]), .inl ((-2147483648), 2147483647)], some ((-2147483648), 2147483647), [(111, 111, 4, 4)], 50)
def tb_r_seedF : aTb := fun mi i => none
def kc_r_seedF : List (Nat × aK) := [(158, k_m_saysAt), (160, k_m_loses), (161, k_m_worth), (163, k_m_covers), (222, k_m_counts), (159, k_m_gains), (147, k_m_manyIn), (175, k_m_falseOf), (178, k_m_joinBy), (180, k_m_doClash), (182, k_m_laidOnes), (183, k_m_coveredBy), (184, k_m_findClashing), (185, k_m_areAtPeace), (188, k_m_otherwiseAt), (193, k_m_allTrust), (190, k_m_goesOn), (191, k_m_goesOnMany)]
set_option maxRecDepth 100000 in
set_option maxHeartbeats 40000000 in
theorem ck_r_seedF : kchk prog HT kc_r_seedF tb_r_seedF 20 174 k_r_seedF = true := by decide +kernel
theorem kg_r_seedF {E : pX} : KGi E pV1 JT 174 k_r_seedF := kgi_of JT_P (by decide) ck_r_seedF (by unfold kc_r_seedF; exact (List.forall_mem_cons.mpr ⟨kg_m_saysAt JT_P hands, (List.forall_mem_cons.mpr ⟨kg_m_loses JT_P hands, (List.forall_mem_cons.mpr ⟨kg_m_worth JT_P hands, (List.forall_mem_cons.mpr ⟨kg_m_covers JT_P hands, (List.forall_mem_cons.mpr ⟨kg_m_counts JT_P hands, (List.forall_mem_cons.mpr ⟨kg_m_gains hands, (List.forall_mem_cons.mpr ⟨kg_m_manyIn hands, (List.forall_mem_cons.mpr ⟨kg_m_falseOf JT_P hands, (List.forall_mem_cons.mpr ⟨kg_m_joinBy JT_P hands, (List.forall_mem_cons.mpr ⟨kg_m_doClash JT_P hands, (List.forall_mem_cons.mpr ⟨kg_m_laidOnes JT_P hands, (List.forall_mem_cons.mpr ⟨kg_m_coveredBy JT_P hands, (List.forall_mem_cons.mpr ⟨kg_m_findClashing JT_P hands, (List.forall_mem_cons.mpr ⟨kg_m_areAtPeace JT_P hands, (List.forall_mem_cons.mpr ⟨kg_m_otherwiseAt JT_P hands, (List.forall_mem_cons.mpr ⟨kg_m_allTrust JT_P hands, (List.forall_mem_cons.mpr ⟨kg_m_goesOn JT_P hands, (List.forall_mem_cons.mpr ⟨kg_m_goesOnMany JT_P hands, (fun _ h => absurd h List.not_mem_nil)⟩)⟩)⟩)⟩)⟩)⟩)⟩)⟩)⟩)⟩)⟩)⟩)⟩)⟩)⟩)⟩)⟩)⟩))
def k_c_turnsF : aK := ([.inr (false, [0]), .inl ((-2147483648), 2147483647), .inl ((-2147483648), 2147483647)], some ((-2147483648), 2147483647), [(39, 47, 0, 0)], 50)
def tb_c_turnsF : aTb := fun mi i => none
def kc_c_turnsF : List (Nat × aK) := [(48, k_covers), (50, k_sayAt), (44, k_value), (54, k_gainOver), (55, k_loss), (56, k_worth), (49, k_covered), (57, k_joined), (58, k_clashes), (70, k_falsehood34), (71, k_trustOfAll34), (72, k_laidSet34), (73, k_coveredBy34), (77, k_deniers34), (80, k_gainOf34), (78, k_flow34), (75, k_noteClashes), (76, k_anyClash)]
set_option maxRecDepth 100000 in
set_option maxHeartbeats 40000000 in
theorem ck_c_turnsF : kchk prog HT kc_c_turnsF tb_c_turnsF 52 90 k_c_turnsF = true := by decide +kernel
theorem kg_c_turnsF {E : pX} : KGi E pV1 JT 90 k_c_turnsF := kgi_of JT_P (by decide) ck_c_turnsF (by unfold kc_c_turnsF; exact (List.forall_mem_cons.mpr ⟨kg_covers JT_P hands, (List.forall_mem_cons.mpr ⟨kg_sayAt JT_P hands, (List.forall_mem_cons.mpr ⟨kg_value JT_P hands, (List.forall_mem_cons.mpr ⟨kg_gainOver JT_P hands, (List.forall_mem_cons.mpr ⟨kg_loss JT_P hands, (List.forall_mem_cons.mpr ⟨kg_worth JT_P hands, (List.forall_mem_cons.mpr ⟨kg_covered JT_P hands, (List.forall_mem_cons.mpr ⟨kg_joined JT_P hands, (List.forall_mem_cons.mpr ⟨kg_clashes JT_P hands, (List.forall_mem_cons.mpr ⟨kg_falsehood34 JT_P hands, (List.forall_mem_cons.mpr ⟨kg_trustOfAll34 JT_P hands, (List.forall_mem_cons.mpr ⟨kg_laidSet34 JT_P hands, (List.forall_mem_cons.mpr ⟨kg_coveredBy34 JT_P hands, (List.forall_mem_cons.mpr ⟨kg_deniers34 JT_P hands, (List.forall_mem_cons.mpr ⟨kg_gainOf34 JT_P hands, (List.forall_mem_cons.mpr ⟨kg_flow34 JT_P hands, (List.forall_mem_cons.mpr ⟨kg_noteClashes JT_P hands, (List.forall_mem_cons.mpr ⟨kg_anyClash JT_P hands, (fun _ h => absurd h List.not_mem_nil)⟩)⟩)⟩)⟩)⟩)⟩)⟩)⟩)⟩)⟩)⟩)⟩)⟩)⟩)⟩)⟩)⟩)⟩))
def k_r_turnsF : aK := ([.inr (false, [110]), .inl ((-2147483648), 2147483647), .inl ((-2147483648), 2147483647)], some ((-2147483648), 2147483647), [(111, 111, 21, 74)], 50)
def tb_r_turnsF : aTb := fun mi i => none
def kc_r_turnsF : List (Nat × aK) := [(158, k_m_saysAt), (160, k_m_loses), (161, k_m_worth), (163, k_m_covers), (222, k_m_counts), (159, k_m_gains), (147, k_m_manyIn), (175, k_m_falseOf), (178, k_m_joinBy), (180, k_m_doClash), (182, k_m_laidOnes), (183, k_m_coveredBy), (184, k_m_findClashing), (185, k_m_areAtPeace), (188, k_m_otherwiseAt), (193, k_m_allTrust), (190, k_m_goesOn), (191, k_m_goesOnMany)]
set_option maxRecDepth 100000 in
set_option maxHeartbeats 40000000 in
theorem ck_r_turnsF : kchk prog HT kc_r_turnsF tb_r_turnsF 69 168 k_r_turnsF = true := by decide +kernel
theorem kg_r_turnsF {E : pX} : KGi E pV1 JT 168 k_r_turnsF := kgi_of JT_P (by decide) ck_r_turnsF (by unfold kc_r_turnsF; exact (List.forall_mem_cons.mpr ⟨kg_m_saysAt JT_P hands, (List.forall_mem_cons.mpr ⟨kg_m_loses JT_P hands, (List.forall_mem_cons.mpr ⟨kg_m_worth JT_P hands, (List.forall_mem_cons.mpr ⟨kg_m_covers JT_P hands, (List.forall_mem_cons.mpr ⟨kg_m_counts JT_P hands, (List.forall_mem_cons.mpr ⟨kg_m_gains hands, (List.forall_mem_cons.mpr ⟨kg_m_manyIn hands, (List.forall_mem_cons.mpr ⟨kg_m_falseOf JT_P hands, (List.forall_mem_cons.mpr ⟨kg_m_joinBy JT_P hands, (List.forall_mem_cons.mpr ⟨kg_m_doClash JT_P hands, (List.forall_mem_cons.mpr ⟨kg_m_laidOnes JT_P hands, (List.forall_mem_cons.mpr ⟨kg_m_coveredBy JT_P hands, (List.forall_mem_cons.mpr ⟨kg_m_findClashing JT_P hands, (List.forall_mem_cons.mpr ⟨kg_m_areAtPeace JT_P hands, (List.forall_mem_cons.mpr ⟨kg_m_otherwiseAt JT_P hands, (List.forall_mem_cons.mpr ⟨kg_m_allTrust JT_P hands, (List.forall_mem_cons.mpr ⟨kg_m_goesOn JT_P hands, (List.forall_mem_cons.mpr ⟨kg_m_goesOnMany JT_P hands, (fun _ h => absurd h List.not_mem_nil)⟩)⟩)⟩)⟩)⟩)⟩)⟩)⟩)⟩)⟩)⟩)⟩)⟩)⟩)⟩)⟩)⟩)⟩))
def k_c_setF : aK := ([.inr (false, [0]), .inl ((-2147483648), 2147483647), .inl ((-2147483648), 2147483647), .inl ((-2147483648), 2147483647)], some ((-2147483648), 2147483647), [(39, 47, 1, 5)], 50)
def tb_c_setF : aTb := fun mi i => none
def kc_c_setF : List (Nat × aK) := [(48, k_covers), (50, k_sayAt), (44, k_value), (54, k_gainOver), (55, k_loss), (56, k_worth), (49, k_covered), (57, k_joined), (58, k_clashes), (70, k_falsehood34), (71, k_trustOfAll34), (72, k_laidSet34), (73, k_coveredBy34), (77, k_deniers34), (80, k_gainOf34), (78, k_flow34), (75, k_noteClashes), (76, k_anyClash)]
set_option maxRecDepth 100000 in
set_option maxHeartbeats 40000000 in
theorem ck_c_setF : kchk prog HT kc_c_setF tb_c_setF 87 91 k_c_setF = true := by decide +kernel
theorem kg_c_setF {E : pX} : KGi E pV1 JT 91 k_c_setF := kgi_of JT_P (by decide) ck_c_setF (by unfold kc_c_setF; exact (List.forall_mem_cons.mpr ⟨kg_covers JT_P hands, (List.forall_mem_cons.mpr ⟨kg_sayAt JT_P hands, (List.forall_mem_cons.mpr ⟨kg_value JT_P hands, (List.forall_mem_cons.mpr ⟨kg_gainOver JT_P hands, (List.forall_mem_cons.mpr ⟨kg_loss JT_P hands, (List.forall_mem_cons.mpr ⟨kg_worth JT_P hands, (List.forall_mem_cons.mpr ⟨kg_covered JT_P hands, (List.forall_mem_cons.mpr ⟨kg_joined JT_P hands, (List.forall_mem_cons.mpr ⟨kg_clashes JT_P hands, (List.forall_mem_cons.mpr ⟨kg_falsehood34 JT_P hands, (List.forall_mem_cons.mpr ⟨kg_trustOfAll34 JT_P hands, (List.forall_mem_cons.mpr ⟨kg_laidSet34 JT_P hands, (List.forall_mem_cons.mpr ⟨kg_coveredBy34 JT_P hands, (List.forall_mem_cons.mpr ⟨kg_deniers34 JT_P hands, (List.forall_mem_cons.mpr ⟨kg_gainOf34 JT_P hands, (List.forall_mem_cons.mpr ⟨kg_flow34 JT_P hands, (List.forall_mem_cons.mpr ⟨kg_noteClashes JT_P hands, (List.forall_mem_cons.mpr ⟨kg_anyClash JT_P hands, (fun _ h => absurd h List.not_mem_nil)⟩)⟩)⟩)⟩)⟩)⟩)⟩)⟩)⟩)⟩)⟩)⟩)⟩)⟩)⟩)⟩)⟩)⟩))
def k_r_setF : aK := ([.inr (false, [110]), .inl ((-2147483648), 2147483647), .inl ((-2147483648), 2147483647), .inl ((-2147483648), 2147483647)], some ((-2147483648), 2147483647), [(111, 111, 21, 74)], 50)
def tb_r_setF : aTb := fun mi i => none
def kc_r_setF : List (Nat × aK) := [(158, k_m_saysAt), (160, k_m_loses), (161, k_m_worth), (163, k_m_covers), (222, k_m_counts), (159, k_m_gains), (147, k_m_manyIn), (175, k_m_falseOf), (178, k_m_joinBy), (180, k_m_doClash), (182, k_m_laidOnes), (183, k_m_coveredBy), (184, k_m_findClashing), (185, k_m_areAtPeace), (188, k_m_otherwiseAt), (193, k_m_allTrust), (190, k_m_goesOn), (191, k_m_goesOnMany)]
set_option maxRecDepth 100000 in
set_option maxHeartbeats 40000000 in
theorem ck_r_setF : kchk prog HT kc_r_setF tb_r_setF 97 170 k_r_setF = true := by decide +kernel
theorem kg_r_setF {E : pX} : KGi E pV1 JT 170 k_r_setF := kgi_of JT_P (by decide) ck_r_setF (by unfold kc_r_setF; exact (List.forall_mem_cons.mpr ⟨kg_m_saysAt JT_P hands, (List.forall_mem_cons.mpr ⟨kg_m_loses JT_P hands, (List.forall_mem_cons.mpr ⟨kg_m_worth JT_P hands, (List.forall_mem_cons.mpr ⟨kg_m_covers JT_P hands, (List.forall_mem_cons.mpr ⟨kg_m_counts JT_P hands, (List.forall_mem_cons.mpr ⟨kg_m_gains hands, (List.forall_mem_cons.mpr ⟨kg_m_manyIn hands, (List.forall_mem_cons.mpr ⟨kg_m_falseOf JT_P hands, (List.forall_mem_cons.mpr ⟨kg_m_joinBy JT_P hands, (List.forall_mem_cons.mpr ⟨kg_m_doClash JT_P hands, (List.forall_mem_cons.mpr ⟨kg_m_laidOnes JT_P hands, (List.forall_mem_cons.mpr ⟨kg_m_coveredBy JT_P hands, (List.forall_mem_cons.mpr ⟨kg_m_findClashing JT_P hands, (List.forall_mem_cons.mpr ⟨kg_m_areAtPeace JT_P hands, (List.forall_mem_cons.mpr ⟨kg_m_otherwiseAt JT_P hands, (List.forall_mem_cons.mpr ⟨kg_m_allTrust JT_P hands, (List.forall_mem_cons.mpr ⟨kg_m_goesOn JT_P hands, (List.forall_mem_cons.mpr ⟨kg_m_goesOnMany JT_P hands, (fun _ h => absurd h List.not_mem_nil)⟩)⟩)⟩)⟩)⟩)⟩)⟩)⟩)⟩)⟩)⟩)⟩)⟩)⟩)⟩)⟩)⟩)⟩))
def k_c_pourF : aK := ([.inr (false, [0]), .inl ((-2147483648), 2147483647)], some ((-2147483648), 2147483647), [(35, 35, 0, 15)], 50)
def tb_c_pourF : aTb := fun mi i => if mi = 119 ∧ i = 17 then some ([((-2147483648), 2147483647, .inl 3), (0, 2147483647, .inl 4)], [], [5, 6], [(35, 35, 0, 15)], 1, true) else none
def kc_c_pourF : List (Nat × aK) := [(48, k_covers), (50, k_sayAt), (44, k_value), (54, k_gainOver), (55, k_loss), (56, k_worth), (49, k_covered), (57, k_joined), (58, k_clashes), (70, k_falsehood34), (71, k_trustOfAll34), (72, k_laidSet34), (73, k_coveredBy34), (77, k_deniers34), (80, k_gainOf34), (78, k_flow34), (75, k_noteClashes), (76, k_anyClash)]
set_option maxRecDepth 100000 in
set_option maxHeartbeats 40000000 in
theorem ck_c_pourF : kchk prog HT kc_c_pourF tb_c_pourF 122 119 k_c_pourF = true := by decide +kernel
theorem kg_c_pourF {E : pX} : KGi E pV1 JT 119 k_c_pourF := kgi_of JT_P (by decide) ck_c_pourF (by unfold kc_c_pourF; exact (List.forall_mem_cons.mpr ⟨kg_covers JT_P hands, (List.forall_mem_cons.mpr ⟨kg_sayAt JT_P hands, (List.forall_mem_cons.mpr ⟨kg_value JT_P hands, (List.forall_mem_cons.mpr ⟨kg_gainOver JT_P hands, (List.forall_mem_cons.mpr ⟨kg_loss JT_P hands, (List.forall_mem_cons.mpr ⟨kg_worth JT_P hands, (List.forall_mem_cons.mpr ⟨kg_covered JT_P hands, (List.forall_mem_cons.mpr ⟨kg_joined JT_P hands, (List.forall_mem_cons.mpr ⟨kg_clashes JT_P hands, (List.forall_mem_cons.mpr ⟨kg_falsehood34 JT_P hands, (List.forall_mem_cons.mpr ⟨kg_trustOfAll34 JT_P hands, (List.forall_mem_cons.mpr ⟨kg_laidSet34 JT_P hands, (List.forall_mem_cons.mpr ⟨kg_coveredBy34 JT_P hands, (List.forall_mem_cons.mpr ⟨kg_deniers34 JT_P hands, (List.forall_mem_cons.mpr ⟨kg_gainOf34 JT_P hands, (List.forall_mem_cons.mpr ⟨kg_flow34 JT_P hands, (List.forall_mem_cons.mpr ⟨kg_noteClashes JT_P hands, (List.forall_mem_cons.mpr ⟨kg_anyClash JT_P hands, (fun _ h => absurd h List.not_mem_nil)⟩)⟩)⟩)⟩)⟩)⟩)⟩)⟩)⟩)⟩)⟩)⟩)⟩)⟩)⟩)⟩)⟩)⟩))
def k_r_pourF : aK := ([.inr (false, [110]), .inl ((-2147483648), 2147483647)], some ((-2147483648), 2147483647), [(111, 111, 5, 20)], 50)
def tb_r_pourF : aTb := fun mi i => if mi = 229 ∧ i = 16 then some ([((-2147483648), 2147483647, .inl 2), (0, 2147483647, .inl 3)], [], [4, 5], [(111, 111, 5, 20)], 1, true) else none
def kc_r_pourF : List (Nat × aK) := [(158, k_m_saysAt), (160, k_m_loses), (161, k_m_worth), (163, k_m_covers), (222, k_m_counts), (159, k_m_gains), (147, k_m_manyIn), (175, k_m_falseOf), (178, k_m_joinBy), (180, k_m_doClash), (182, k_m_laidOnes), (183, k_m_coveredBy), (184, k_m_findClashing), (185, k_m_areAtPeace), (188, k_m_otherwiseAt), (193, k_m_allTrust), (190, k_m_goesOn), (191, k_m_goesOnMany)]
set_option maxRecDepth 100000 in
set_option maxHeartbeats 40000000 in
theorem ck_r_pourF : kchk prog HT kc_r_pourF tb_r_pourF 94 229 k_r_pourF = true := by decide +kernel
theorem kg_r_pourF {E : pX} : KGi E pV1 JT 229 k_r_pourF := kgi_of JT_P (by decide) ck_r_pourF (by unfold kc_r_pourF; exact (List.forall_mem_cons.mpr ⟨kg_m_saysAt JT_P hands, (List.forall_mem_cons.mpr ⟨kg_m_loses JT_P hands, (List.forall_mem_cons.mpr ⟨kg_m_worth JT_P hands, (List.forall_mem_cons.mpr ⟨kg_m_covers JT_P hands, (List.forall_mem_cons.mpr ⟨kg_m_counts JT_P hands, (List.forall_mem_cons.mpr ⟨kg_m_gains hands, (List.forall_mem_cons.mpr ⟨kg_m_manyIn hands, (List.forall_mem_cons.mpr ⟨kg_m_falseOf JT_P hands, (List.forall_mem_cons.mpr ⟨kg_m_joinBy JT_P hands, (List.forall_mem_cons.mpr ⟨kg_m_doClash JT_P hands, (List.forall_mem_cons.mpr ⟨kg_m_laidOnes JT_P hands, (List.forall_mem_cons.mpr ⟨kg_m_coveredBy JT_P hands, (List.forall_mem_cons.mpr ⟨kg_m_findClashing JT_P hands, (List.forall_mem_cons.mpr ⟨kg_m_areAtPeace JT_P hands, (List.forall_mem_cons.mpr ⟨kg_m_otherwiseAt JT_P hands, (List.forall_mem_cons.mpr ⟨kg_m_allTrust JT_P hands, (List.forall_mem_cons.mpr ⟨kg_m_goesOn JT_P hands, (List.forall_mem_cons.mpr ⟨kg_m_goesOnMany JT_P hands, (fun _ h => absurd h List.not_mem_nil)⟩)⟩)⟩)⟩)⟩)⟩)⟩)⟩)⟩)⟩)⟩)⟩)⟩)⟩)⟩)⟩)⟩)⟩))
def k_c_tidesF : aK := ([.inr (false, [0]), .inl ((-2147483648), 2147483647)], some ((-2147483648), 2147483647), [(5, 5, 0, 95), (1, 1, 3, 3), (34, 34, 7, 9), (39, 47, 0, 5)], 50)
def tb_c_tidesF : aTb := fun mi i => none
def kc_c_tidesF : List (Nat × aK) := [(48, k_covers), (50, k_sayAt), (44, k_value), (54, k_gainOver), (55, k_loss), (56, k_worth), (49, k_covered), (57, k_joined), (58, k_clashes), (70, k_falsehood34), (71, k_trustOfAll34), (72, k_laidSet34), (73, k_coveredBy34), (77, k_deniers34), (80, k_gainOf34), (78, k_flow34), (75, k_noteClashes), (76, k_anyClash)]
set_option maxRecDepth 100000 in
set_option maxHeartbeats 40000000 in
theorem ck_c_tidesF : kchk prog HT kc_c_tidesF tb_c_tidesF 37 103 k_c_tidesF = true := by decide +kernel
theorem kg_c_tidesF {E : pX} : KGi E pV1 JT 103 k_c_tidesF := kgi_of JT_P (by decide) ck_c_tidesF (by unfold kc_c_tidesF; exact (List.forall_mem_cons.mpr ⟨kg_covers JT_P hands, (List.forall_mem_cons.mpr ⟨kg_sayAt JT_P hands, (List.forall_mem_cons.mpr ⟨kg_value JT_P hands, (List.forall_mem_cons.mpr ⟨kg_gainOver JT_P hands, (List.forall_mem_cons.mpr ⟨kg_loss JT_P hands, (List.forall_mem_cons.mpr ⟨kg_worth JT_P hands, (List.forall_mem_cons.mpr ⟨kg_covered JT_P hands, (List.forall_mem_cons.mpr ⟨kg_joined JT_P hands, (List.forall_mem_cons.mpr ⟨kg_clashes JT_P hands, (List.forall_mem_cons.mpr ⟨kg_falsehood34 JT_P hands, (List.forall_mem_cons.mpr ⟨kg_trustOfAll34 JT_P hands, (List.forall_mem_cons.mpr ⟨kg_laidSet34 JT_P hands, (List.forall_mem_cons.mpr ⟨kg_coveredBy34 JT_P hands, (List.forall_mem_cons.mpr ⟨kg_deniers34 JT_P hands, (List.forall_mem_cons.mpr ⟨kg_gainOf34 JT_P hands, (List.forall_mem_cons.mpr ⟨kg_flow34 JT_P hands, (List.forall_mem_cons.mpr ⟨kg_noteClashes JT_P hands, (List.forall_mem_cons.mpr ⟨kg_anyClash JT_P hands, (fun _ h => absurd h List.not_mem_nil)⟩)⟩)⟩)⟩)⟩)⟩)⟩)⟩)⟩)⟩)⟩)⟩)⟩)⟩)⟩)⟩)⟩)⟩))
def k_m_goesOnF : aK := ([.inr (false, [110])], none, [(125, 125, 0, 127), (126, 126, 0, 99), (111, 111, 2, 4), (111, 111, 21, 74)], 24)
def tb_m_goesOnF : aTb := fun mi i => if mi = 190 ∧ i = 7 then some ([(0, 2147483647, .inl 2)], [], [3, 4], [(125, 125, 0, 127), (126, 126, 0, 99), (111, 111, 2, 4), (111, 111, 21, 74)], 0, true) else none
def kc_m_goesOnF : List (Nat × aK) := [(158, k_m_saysAt), (160, k_m_loses), (161, k_m_worth), (163, k_m_covers), (222, k_m_counts), (159, k_m_gains), (147, k_m_manyIn), (175, k_m_falseOf), (178, k_m_joinBy), (180, k_m_doClash), (182, k_m_laidOnes), (183, k_m_coveredBy)]
set_option maxRecDepth 100000 in
set_option maxHeartbeats 40000000 in
theorem ck_m_goesOnF : kchk prog HT kc_m_goesOnF tb_m_goesOnF 155 190 k_m_goesOnF = true := by decide +kernel
theorem kg_m_goesOnF {E : pX} : KGi E pV1 JT 190 k_m_goesOnF := kgi_of JT_P (by decide) ck_m_goesOnF (by unfold kc_m_goesOnF; exact (List.forall_mem_cons.mpr ⟨kg_m_saysAt JT_P hands, (List.forall_mem_cons.mpr ⟨kg_m_loses JT_P hands, (List.forall_mem_cons.mpr ⟨kg_m_worth JT_P hands, (List.forall_mem_cons.mpr ⟨kg_m_covers JT_P hands, (List.forall_mem_cons.mpr ⟨kg_m_counts JT_P hands, (List.forall_mem_cons.mpr ⟨kg_m_gains hands, (List.forall_mem_cons.mpr ⟨kg_m_manyIn hands, (List.forall_mem_cons.mpr ⟨kg_m_falseOf JT_P hands, (List.forall_mem_cons.mpr ⟨kg_m_joinBy JT_P hands, (List.forall_mem_cons.mpr ⟨kg_m_doClash JT_P hands, (List.forall_mem_cons.mpr ⟨kg_m_laidOnes JT_P hands, (List.forall_mem_cons.mpr ⟨kg_m_coveredBy JT_P hands, (fun _ h => absurd h List.not_mem_nil)⟩)⟩)⟩)⟩)⟩)⟩)⟩)⟩)⟩)⟩)⟩)⟩))
def k_r_tidesF : aK := ([.inr (false, [110]), .inl ((-2147483648), 2147483647)], some ((-2147483648), 2147483647), [(125, 125, 0, 127), (126, 126, 0, 99), (111, 111, 2, 4), (111, 111, 21, 74)], 50)
def tb_r_tidesF : aTb := fun mi i => if mi = 192 ∧ i = 15 then some ([(0, 2147483647, .inl 3)], [], [], [(125, 125, 0, 127), (126, 126, 0, 99), (111, 111, 2, 4), (111, 111, 21, 74)], 0, true) else none
def kc_r_tidesF : List (Nat × aK) := [(158, k_m_saysAt), (160, k_m_loses), (161, k_m_worth), (163, k_m_covers), (222, k_m_counts), (159, k_m_gains), (147, k_m_manyIn), (175, k_m_falseOf), (178, k_m_joinBy), (180, k_m_doClash), (182, k_m_laidOnes), (183, k_m_coveredBy), (184, k_m_findClashing), (185, k_m_areAtPeace), (188, k_m_otherwiseAt), (193, k_m_allTrust), (190, k_m_goesOnF)]
set_option maxRecDepth 100000 in
set_option maxHeartbeats 40000000 in
theorem ck_r_tidesF : kchk prog HT kc_r_tidesF tb_r_tidesF 44 192 k_r_tidesF = true := by decide +kernel
theorem kg_r_tidesF {E : pX} : KGi E pV1 JT 192 k_r_tidesF := kgi_of JT_P (by decide) ck_r_tidesF (by unfold kc_r_tidesF; exact (List.forall_mem_cons.mpr ⟨kg_m_saysAt JT_P hands, (List.forall_mem_cons.mpr ⟨kg_m_loses JT_P hands, (List.forall_mem_cons.mpr ⟨kg_m_worth JT_P hands, (List.forall_mem_cons.mpr ⟨kg_m_covers JT_P hands, (List.forall_mem_cons.mpr ⟨kg_m_counts JT_P hands, (List.forall_mem_cons.mpr ⟨kg_m_gains hands, (List.forall_mem_cons.mpr ⟨kg_m_manyIn hands, (List.forall_mem_cons.mpr ⟨kg_m_falseOf JT_P hands, (List.forall_mem_cons.mpr ⟨kg_m_joinBy JT_P hands, (List.forall_mem_cons.mpr ⟨kg_m_doClash JT_P hands, (List.forall_mem_cons.mpr ⟨kg_m_laidOnes JT_P hands, (List.forall_mem_cons.mpr ⟨kg_m_coveredBy JT_P hands, (List.forall_mem_cons.mpr ⟨kg_m_findClashing JT_P hands, (List.forall_mem_cons.mpr ⟨kg_m_areAtPeace JT_P hands, (List.forall_mem_cons.mpr ⟨kg_m_otherwiseAt JT_P hands, (List.forall_mem_cons.mpr ⟨kg_m_allTrust JT_P hands, (List.forall_mem_cons.mpr ⟨kg_m_goesOnF, (fun _ h => absurd h List.not_mem_nil)⟩)⟩)⟩)⟩)⟩)⟩)⟩)⟩)⟩)⟩)⟩)⟩)⟩)⟩)⟩)⟩)⟩))
def tp_rubbing : aTb := fun mi i => none
def rp_rubbing : List pq := [((8, 34, 5), (0, 111, 0), 0, 9)]
set_option maxRecDepth 100000 in
set_option maxHeartbeats 40000000 in
theorem cp_rubbing : prchk RL CL rp_rubbing [(34, 34, 5, 5), (39, 47, 0, 5), (111, 111, 0, 0), (111, 111, 21, 74)] [] tp_rubbing 324 86 156 3 [((-2147483648), 2147483647), ((-2147483648), 2147483647), ((-2147483648), 2147483647)] [] = true := by decide +kernel
def tp_deall : aTb := fun mi i => none
def rp_deall : List pq := []
set_option maxRecDepth 100000 in
set_option maxHeartbeats 40000000 in
theorem cp_deall : prchk RL CL rp_deall [] [] tp_deall 39 94 173 1 [((-2147483648), 0)] [] = true := by decide +kernel
def tp_dealh : aTb := fun mi i => none
def rp_dealh : List pq := []
set_option maxRecDepth 100000 in
set_option maxHeartbeats 40000000 in
theorem cp_dealh : prchk RL CL rp_dealh [] [] tp_dealh 46 94 173 1 [(10, 2147483647)] [] = true := by decide +kernel
def to_keep : aTb := fun mi i => if mi = 61 ∧ i = 38 then some ([(0, 2147483647, .inl 2)], [], [3], [(53, 61, 0, 5)], 0, true) else none
def ro_keep : List pq := [((8, 34, 5), (0, 111, 0), 0, 9)]
set_option maxRecDepth 100000 in
set_option maxHeartbeats 40000000 in
theorem ox_keep : oxchk ro_keep [(48, 48, 5, 9), (49, 49, 0, 15), (52, 52, 0, 2), (53, 61, 0, 5), (0, 0, 9, 9)] [] to_keep 129 128 0 [] [] (fun _ C _ x => ecV [(48, 5, (1, 1, 0, 1)), (0, 9, (0, 1, 1, 0))] (some (1, 1, 0, 1)) C x) = true := by decide +kernel
def to_back1 : aTb := fun mi i => if mi = 61 ∧ i = 38 then some ([(0, 2147483647, .inl 2)], [], [3], [(39, 47, 0, 5)], 0, true) else none
def ro_back1 : List pq := [((8, 48, 5), (0, 112, 0), 0, 9), ((9, 0, 9), (10, 110, 3), 1, 1)]
set_option maxRecDepth 100000 in
set_option maxHeartbeats 40000000 in
theorem ox_back1 : oxchk ro_back1 [(34, 34, 5, 9), (35, 35, 0, 15), (38, 38, 0, 2), (39, 47, 0, 5)] [] to_back1 132 129 0 [] [] (fun _ C _ x => ecV [(34, 5, (1, 1, 0, 1))] (some (1, 1, 0, 1)) C x) = true := by decide +kernel
def to_back0 : aTb := fun mi i => none
def ro_back0 : List pq := [((9, 0, 9), (10, 110, 3), 0, 0)]
set_option maxRecDepth 100000 in
set_option maxHeartbeats 40000000 in
theorem ox_back0 : oxchk ro_back0 [] [] to_back0 11 129 0 [] [] (fun _ C _ x => ecV [] (some (0, (-1000000002), (-1000000002), 0)) C x) = true := by decide +kernel
/-! ===== deal: what it brings ===== -/
def dz (v : Int32) : Int32 := v * 1103515245 + 12345
def itF (f : Int32 → Int32) : Nat → Int32 → Int32
  | 0, v => v
  | n + 1, v => itF f n (f v)
theorem itS (f : Int32 → Int32) (n : Nat) (v : Int32) : itF f (n + 1) v = itF f n (f v) := rfl
def dzN (n : Nat) (v : Int32) : Int32 := itF dz n v
theorem dzN0 (v : Int32) : dzN 0 v = v := rfl
theorem dzNs (n : Nat) (v : Int32) : dzN (n + 1) v = dzN n (dz v) := itS dz n v
abbrev Ex : Type := (aD → AV → Bool) × (Int32 → Int32)
def xZ : Ex := (fun _ x => decide (x = (1, 1, 0, 3)), fun v => v)
def xC (n : Int32) : Ex := (fun _ x => decide (x = cn n.toInt), fun _ => n)
def xO (c : Nat) (a b : Ex) : Ex := (fun Δ x => det x && Δ.any (fun f => decide (f.1 = c + 10) && decide (f.2.2.2 = x) && a.1 Δ f.2.1 && b.1 Δ f.2.2.1), fun v => opS c (a.2 v) (b.2 v))
def exV (v : Int32) (e : Ex) : Int32 := e.2 v
/-- x is the value of e, by what was worked out -/
def evD (Δ : aD) (e : Ex) (x : AV) : Bool := e.1 Δ x
theorem exVz (v : Int32) : exV v xZ = v := rfl
theorem exVc (v m : Int32) : exV v (xC m) = m := rfl
theorem exVo (v : Int32) (c : Nat) (a b : Ex) : exV v (xO c a b) = opS c (exV v a) (exV v b) := rfl
/-- it tells the truth of e -/
def EvS (e : Ex) : Prop := ∀ (n : Nat) (σ : Nat → Int) (Δ : aD) (v : Int32) (x : AV), fok n σ Δ → σ 3 = v.toInt → 3 < n → evD Δ e x = true → det x = true ∧ zG n σ (exV v e).toInt x
theorem evS_z : EvS xZ := fun n σ Δ v x hf hv h3 h => by
  obtain rfl : x = (1, 1, 0, 3) := of_decide_eq_true h
  rw [exVz]
  exact ⟨rfl, zG.mk (by decide) (by rw [hv]; show v.toInt = 1 * v.toInt + 0; omega) h3⟩
theorem evS_c (m : Int32) : EvS (xC m) := fun n σ Δ v x hf hv h3 h => by
  obtain rfl : x = cn m.toInt := of_decide_eq_true h
  rw [exVc]
  exact ⟨by unfold det cn; simp, cnZ _⟩
theorem evS_o {c : Nat} {a b : Ex} (ha : EvS a) (hb : EvS b) : EvS (xO c a b) := fun n σ Δ v x hf hv h3 h => by
  have h : (det x && Δ.any (fun f => decide (f.1 = c + 10) && decide (f.2.2.2 = x) && evD Δ a f.2.1 && evD Δ b f.2.2.1)) = true := h
  rw [Bool.and_eq_true] at h
  obtain ⟨d1, h⟩ := h
  obtain ⟨f, hm, h⟩ := List.any_eq_true.mp h
  rw [Bool.and_eq_true, Bool.and_eq_true, Bool.and_eq_true] at h
  obtain ⟨⟨⟨f1, f2⟩, f3⟩, f4⟩ := h
  have f1 := of_decide_eq_true f1
  have f2 := of_decide_eq_true f2
  obtain ⟨da, za⟩ := ha n σ Δ v f.2.1 hf hv h3 f3
  obtain ⟨db, zb⟩ := hb n σ Δ v f.2.2.1 hf hv h3 f4
  have k := hf f hm
  unfold fcG at k
  rw [if_neg (by omega)] at k
  obtain ⟨p, q, k1, k2, k3⟩ := k
  obtain rfl : p = exV v a := Int32.toInt_inj.mp (det_ok da k1 za)
  obtain rfl : q = exV v b := Int32.toInt_inj.mp (det_ok db k2 zb)
  rw [f1, f2, show c + 10 - 10 = c by omega] at k3
  rw [exVo]
  exact ⟨d1, k3⟩
theorem evD_ok {n : Nat} {σ : Nat → Int} {Δ : aD} {v : Int32} {e : Ex} (he : EvS e) (hf : fok n σ Δ) (hv : σ 3 = v.toInt) (h3 : 3 < n) (x : AV) (h : evD Δ e x = true) : det x = true ∧ zG n σ (exV v e).toInt x := he n σ Δ v x hf hv h3 h
def eZ1 : Ex := xO 0 (xO 2 xZ (xC 1103515245)) (xC 12345)
def eZ2 : Ex := xO 0 (xO 2 eZ1 (xC 1103515245)) (xC 12345)
def eZ3 : Ex := xO 0 (xO 2 eZ2 (xC 1103515245)) (xC 12345)
def eKD : Ex := xO 9 (xO 8 eZ1 (xC 8)) (xC 6)
def eRW : Ex := xO 9 (xO 8 eZ2 (xC 8)) (xC 65536)
def eSZ : Ex := xO 9 (xO 8 eZ3 (xC 8)) (xC 8)
theorem evS1 : EvS eZ1 := by unfold eZ1; exact evS_o (evS_o evS_z (evS_c _)) (evS_c _)
theorem evS2 : EvS eZ2 := by unfold eZ2; exact evS_o (evS_o evS1 (evS_c _)) (evS_c _)
theorem evS3 : EvS eZ3 := by unfold eZ3; exact evS_o (evS_o evS2 (evS_c _)) (evS_c _)
theorem evSK : EvS eKD := by unfold eKD; exact evS_o (evS_o evS1 (evS_c _)) (evS_c _)
theorem evSR : EvS eRW := by unfold eRW; exact evS_o (evS_o evS2 (evS_c _)) (evS_c _)
theorem evSS : EvS eSZ := by unfold eSZ; exact evS_o (evS_o evS3 (evS_c _)) (evS_c _)
theorem opS0 (a b : Int32) : opS 0 a b = a + b := rfl
theorem opS2 (a b : Int32) : opS 2 a b = a * b := rfl
theorem exDz (v : Int32) (e : Ex) : exV v (xO 0 (xO 2 e (xC 1103515245)) (xC 12345)) = dz (exV v e) := by
  rw [exVo, exVo, exVc, exVc, opS0, opS2, dz]
theorem exZ1 (v : Int32) : exV v eZ1 = dz v := by
  unfold eZ1
  rw [exDz, exVz]
theorem exZ2 (v : Int32) : exV v eZ2 = dz (dz v) := by
  unfold eZ2
  rw [exDz, exZ1]
theorem exZ3 (v : Int32) : exV v eZ3 = dz (dz (dz v)) := by
  unfold eZ3
  rw [exDz, exZ2]
theorem dzN3 (n : Nat) (v : Int32) : dzN (n + 3) v = dzN n (dz (dz (dz v))) := by
  rw [show n + 3 = (n + 2) + 1 from rfl, dzNs, show n + 2 = (n + 1) + 1 from rfl, dzNs, dzNs]
/-- the values of a RUBBING that is dealt -/
def rubG (a b c : Int) : Nat → Int
  | 0 => a
  | 1 => b
  | 2 => c + 1
  | 3 => 0
  | 4 => 16
  | _ => 50
theorem rubG0 (a b c : Int) : rubG a b c 0 = a := rfl
theorem rubG1 (a b c : Int) : rubG a b c 1 = b := rfl
theorem rubG2 (a b c : Int) : rubG a b c 2 = c + 1 := rfl
theorem rubG3 (a b c : Int) : rubG a b c 3 = 0 := rfl
theorem rubG4 (a b c : Int) : rubG a b c 4 = 16 := rfl
theorem rubG5 (a b c : Int) : rubG a b c 5 = 50 := rfl
def rubT (v : Int32) (f : Nat) : Int := rubG (exV v eKD).toInt (exV v eRW).toInt (exV v eSZ).toInt f
def evC (Δ : aD) (C : aC) (p : Nat × Nat) (e : Ex) : Bool := match cfind C (rf5 p.1) (cn (p.2 : Int)) with
  | some x => decide (x.1 ≤ 1) && evD Δ e x
  | none => false
def rbC (Δ : aD) (C : aC) (an ni az zi : Nat) (cl : Nat → Nat → Nat × Nat) (m : Nat) : Bool := decide (cfind C (rf5 an) (cn (ni : Int)) = some (cn (m + 1 : Nat))) && evC Δ C (az, zi) eZ3 && evC Δ C (cl m 0) eKD && evC Δ C (cl m 1) eRW && (match cfind C (rf5 (cl m 2).1) (cn ((cl m 2).2 : Int)) with
  | some x => decide (x.1 = 1) && decide (x.2.1 = 1) && decide (x.2.2.1 = 1) && evD Δ eSZ (1, 1, 0, x.2.2.2)
  | none => false) && decide (cfind C (rf5 (cl m 3).1) (cn ((cl m 3).2 : Int)) = some (cn 0)) && decide (cfind C (rf5 (cl m 4).1) (cn ((cl m 4).2 : Int)) = some (cn 16)) && decide (cfind C (rf5 (cl m 5).1) (cn ((cl m 5).2 : Int)) = some (cn 50))
theorem evC_ok {n : Nat} {σ : Nat → Int} {Δ : aD} {C : aC} {h' : List pC} {v : Int32} {p : Nat × Nat} {e : Ex} (he : EvS e) (hf : fok n σ Δ) (hv : σ 3 = v.toInt) (h3 : 3 < n) (hC : cok n σ h' C) (h : evC Δ C p e = true) : ri h' p.1 p.2 = exV v e := by
  unfold evC at h
  split at h
  · rename_i x hx
    rw [Bool.and_eq_true] at h
    obtain ⟨d, z⟩ := evD_ok he hf hv h3 x h.2
    exact Int32.toInt_inj.mp (det_ok d (ck_ri hC hx (of_decide_eq_true h.1)) z)
  · cases h
theorem rbC_ok {n : Nat} {σ : Nat → Int} {Δ : aD} {C : aC} {h' : List pC} {z : Int32} {an ni az zi m : Nat} {cl : Nat → Nat → Nat × Nat} (hv : σ 3 = z.toInt) (h3 : 3 < n) (hC : cok n σ h' C) (hf : fok n σ Δ) (h : rbC Δ C an ni az zi cl m = true) : (ri h' an ni).toInt = (m + 1 : Nat) ∧ ri h' az zi = dz (dz (dz z)) ∧ ∀ f, f < 6 → (ri h' (cl m f).1 (cl m f).2).toInt = rubT z f := by
  unfold rbC at h
  simp only [Bool.and_eq_true] at h
  obtain ⟨⟨⟨⟨⟨⟨⟨c1, c2⟩, c3⟩, c4⟩, c5⟩, c6⟩, c7⟩, c8⟩ := h
  have con : ∀ {a i : Nat} {k : Int}, decide (cfind C (rf5 a) (cn (i : Int)) = some (cn k)) = true → (ri h' a i).toInt = k := fun hq => zcn (ck_ri hC (of_decide_eq_true hq) (Nat.zero_le _))
  refine ⟨con c1, (evC_ok evS3 hf hv h3 hC c2).trans (exZ3 z), fun f h6 => ?_⟩
  match f, h6 with
  | 0, _ => exact (congrArg Int32.toInt (evC_ok evSK hf hv h3 hC c3)).trans (rubG0 _ _ _).symm
  | 1, _ => exact (congrArg Int32.toInt (evC_ok evSR hf hv h3 hC c4)).trans (rubG1 _ _ _).symm
  | 2, _ =>
    split at c5
    · rename_i x hx
      simp only [Bool.and_eq_true, decide_eq_true_eq] at c5
      obtain ⟨⟨⟨x1, x2⟩, x3⟩, x4⟩ := c5
      obtain ⟨t, a, b, k⟩ := x
      dsimp only at x1 x2 x3 x4
      subst x1 x2 x3
      obtain ⟨-, q1⟩ := evD_ok evSS hf hv h3 _ x4
      have q1 := zsy q1
      have q2 : (ri h' (cl m 2).1 (cl m 2).2).toInt = 1 * σ k + 1 := ((ck_ri hC hx (Nat.le_refl 1)).lin (show ¬ (1 : Nat) % 2 = 0 by decide)).1
      refine Eq.trans ?_ (rubG2 (exV z eKD).toInt (exV z eRW).toInt (exV z eSZ).toInt).symm
      omega
    · cases c5
  | 3, _ => exact (con c6).trans (rubG3 (exV z eKD).toInt (exV z eRW).toInt (exV z eSZ).toInt).symm
  | 4, _ => exact (con c7).trans (rubG4 (exV z eKD).toInt (exV z eRW).toInt (exV z eSZ).toInt).symm
  | 5, _ => exact (con c8).trans (rubG5 (exV z eKD).toInt (exV z eRW).toInt (exV z eSZ).toInt).symm
  | f + 6, h => omega
/-- j RUBBINGS were dealt behind m -/
def DL (an ni az zi : Nat) (cl : Nat → Nat → Nat × Nat) (m j : Nat) (h h' : List pC) : Prop := (ri h' an ni).toInt = (m + j : Nat) ∧ ri h' az zi = dzN (3 * j) (ri h az zi) ∧ ∀ i f, i < 9 → f < 6 → (m ≤ i → i < m + j → (ri h' (cl i f).1 (cl i f).2).toInt = rubT (dzN (3 * (i - m)) (ri h az zi)) f) ∧ (i < m ∨ m + j ≤ i → ri h' (cl i f).1 (cl i f).2 = ri h (cl i f).1 (cl i f).2)
section DLS
variable {an ni az zi m j : Nat} {cl : Nat → Nat → Nat × Nat} {h h1 h2 : List pC}
theorem DL.nil (em : (ri h an ni).toInt = m) : DL an ni az zi cl m 0 h h := ⟨em, rfl, fun i f _ _ => ⟨fun a b => by omega, fun _ => rfl⟩⟩
theorem DL.fr0 (em : (ri h an ni).toInt = m) (hf : Fr [] h h1) : DL an ni az zi cl m 0 h h1 := ⟨by rw [ri_fr hf rfl]; exact em, ri_fr hf rfl, fun i f _ _ => ⟨fun a b => by omega, fun _ => ri_fr hf rfl⟩⟩
theorem DL.eq (er : ∀ a i, ri h1 a i = ri h a i) (hd : DL an ni az zi cl m j h1 h2) : DL an ni az zi cl m j h h2 := by
  obtain ⟨d1, d2, d3⟩ := hd
  refine ⟨d1, by rw [d2, er], fun i f hi hf => ?_⟩
  obtain ⟨k1, k2⟩ := d3 i f hi hf
  exact ⟨fun a b => by rw [k1 a b, er], fun a => by rw [k2 a, er]⟩
theorem DL.cs (hm : m < 9) (r2 : ri h1 az zi = dz (dz (dz (ri h az zi)))) (r3 : ∀ f, f < 6 → (ri h1 (cl m f).1 (cl m f).2).toInt = rubT (ri h az zi) f) (r4 : ∀ i f, i < 9 → f < 6 → i ≠ m → ri h1 (cl i f).1 (cl i f).2 = ri h (cl i f).1 (cl i f).2) (hd : DL an ni az zi cl (m + 1) j h1 h2) : DL an ni az zi cl m (j + 1) h h2 := by
  obtain ⟨d1, d2, d3⟩ := hd
  refine ⟨by rw [d1]; omega, by rw [d2, r2, show 3 * (j + 1) = 3 * j + 3 by omega, dzN3], fun i f hi hf => ?_⟩
  obtain ⟨k1, k2⟩ := d3 i f hi hf
  refine ⟨fun a b => ?_, fun a => ?_⟩
  · by_cases e : i = m
    · subst e
      rw [k2 (Or.inl (by omega)), r3 f hf, show 3 * (i - i) = 0 by omega, dzN0]
    · rw [k1 (by omega) (by omega), r2, show 3 * (i - m) = 3 * (i - (m + 1)) + 3 by omega, dzN3]
  · rw [k2 (by omega), r4 i f hi hf (by omega)]
end DLS
theorem sixL {L : pL} (h : L.length = 6) : ∃ a b c d e f, L = [a, b, c, d, e, f] := by
  match L, h with
  | [a, b, c, d, e, f], _ => exact ⟨a, b, c, d, e, f, rfl⟩
theorem fiveL {L : pL} (h : L.length = 5) : ∃ a b c d e, L = [a, b, c, d, e] := by
  match L, h with
  | [a, b, c, d, e], _ => exact ⟨a, b, c, d, e, rfl⟩
def Wdc : aW := [(34, 34, 5, 5), (34, 34, 9, 9), (39, 47, 0, 5)]
def Wdcm (m : Nat) : aW := [(34, 34, 5, 5), (34, 34, 9, 9), (39 + m, 39 + m, 0, 5)]
def clc : Nat → Nat → Nat × Nat := fun i f => (39 + i, f)
def eac0 (S : aS) : Bool := (match S.2.2.2.1 with
  | [xa, xb, xc, x3, x4, x5] => decide (xa = rf5 0) && decide (xb = (1, 1, 0, 1)) && decide (xc = cn 0) && !isL x3 && !isL x4 && !isL x5
  | _ => false) && S.2.2.2.2.isEmpty
def eac1 (S : aS) : Bool := (match S.2.2.2.1 with
  | [xa, xb, xc, x3, x4, x5] => decide (xa = rf5 0) && decide (xb = (1, 1, 0, 1)) && decide (xc = (1, 1, 1, 2)) && !isL x3 && !isL x4 && !isL x5
  | _ => false) && S.2.2.2.2.isEmpty
def eac2 (S : aS) : Bool := (match S.2.2.2.1 with
  | [xa, xb, xc, x3, x4, x5] => decide (xa = rf5 0) && decide (xb = (1, 1, 0, 1)) && decide (xc = (1, 1, 0, 2)) && !isL x3 && !isL x4 && !isL x5
  | _ => false) && S.2.2.2.2.isEmpty
set_option maxRecDepth 100000 in
set_option maxHeartbeats 40000000 in
theorem kdc0 : aex prog HT [] [] true tb0 (fun i' S => decide (i' = 9) && (ctr S.2.2.1 || eac0 S)) oxN 60 false 50 94 mX7_deal 0 [.inl (77777, 77777), .inl (1, 9)] [] [] [rf5 0, (1, 1, 0, 1), any7, any7, any7, any7] [] [] [] = true := by decide +kernel
set_option maxRecDepth 100000 in
set_option maxHeartbeats 40000000 in
theorem kdc1_0 : (jf [(34, 34, 5, 5), (34, 34, 9, 9), (39, 39, 0, 5)] && subW [(34, 34, 5, 5), (34, 34, 9, 9), (39, 39, 0, 5)] Wdc && aex prog HT [(34, 34, 5, 5), (34, 34, 9, 9), (39, 39, 0, 5)] [] true tb0 (fun i' S => decide (i' = 9) && (ctr S.2.2.1 || (eac1 S && rbC S.2.2.1 S.2.1 34 5 34 9 clc 0))) oxN 150 true 50 94 mX7_deal 9 [.inl (77777, 77777), .inl (1, 9), .inl (0, 8), .inl (-2147483648, 2147483647)] [(rf5 34, cn 5, cn 0), (rf5 34, cn 9, (1, 1, 0, 3))] [(0, (1, 1, 0, 2), (1, 1, 0, 1), cn 0)] [rf5 0, (1, 1, 0, 1), (1, 1, 0, 2), any7, any7, any7] [] [] []) = true := by decide +kernel
set_option maxRecDepth 100000 in
set_option maxHeartbeats 40000000 in
theorem kdc1_1 : (jf [(34, 34, 5, 5), (34, 34, 9, 9), (40, 40, 0, 5)] && subW [(34, 34, 5, 5), (34, 34, 9, 9), (40, 40, 0, 5)] Wdc && aex prog HT [(34, 34, 5, 5), (34, 34, 9, 9), (40, 40, 0, 5)] [] true tb0 (fun i' S => decide (i' = 9) && (ctr S.2.2.1 || (eac1 S && rbC S.2.2.1 S.2.1 34 5 34 9 clc 1))) oxN 150 true 50 94 mX7_deal 9 [.inl (77777, 77777), .inl (1, 9), .inl (0, 8), .inl (-2147483648, 2147483647)] [(rf5 34, cn 5, cn 1), (rf5 34, cn 9, (1, 1, 0, 3))] [(0, (1, 1, 0, 2), (1, 1, 0, 1), cn 0)] [rf5 0, (1, 1, 0, 1), (1, 1, 0, 2), any7, any7, any7] [] [] []) = true := by decide +kernel
set_option maxRecDepth 100000 in
set_option maxHeartbeats 40000000 in
theorem kdc1_2 : (jf [(34, 34, 5, 5), (34, 34, 9, 9), (41, 41, 0, 5)] && subW [(34, 34, 5, 5), (34, 34, 9, 9), (41, 41, 0, 5)] Wdc && aex prog HT [(34, 34, 5, 5), (34, 34, 9, 9), (41, 41, 0, 5)] [] true tb0 (fun i' S => decide (i' = 9) && (ctr S.2.2.1 || (eac1 S && rbC S.2.2.1 S.2.1 34 5 34 9 clc 2))) oxN 150 true 50 94 mX7_deal 9 [.inl (77777, 77777), .inl (1, 9), .inl (0, 8), .inl (-2147483648, 2147483647)] [(rf5 34, cn 5, cn 2), (rf5 34, cn 9, (1, 1, 0, 3))] [(0, (1, 1, 0, 2), (1, 1, 0, 1), cn 0)] [rf5 0, (1, 1, 0, 1), (1, 1, 0, 2), any7, any7, any7] [] [] []) = true := by decide +kernel
set_option maxRecDepth 100000 in
set_option maxHeartbeats 40000000 in
theorem kdc1_3 : (jf [(34, 34, 5, 5), (34, 34, 9, 9), (42, 42, 0, 5)] && subW [(34, 34, 5, 5), (34, 34, 9, 9), (42, 42, 0, 5)] Wdc && aex prog HT [(34, 34, 5, 5), (34, 34, 9, 9), (42, 42, 0, 5)] [] true tb0 (fun i' S => decide (i' = 9) && (ctr S.2.2.1 || (eac1 S && rbC S.2.2.1 S.2.1 34 5 34 9 clc 3))) oxN 150 true 50 94 mX7_deal 9 [.inl (77777, 77777), .inl (1, 9), .inl (0, 8), .inl (-2147483648, 2147483647)] [(rf5 34, cn 5, cn 3), (rf5 34, cn 9, (1, 1, 0, 3))] [(0, (1, 1, 0, 2), (1, 1, 0, 1), cn 0)] [rf5 0, (1, 1, 0, 1), (1, 1, 0, 2), any7, any7, any7] [] [] []) = true := by decide +kernel
set_option maxRecDepth 100000 in
set_option maxHeartbeats 40000000 in
theorem kdc1_4 : (jf [(34, 34, 5, 5), (34, 34, 9, 9), (43, 43, 0, 5)] && subW [(34, 34, 5, 5), (34, 34, 9, 9), (43, 43, 0, 5)] Wdc && aex prog HT [(34, 34, 5, 5), (34, 34, 9, 9), (43, 43, 0, 5)] [] true tb0 (fun i' S => decide (i' = 9) && (ctr S.2.2.1 || (eac1 S && rbC S.2.2.1 S.2.1 34 5 34 9 clc 4))) oxN 150 true 50 94 mX7_deal 9 [.inl (77777, 77777), .inl (1, 9), .inl (0, 8), .inl (-2147483648, 2147483647)] [(rf5 34, cn 5, cn 4), (rf5 34, cn 9, (1, 1, 0, 3))] [(0, (1, 1, 0, 2), (1, 1, 0, 1), cn 0)] [rf5 0, (1, 1, 0, 1), (1, 1, 0, 2), any7, any7, any7] [] [] []) = true := by decide +kernel
set_option maxRecDepth 100000 in
set_option maxHeartbeats 40000000 in
theorem kdc1_5 : (jf [(34, 34, 5, 5), (34, 34, 9, 9), (44, 44, 0, 5)] && subW [(34, 34, 5, 5), (34, 34, 9, 9), (44, 44, 0, 5)] Wdc && aex prog HT [(34, 34, 5, 5), (34, 34, 9, 9), (44, 44, 0, 5)] [] true tb0 (fun i' S => decide (i' = 9) && (ctr S.2.2.1 || (eac1 S && rbC S.2.2.1 S.2.1 34 5 34 9 clc 5))) oxN 150 true 50 94 mX7_deal 9 [.inl (77777, 77777), .inl (1, 9), .inl (0, 8), .inl (-2147483648, 2147483647)] [(rf5 34, cn 5, cn 5), (rf5 34, cn 9, (1, 1, 0, 3))] [(0, (1, 1, 0, 2), (1, 1, 0, 1), cn 0)] [rf5 0, (1, 1, 0, 1), (1, 1, 0, 2), any7, any7, any7] [] [] []) = true := by decide +kernel
set_option maxRecDepth 100000 in
set_option maxHeartbeats 40000000 in
theorem kdc1_6 : (jf [(34, 34, 5, 5), (34, 34, 9, 9), (45, 45, 0, 5)] && subW [(34, 34, 5, 5), (34, 34, 9, 9), (45, 45, 0, 5)] Wdc && aex prog HT [(34, 34, 5, 5), (34, 34, 9, 9), (45, 45, 0, 5)] [] true tb0 (fun i' S => decide (i' = 9) && (ctr S.2.2.1 || (eac1 S && rbC S.2.2.1 S.2.1 34 5 34 9 clc 6))) oxN 150 true 50 94 mX7_deal 9 [.inl (77777, 77777), .inl (1, 9), .inl (0, 8), .inl (-2147483648, 2147483647)] [(rf5 34, cn 5, cn 6), (rf5 34, cn 9, (1, 1, 0, 3))] [(0, (1, 1, 0, 2), (1, 1, 0, 1), cn 0)] [rf5 0, (1, 1, 0, 1), (1, 1, 0, 2), any7, any7, any7] [] [] []) = true := by decide +kernel
set_option maxRecDepth 100000 in
set_option maxHeartbeats 40000000 in
theorem kdc1_7 : (jf [(34, 34, 5, 5), (34, 34, 9, 9), (46, 46, 0, 5)] && subW [(34, 34, 5, 5), (34, 34, 9, 9), (46, 46, 0, 5)] Wdc && aex prog HT [(34, 34, 5, 5), (34, 34, 9, 9), (46, 46, 0, 5)] [] true tb0 (fun i' S => decide (i' = 9) && (ctr S.2.2.1 || (eac1 S && rbC S.2.2.1 S.2.1 34 5 34 9 clc 7))) oxN 150 true 50 94 mX7_deal 9 [.inl (77777, 77777), .inl (1, 9), .inl (0, 8), .inl (-2147483648, 2147483647)] [(rf5 34, cn 5, cn 7), (rf5 34, cn 9, (1, 1, 0, 3))] [(0, (1, 1, 0, 2), (1, 1, 0, 1), cn 0)] [rf5 0, (1, 1, 0, 1), (1, 1, 0, 2), any7, any7, any7] [] [] []) = true := by decide +kernel
set_option maxRecDepth 100000 in
set_option maxHeartbeats 40000000 in
theorem kdc1_8 : (jf [(34, 34, 5, 5), (34, 34, 9, 9), (47, 47, 0, 5)] && subW [(34, 34, 5, 5), (34, 34, 9, 9), (47, 47, 0, 5)] Wdc && aex prog HT [(34, 34, 5, 5), (34, 34, 9, 9), (47, 47, 0, 5)] [] true tb0 (fun i' S => decide (i' = 9) && (ctr S.2.2.1 || (eac1 S && rbC S.2.2.1 S.2.1 34 5 34 9 clc 8))) oxN 150 true 50 94 mX7_deal 9 [.inl (77777, 77777), .inl (1, 9), .inl (0, 8), .inl (-2147483648, 2147483647)] [(rf5 34, cn 5, cn 8), (rf5 34, cn 9, (1, 1, 0, 3))] [(0, (1, 1, 0, 2), (1, 1, 0, 1), cn 0)] [rf5 0, (1, 1, 0, 1), (1, 1, 0, 2), any7, any7, any7] [] [] []) = true := by decide +kernel
theorem kdc1 : ∀ m : Nat, m < 9 → (jf (Wdcm m) && subW (Wdcm m) Wdc && aex prog HT (Wdcm m) [] true tb0 (fun i' S => decide (i' = 9) && (ctr S.2.2.1 || (eac1 S && rbC S.2.2.1 S.2.1 34 5 34 9 clc m))) oxN 150 true 50 94 mX7_deal 9 [.inl (77777, 77777), .inl (1, 9), .inl (0, 8), .inl (-2147483648, 2147483647)] [(rf5 34, cn 5, cn m), (rf5 34, cn 9, (1, 1, 0, 3))] [(0, (1, 1, 0, 2), (1, 1, 0, 1), cn 0)] [rf5 0, (1, 1, 0, 1), (1, 1, 0, 2), any7, any7, any7] [] [] []) = true
  | 0, _ => kdc1_0
  | 1, _ => kdc1_1
  | 2, _ => kdc1_2
  | 3, _ => kdc1_3
  | 4, _ => kdc1_4
  | 5, _ => kdc1_5
  | 6, _ => kdc1_6
  | 7, _ => kdc1_7
  | 8, _ => kdc1_8
  | m + 9, h => absurd h (by omega)
set_option maxRecDepth 100000 in
set_option maxHeartbeats 40000000 in
theorem kdc2 : aex prog HT [] [] true tb0 (fun i' S => decide (i' = 45) && (ctr S.2.2.1 || eac2 S)) oxN 60 true 50 94 mX7_deal 9 [.inl (77777, 77777), .inl (1, 9), .inl (0, 9)] [(rf5 34, cn 5, cn 9)] [] [rf5 0, (1, 1, 0, 1), (1, 1, 0, 2), any7, any7, any7] [] [] [] = true := by decide +kernel
section DEALC
variable {E : pX} {h : List pC}
theorem ct_cd (hh : HI HT h) : ct h 34 5 = some (.int (ri h 34 5)) ∧ ct h 34 9 = some (.int (ri h 34 9)) := ⟨(ri_ty (k := 8) (a := 34) (i := 5) (p := (0, 9)) hh rfl).1, (ri_ty (k := 8) (a := 34) (i := 9) (p := (-2147483648, 2147483647)) hh rfl).1⟩
theorem deal_cl {d : Nat} (hd : 50 ≤ d + 1) {n : Int32} (hn0 : 1 ≤ n.toInt) (hn : n.toInt ≤ 9) : ∀ (t : Nat) (c : Int32) (a3 a4 a5 : Option Value) (h : List pC) (m : Nat), m ≤ 9 → c.toInt + t = n.toInt → 0 ≤ c.toInt → pcat2 a3 = false → pcat2 a4 = false → pcat2 a5 = false → HI HT h → JT h → (ri h 34 5).toInt = m → Gl prog E pV1 (fun r h' => ∃ (j : Nat) (v : Int32), (j : Int) = min (t : Int) (9 - m) ∧ r = some (.int v) ∧ v.toInt = c.toInt + j ∧ HI HT h' ∧ JT h' ∧ Fr Wdc h h' ∧ DL 34 5 34 9 clc m j h h') (d + 1) mX7_deal 9 [some (.ref 0), some (.int n), some (.int c), a3, a4, a5] [] h [] := by
  intro t
  induction t with
  | zero =>
    intro c a3 a4 a5 h m h9 h1 h2 c3 c4 c5 hh hj em
    refine ⟨some (.int c), h, ?_, 0, c, by omega, rfl, by omega, hh, hj, Fr.rf _ _, DL.nil em⟩
    refine RA.steps 2 rfl ?_
    refine RA.if2T (x := 45) rfl (decide_eq_true (Int32.le_iff_toInt_le.mpr (by omega))) ?_
    refine RA.steps 1 rfl ?_
    exact RA.ret rfl rfl
  | succ t ih =>
    intro c a3 a4 a5 h m h9 h1 h2 c3 c4 c5 hh hj em
    obtain ⟨cn1, cz1⟩ := ct_cd hh
    by_cases hm9 : m = 9
    · subst hm9
      refine hop (σ0 := fun t => match t with | 0 => 77777 | 1 => n.toInt | _ => c.toInt) kdc2 no_kc (by decide) hj hd (by decide) ⟨⟨Nat.le_refl _, agr.rf _ _⟩, fun k e hk => ?_, ?_, (fun e he => by cases he), LG.cons (lGr 0) (LG.cons (lGi (show 1 < 3 by decide) (by show n.toInt = 1 * n.toInt + 0; omega)) (LG.cons (lGi (show 2 < 3 by decide) (by show c.toInt = 1 * c.toInt + 0; omega)) (LG.cons (lG.any c3) (LG.cons (lG.any c4) (LG.cons (lG.any c5) LGn))))), trivial, hh, Fr.rf _ _⟩ (fun σ S L' st' h1' hec g => ?_)
      · match k, hk with
        | 0, hk => cases hk; exact ⟨Int.le_refl 77777, Int.le_refl 77777⟩
        | 1, hk => cases hk; exact ⟨hn0, hn⟩
        | 2, hk => cases hk; exact ⟨h2, by show c.toInt ≤ 9; omega⟩
        | k + 3, hk => simp at hk
      · exact cok.cs ⟨34, 5, _, Or.inl ⟨rfl, rfl⟩, cnZ _, cn1, Nat.zero_le _, by rw [em]; exact cnZ _⟩ cok.nil
      · unfold eac2 at hec
        rw [Bool.and_eq_true] at hec
        obtain ⟨b1, b2⟩ := hec
        obtain ⟨⟨gn, ga⟩, gk, gc, gf, gL, gS_, gh, gF⟩ := g
        split at b1
        · rename_i xa xb xc x3 x4 x5 hA
          rw [hA] at gL
          simp only [Bool.and_eq_true, decide_eq_true_eq, Bool.not_eq_true'] at b1
          obtain ⟨⟨⟨⟨⟨rfl, rfl⟩, rfl⟩, e3⟩, e4⟩, e5⟩ := b1
          obtain ⟨l0, l1, l2, l3, l4, l5, rfl⟩ := sixL gL.1
          obtain ⟨w0, k0, v0⟩ := gL.at (k := 0) rfl (by decide)
          obtain ⟨w1, k1, v1⟩ := gL.at (k := 1) rfl (by decide)
          obtain ⟨w2, k2, v2⟩ := gL.at (k := 2) rfl (by decide)
          have q3 : pcat2 l3 = false := gL.cat2 (k := 3) rfl (of_decide_eq_false e3)
          have q4 : pcat2 l4 = false := gL.cat2 (k := 4) rfl (of_decide_eq_false e4)
          have q5 : pcat2 l5 = false := gL.cat2 (k := 5) rfl (of_decide_eq_false e5)
          obtain rfl : l0 = some w0 := k0
          obtain rfl : l1 = some w1 := k1
          obtain rfl : l2 = some w2 := k2
          obtain ⟨a, rfl, ha | ha⟩ := v0.ref (Or.inl rfl)
          rotate_left
          · exact absurd ha.1 (show ¬ (5 : Nat) = 6 by decide)
          obtain rfl : a = 0 := ha.2
          obtain ⟨u1, rfl, z1⟩ := v1.int (Nat.le_refl 1)
          obtain ⟨u2, rfl, z2⟩ := v2.int (by decide)
          obtain rfl : u1 = n := Int32.toInt_inj.mp ((zsy z1).trans (ga 1 (by decide)))
          obtain rfl : st' = [] := by
            have := gS_
            rw [List.isEmpty_iff.mp b2] at this
            exact this.nil_inv
          obtain rfl : u2 = c := Int32.toInt_inj.mp ((zsy z2).trans (ga 2 (by decide)))
          have hj1 : JT h1' := JT_P _ _ _ (by decide) gF hj
          refine ⟨some (.int u2), h1', ?_, 0, u2, by omega, rfl, by omega, gh, hj1, gF.sub rfl, DL.fr0 em gF⟩
          refine RA.steps 1 rfl ?_
          exact RA.ret rfl rfl
        · cases b1
    · have hm8 : m < 9 := by omega
      have hck := kdc1 m hm8
      rw [Bool.and_eq_true, Bool.and_eq_true] at hck
      obtain ⟨⟨hjf, hsw⟩, hck⟩ := hck
      refine hop (σ0 := fun t => match t with | 0 => 77777 | 1 => n.toInt | 2 => c.toInt | _ => (ri h 34 9).toInt) hck no_kc hjf hj hd (by decide) ⟨⟨Nat.le_refl _, agr.rf _ _⟩, fun k e hk => ?_, ?_, ?_, LG.cons (lGr 0) (LG.cons (lGi (show 1 < 4 by decide) (by show n.toInt = 1 * n.toInt + 0; omega)) (LG.cons (lGi (show 2 < 4 by decide) (by show c.toInt = 1 * c.toInt + 0; omega)) (LG.cons (lG.any c3) (LG.cons (lG.any c4) (LG.cons (lG.any c5) LGn))))), trivial, hh, Fr.rf _ _⟩ (fun σ S L' st' h1' hec g => ?_)
      · match k, hk with
        | 0, hk => cases hk; exact ⟨Int.le_refl 77777, Int.le_refl 77777⟩
        | 1, hk => cases hk; exact ⟨hn0, hn⟩
        | 2, hk => cases hk; exact ⟨h2, by show c.toInt ≤ 8; omega⟩
        | 3, hk => cases hk; exact ⟨i32_lo _, i32_hi _⟩
        | k + 4, hk => simp at hk
      · exact cok.cs ⟨34, 5, _, Or.inl ⟨rfl, rfl⟩, cnZ _, cn1, Nat.zero_le _, by rw [em]; exact cnZ _⟩ (cok.cs ⟨34, 9, _, Or.inl ⟨rfl, rfl⟩, cnZ _, cz1, Nat.le_refl 1, zG.mk (by decide) (by show (ri h 34 9).toInt = 1 * (ri h 34 9).toInt + 0; omega) (show 3 < 4 by decide)⟩ cok.nil)
      · intro f hf
        obtain rfl := List.mem_singleton.mp hf
        exact ⟨c.toInt, n.toInt, zG.mk (by decide) (by show c.toInt = 1 * c.toInt + 0; omega) (show 2 < 4 by decide), zG.mk (by decide) (by show n.toInt = 1 * n.toInt + 0; omega) (show 1 < 4 by decide), (show c.toInt < n.toInt by omega)⟩
      · unfold eac1 at hec
        rw [Bool.and_eq_true, Bool.and_eq_true] at hec
        obtain ⟨⟨b1, b2⟩, b3⟩ := hec
        obtain ⟨⟨gn, ga⟩, gk, gc, gf, gL, gS_, gh, gF⟩ := g
        split at b1
        · rename_i xa xb xc x3 x4 x5 hA
          rw [hA] at gL
          simp only [Bool.and_eq_true, decide_eq_true_eq, Bool.not_eq_true'] at b1
          obtain ⟨⟨⟨⟨⟨rfl, rfl⟩, rfl⟩, e3⟩, e4⟩, e5⟩ := b1
          obtain ⟨l0, l1, l2, l3, l4, l5, rfl⟩ := sixL gL.1
          obtain ⟨w0, k0, v0⟩ := gL.at (k := 0) rfl (by decide)
          obtain ⟨w1, k1, v1⟩ := gL.at (k := 1) rfl (by decide)
          obtain ⟨w2, k2, v2⟩ := gL.at (k := 2) rfl (by decide)
          have q3 : pcat2 l3 = false := gL.cat2 (k := 3) rfl (of_decide_eq_false e3)
          have q4 : pcat2 l4 = false := gL.cat2 (k := 4) rfl (of_decide_eq_false e4)
          have q5 : pcat2 l5 = false := gL.cat2 (k := 5) rfl (of_decide_eq_false e5)
          obtain rfl : l0 = some w0 := k0
          obtain rfl : l1 = some w1 := k1
          obtain rfl : l2 = some w2 := k2
          obtain ⟨a, rfl, ha | ha⟩ := v0.ref (Or.inl rfl)
          rotate_left
          · exact absurd ha.1 (show ¬ (5 : Nat) = 6 by decide)
          obtain rfl : a = 0 := ha.2
          obtain ⟨u1, rfl, z1⟩ := v1.int (Nat.le_refl 1)
          obtain ⟨u2, rfl, z2⟩ := v2.int (by decide)
          obtain rfl : u1 = n := Int32.toInt_inj.mp ((zsy z1).trans (ga 1 (by decide)))
          obtain rfl : st' = [] := by
            have := gS_
            rw [List.isEmpty_iff.mp b2] at this
            exact this.nil_inv
          have y2 : u2.toInt = c.toInt + 1 := by
            have y2 : u2.toInt = 1 * σ 2 + 1 := (z2.lin (show ¬ (1 : Nat) % 2 = 0 by decide)).1
            have s2 : σ 2 = c.toInt := ga 2 (by decide)
            omega
          obtain ⟨r1, r2, r3⟩ := rbC_ok (z := ri h 34 9) (ga 3 (by decide)) (Nat.lt_of_lt_of_le (show 3 < 4 by decide) gn) gc gf b3
          have hj1 : JT h1' := JT_P _ _ _ hjf gF hj
          refine (ih u2 l3 l4 l5 h1' (m + 1) (by omega) (by omega) (by omega) q3 q4 q5 gh hj1 r1).weak (fun r h2' hp => ?_)
          obtain ⟨j, v, p1, p2, p3, p4, p5, p6, p7⟩ := hp
          refine ⟨j + 1, v, by omega, p2, by omega, p4, p5, (gF.sub hsw).tr p6, DL.cs hm8 r2 r3 (fun i f hi hf hne => ri_fr gF (nin_iff.mpr ?_)) p7⟩
          simp only [Wdcm, clc, List.forall_mem_cons]
          exact ⟨by omega, by omega, by omega, fun _ h => absurd h List.not_mem_nil⟩
        · cases b1
theorem deal_c (x : Int32) (hx : 1 ≤ x.toInt ∧ x.toInt ≤ 9) (hh : HI HT h) (hj : JT h) {m : Nat} (h9 : m ≤ 9) (em : (ri h 34 5).toInt = m) : ∃ (j : Nat) (v : Int32) (h' : List pC), Run prog E pV1 120 mX7_deal [.ref 0, .int x] h (some (.int v), h', 0, 0) ∧ (j : Int) = min x.toInt (9 - m) ∧ v.toInt = j ∧ HI HT h' ∧ JT h' ∧ Fr Wdc h h' ∧ DL 34 5 34 9 clc m j h h' := by
  have g : Gl prog E pV1 (fun r h' => ∃ (j : Nat) (v : Int32), (j : Int) = min x.toInt (9 - m) ∧ r = some (.int v) ∧ v.toInt = j ∧ HI HT h' ∧ JT h' ∧ Fr Wdc h h' ∧ DL 34 5 34 9 clc m j h h') 120 mX7_deal 0 (pent (m_l mX7_deal) [.ref 0, .int x]) [] h [] := by
    refine hop (σ0 := fun t => match t with | 0 => 77777 | _ => x.toInt) kdc0 no_kc (by decide) hj (by decide) (by decide) ⟨⟨Nat.le_refl _, agr.rf _ _⟩, fun k e hk => ?_, (fun e he => by cases he), (fun e he => by cases he), LG.cons (lGr 0) (LG.cons (lGi (by decide) (by show x.toInt = 1 * x.toInt + 0; omega)) (LG.cons (lG.any rfl) (LG.cons (lG.any rfl) (LG.cons (lG.any rfl) (LG.cons (lG.any rfl) LGn))))), trivial, hh, Fr.rf _ _⟩ (fun σ S L' st' h1' hec g => ?_)
    · match k, hk with
      | 0, hk => cases hk; exact ⟨Int.le_refl 77777, Int.le_refl 77777⟩
      | 1, hk => cases hk; exact hx
      | k + 2, hk => simp at hk
    · unfold eac0 at hec
      rw [Bool.and_eq_true] at hec
      obtain ⟨b1, b2⟩ := hec
      obtain ⟨⟨gn, ga⟩, gk, gc, gf, gL, gS_, gh, gF⟩ := g
      split at b1
      · rename_i xa xb xc x3 x4 x5 hA
        rw [hA] at gL
        simp only [Bool.and_eq_true, decide_eq_true_eq, Bool.not_eq_true'] at b1
        obtain ⟨⟨⟨⟨⟨rfl, rfl⟩, rfl⟩, e3⟩, e4⟩, e5⟩ := b1
        obtain ⟨l0, l1, l2, l3, l4, l5, rfl⟩ := sixL gL.1
        obtain ⟨w0, k0, v0⟩ := gL.at (k := 0) rfl (by decide)
        obtain ⟨w1, k1, v1⟩ := gL.at (k := 1) rfl (by decide)
        obtain ⟨w2, k2, v2⟩ := gL.at (k := 2) rfl (by decide)
        have q3 : pcat2 l3 = false := gL.cat2 (k := 3) rfl (of_decide_eq_false e3)
        have q4 : pcat2 l4 = false := gL.cat2 (k := 4) rfl (of_decide_eq_false e4)
        have q5 : pcat2 l5 = false := gL.cat2 (k := 5) rfl (of_decide_eq_false e5)
        obtain rfl : l0 = some w0 := k0
        obtain rfl : l1 = some w1 := k1
        obtain rfl : l2 = some w2 := k2
        obtain ⟨a, rfl, ha | ha⟩ := v0.ref (Or.inl rfl)
        rotate_left
        · exact absurd ha.1 (show ¬ (5 : Nat) = 6 by decide)
        obtain rfl : a = 0 := ha.2
        obtain ⟨u1, rfl, z1⟩ := v1.int (Nat.le_refl 1)
        obtain ⟨u2, rfl, z2⟩ := v2.int (by decide)
        obtain rfl : u1 = x := Int32.toInt_inj.mp ((zsy z1).trans (ga 1 (by decide)))
        obtain rfl : st' = [] := by
          have := gS_
          rw [List.isEmpty_iff.mp b2] at this
          exact this.nil_inv
        obtain rfl : u2 = 0 := Int32.toInt_inj.mp ((zcn z2).trans (by decide))
        have hj1 : JT h1' := JT_P _ _ _ (by decide) gF hj
        have er : ∀ a i, ri h1' a i = ri h a i := fun a i => ri_fr gF rfl
        refine (deal_cl (E := E) (d := 119) (by decide) hx.1 hx.2 u1.toInt.toNat 0 l3 l4 l5 h1' m h9 (by rw [show (0 : Int32).toInt = 0 by decide]; omega) (by decide) q3 q4 q5 gh hj1 (by rw [er]; exact em)).weak (fun r h2' hp => ?_)
        obtain ⟨j, v, p1, p2, p3, p4, p5, p6, p7⟩ := hp
        exact ⟨j, v, by omega, p2, (by have e0 : (0 : Int32).toInt = 0 := (by decide); omega), p4, p5, (gF.sub rfl).tr p6, DL.eq er p7⟩
      · cases b1
  obtain ⟨r, h', q1, j, v, q2, rfl, q3⟩ := g
  exact ⟨j, v, h', ⟨Nat.le_of_ble_eq_true rfl, ⟨_, _, rfl⟩, q1⟩, q2, q3⟩
end DEALC
def Wdr : aW := [(111, 111, 0, 0), (111, 111, 4, 4), (111, 111, 21, 74)]
def Wdrm (m : Nat) : aW := [(111, 111, 0, 0), (111, 111, 4, 4), (111, 111, 21 + 6 * m, 26 + 6 * m)]
def clr : Nat → Nat → Nat × Nat := fun i f => (111, 21 + 6 * i + f)
def ear0 (S : aS) : Bool := (match S.2.2.2.1 with
  | [xa, xb, xc, x3, x4] => decide (xa = rf5 110) && decide (xb = (1, 1, 0, 1)) && decide (xc = cn 0) && !isL x3 && !isL x4
  | _ => false) && S.2.2.2.2.isEmpty
def ear1 (S : aS) : Bool := (match S.2.2.2.1 with
  | [xa, xb, xc, x3, x4] => decide (xa = rf5 110) && decide (xb = (1, 1, 0, 1)) && decide (xc = (1, 1, 1, 2)) && !isL x3 && !isL x4
  | _ => false) && S.2.2.2.2.isEmpty
def ear2 (S : aS) : Bool := (match S.2.2.2.1 with
  | [xa, xb, xc, x3, x4] => decide (xa = rf5 110) && decide (xb = (1, 1, 0, 1)) && decide (xc = (1, 1, 0, 2)) && !isL x3 && !isL x4
  | _ => false) && S.2.2.2.2.isEmpty
set_option maxRecDepth 100000 in
set_option maxHeartbeats 40000000 in
theorem kdr0 : aex prog HT [] [] true tb0 (fun i' S => decide (i' = 10) && (ctr S.2.2.1 || ear0 S)) oxN 60 false 110 173 mX8_deal 0 [.inl (77777, 77777), .inl (1, 9)] [] [] [rf5 110, (1, 1, 0, 1), any7, any7, any7] [] [] [] = true := by decide +kernel
set_option maxRecDepth 100000 in
set_option maxHeartbeats 40000000 in
theorem kdr1_0 : (jf [(111, 111, 0, 0), (111, 111, 4, 4), (111, 111, 21, 26)] && subW [(111, 111, 0, 0), (111, 111, 4, 4), (111, 111, 21, 26)] Wdr && aex prog HT [(111, 111, 0, 0), (111, 111, 4, 4), (111, 111, 21, 26)] [] true tb0 (fun i' S => decide (i' = 10) && (ctr S.2.2.1 || (ear1 S && rbC S.2.2.1 S.2.1 111 0 111 4 clr 0))) oxN 215 true 110 173 mX8_deal 10 [.inl (77777, 77777), .inl (1, 9), .inl (0, 8), .inl (-2147483648, 2147483647)] [(rf5 111, cn 0, cn 0), (rf5 111, cn 4, (1, 1, 0, 3))] [(0, (1, 1, 0, 2), (1, 1, 0, 1), cn 0)] [rf5 110, (1, 1, 0, 1), (1, 1, 0, 2), any7, any7] [] [] []) = true := by decide +kernel
set_option maxRecDepth 100000 in
set_option maxHeartbeats 40000000 in
theorem kdr1_1 : (jf [(111, 111, 0, 0), (111, 111, 4, 4), (111, 111, 27, 32)] && subW [(111, 111, 0, 0), (111, 111, 4, 4), (111, 111, 27, 32)] Wdr && aex prog HT [(111, 111, 0, 0), (111, 111, 4, 4), (111, 111, 27, 32)] [] true tb0 (fun i' S => decide (i' = 10) && (ctr S.2.2.1 || (ear1 S && rbC S.2.2.1 S.2.1 111 0 111 4 clr 1))) oxN 215 true 110 173 mX8_deal 10 [.inl (77777, 77777), .inl (1, 9), .inl (0, 8), .inl (-2147483648, 2147483647)] [(rf5 111, cn 0, cn 1), (rf5 111, cn 4, (1, 1, 0, 3))] [(0, (1, 1, 0, 2), (1, 1, 0, 1), cn 0)] [rf5 110, (1, 1, 0, 1), (1, 1, 0, 2), any7, any7] [] [] []) = true := by decide +kernel
set_option maxRecDepth 100000 in
set_option maxHeartbeats 40000000 in
theorem kdr1_2 : (jf [(111, 111, 0, 0), (111, 111, 4, 4), (111, 111, 33, 38)] && subW [(111, 111, 0, 0), (111, 111, 4, 4), (111, 111, 33, 38)] Wdr && aex prog HT [(111, 111, 0, 0), (111, 111, 4, 4), (111, 111, 33, 38)] [] true tb0 (fun i' S => decide (i' = 10) && (ctr S.2.2.1 || (ear1 S && rbC S.2.2.1 S.2.1 111 0 111 4 clr 2))) oxN 215 true 110 173 mX8_deal 10 [.inl (77777, 77777), .inl (1, 9), .inl (0, 8), .inl (-2147483648, 2147483647)] [(rf5 111, cn 0, cn 2), (rf5 111, cn 4, (1, 1, 0, 3))] [(0, (1, 1, 0, 2), (1, 1, 0, 1), cn 0)] [rf5 110, (1, 1, 0, 1), (1, 1, 0, 2), any7, any7] [] [] []) = true := by decide +kernel
set_option maxRecDepth 100000 in
set_option maxHeartbeats 40000000 in
theorem kdr1_3 : (jf [(111, 111, 0, 0), (111, 111, 4, 4), (111, 111, 39, 44)] && subW [(111, 111, 0, 0), (111, 111, 4, 4), (111, 111, 39, 44)] Wdr && aex prog HT [(111, 111, 0, 0), (111, 111, 4, 4), (111, 111, 39, 44)] [] true tb0 (fun i' S => decide (i' = 10) && (ctr S.2.2.1 || (ear1 S && rbC S.2.2.1 S.2.1 111 0 111 4 clr 3))) oxN 215 true 110 173 mX8_deal 10 [.inl (77777, 77777), .inl (1, 9), .inl (0, 8), .inl (-2147483648, 2147483647)] [(rf5 111, cn 0, cn 3), (rf5 111, cn 4, (1, 1, 0, 3))] [(0, (1, 1, 0, 2), (1, 1, 0, 1), cn 0)] [rf5 110, (1, 1, 0, 1), (1, 1, 0, 2), any7, any7] [] [] []) = true := by decide +kernel
set_option maxRecDepth 100000 in
set_option maxHeartbeats 40000000 in
theorem kdr1_4 : (jf [(111, 111, 0, 0), (111, 111, 4, 4), (111, 111, 45, 50)] && subW [(111, 111, 0, 0), (111, 111, 4, 4), (111, 111, 45, 50)] Wdr && aex prog HT [(111, 111, 0, 0), (111, 111, 4, 4), (111, 111, 45, 50)] [] true tb0 (fun i' S => decide (i' = 10) && (ctr S.2.2.1 || (ear1 S && rbC S.2.2.1 S.2.1 111 0 111 4 clr 4))) oxN 215 true 110 173 mX8_deal 10 [.inl (77777, 77777), .inl (1, 9), .inl (0, 8), .inl (-2147483648, 2147483647)] [(rf5 111, cn 0, cn 4), (rf5 111, cn 4, (1, 1, 0, 3))] [(0, (1, 1, 0, 2), (1, 1, 0, 1), cn 0)] [rf5 110, (1, 1, 0, 1), (1, 1, 0, 2), any7, any7] [] [] []) = true := by decide +kernel
set_option maxRecDepth 100000 in
set_option maxHeartbeats 40000000 in
theorem kdr1_5 : (jf [(111, 111, 0, 0), (111, 111, 4, 4), (111, 111, 51, 56)] && subW [(111, 111, 0, 0), (111, 111, 4, 4), (111, 111, 51, 56)] Wdr && aex prog HT [(111, 111, 0, 0), (111, 111, 4, 4), (111, 111, 51, 56)] [] true tb0 (fun i' S => decide (i' = 10) && (ctr S.2.2.1 || (ear1 S && rbC S.2.2.1 S.2.1 111 0 111 4 clr 5))) oxN 215 true 110 173 mX8_deal 10 [.inl (77777, 77777), .inl (1, 9), .inl (0, 8), .inl (-2147483648, 2147483647)] [(rf5 111, cn 0, cn 5), (rf5 111, cn 4, (1, 1, 0, 3))] [(0, (1, 1, 0, 2), (1, 1, 0, 1), cn 0)] [rf5 110, (1, 1, 0, 1), (1, 1, 0, 2), any7, any7] [] [] []) = true := by decide +kernel
set_option maxRecDepth 100000 in
set_option maxHeartbeats 40000000 in
theorem kdr1_6 : (jf [(111, 111, 0, 0), (111, 111, 4, 4), (111, 111, 57, 62)] && subW [(111, 111, 0, 0), (111, 111, 4, 4), (111, 111, 57, 62)] Wdr && aex prog HT [(111, 111, 0, 0), (111, 111, 4, 4), (111, 111, 57, 62)] [] true tb0 (fun i' S => decide (i' = 10) && (ctr S.2.2.1 || (ear1 S && rbC S.2.2.1 S.2.1 111 0 111 4 clr 6))) oxN 215 true 110 173 mX8_deal 10 [.inl (77777, 77777), .inl (1, 9), .inl (0, 8), .inl (-2147483648, 2147483647)] [(rf5 111, cn 0, cn 6), (rf5 111, cn 4, (1, 1, 0, 3))] [(0, (1, 1, 0, 2), (1, 1, 0, 1), cn 0)] [rf5 110, (1, 1, 0, 1), (1, 1, 0, 2), any7, any7] [] [] []) = true := by decide +kernel
set_option maxRecDepth 100000 in
set_option maxHeartbeats 40000000 in
theorem kdr1_7 : (jf [(111, 111, 0, 0), (111, 111, 4, 4), (111, 111, 63, 68)] && subW [(111, 111, 0, 0), (111, 111, 4, 4), (111, 111, 63, 68)] Wdr && aex prog HT [(111, 111, 0, 0), (111, 111, 4, 4), (111, 111, 63, 68)] [] true tb0 (fun i' S => decide (i' = 10) && (ctr S.2.2.1 || (ear1 S && rbC S.2.2.1 S.2.1 111 0 111 4 clr 7))) oxN 215 true 110 173 mX8_deal 10 [.inl (77777, 77777), .inl (1, 9), .inl (0, 8), .inl (-2147483648, 2147483647)] [(rf5 111, cn 0, cn 7), (rf5 111, cn 4, (1, 1, 0, 3))] [(0, (1, 1, 0, 2), (1, 1, 0, 1), cn 0)] [rf5 110, (1, 1, 0, 1), (1, 1, 0, 2), any7, any7] [] [] []) = true := by decide +kernel
set_option maxRecDepth 100000 in
set_option maxHeartbeats 40000000 in
theorem kdr1_8 : (jf [(111, 111, 0, 0), (111, 111, 4, 4), (111, 111, 69, 74)] && subW [(111, 111, 0, 0), (111, 111, 4, 4), (111, 111, 69, 74)] Wdr && aex prog HT [(111, 111, 0, 0), (111, 111, 4, 4), (111, 111, 69, 74)] [] true tb0 (fun i' S => decide (i' = 10) && (ctr S.2.2.1 || (ear1 S && rbC S.2.2.1 S.2.1 111 0 111 4 clr 8))) oxN 215 true 110 173 mX8_deal 10 [.inl (77777, 77777), .inl (1, 9), .inl (0, 8), .inl (-2147483648, 2147483647)] [(rf5 111, cn 0, cn 8), (rf5 111, cn 4, (1, 1, 0, 3))] [(0, (1, 1, 0, 2), (1, 1, 0, 1), cn 0)] [rf5 110, (1, 1, 0, 1), (1, 1, 0, 2), any7, any7] [] [] []) = true := by decide +kernel
theorem kdr1 : ∀ m : Nat, m < 9 → (jf (Wdrm m) && subW (Wdrm m) Wdr && aex prog HT (Wdrm m) [] true tb0 (fun i' S => decide (i' = 10) && (ctr S.2.2.1 || (ear1 S && rbC S.2.2.1 S.2.1 111 0 111 4 clr m))) oxN 215 true 110 173 mX8_deal 10 [.inl (77777, 77777), .inl (1, 9), .inl (0, 8), .inl (-2147483648, 2147483647)] [(rf5 111, cn 0, cn m), (rf5 111, cn 4, (1, 1, 0, 3))] [(0, (1, 1, 0, 2), (1, 1, 0, 1), cn 0)] [rf5 110, (1, 1, 0, 1), (1, 1, 0, 2), any7, any7] [] [] []) = true
  | 0, _ => kdr1_0
  | 1, _ => kdr1_1
  | 2, _ => kdr1_2
  | 3, _ => kdr1_3
  | 4, _ => kdr1_4
  | 5, _ => kdr1_5
  | 6, _ => kdr1_6
  | 7, _ => kdr1_7
  | 8, _ => kdr1_8
  | m + 9, h => absurd h (by omega)
set_option maxRecDepth 100000 in
set_option maxHeartbeats 40000000 in
theorem kdr2 : aex prog HT [] [] true tb0 (fun i' S => decide (i' = 41) && (ctr S.2.2.1 || ear2 S)) oxN 60 true 110 173 mX8_deal 10 [.inl (77777, 77777), .inl (1, 9), .inl (0, 9)] [(rf5 111, cn 0, cn 9)] [] [rf5 110, (1, 1, 0, 1), (1, 1, 0, 2), any7, any7] [] [] [] = true := by decide +kernel
section DEALR
variable {E : pX} {h : List pC}
theorem ct_rd (hh : HI HT h) : ct h 111 0 = some (.int (ri h 111 0)) ∧ ct h 111 4 = some (.int (ri h 111 4)) := by
  obtain ⟨f, p1, u1, -⟩ := hi_int hh HT111
  exact ⟨by rw [ct_ri p1 (by decide), ← u1 0 (by decide)], by rw [ct_ri p1 (by decide), ← u1 4 (by decide)]⟩
theorem deal_rl {d : Nat} (hd : 110 ≤ d + 1) {n : Int32} (hn0 : 1 ≤ n.toInt) (hn : n.toInt ≤ 9) : ∀ (t : Nat) (c : Int32) (a3 a4 : Option Value) (h : List pC) (m : Nat), m ≤ 9 → c.toInt + t = n.toInt → 0 ≤ c.toInt → pcat2 a3 = false → pcat2 a4 = false → HI HT h → JT h → (ri h 111 0).toInt = m → Gl prog E pV1 (fun r h' => ∃ (j : Nat) (v : Int32), (j : Int) = min (t : Int) (9 - m) ∧ r = some (.int v) ∧ v.toInt = c.toInt + j ∧ HI HT h' ∧ JT h' ∧ Fr Wdr h h' ∧ DL 111 0 111 4 clr m j h h') (d + 1) mX8_deal 10 [some (.ref 110), some (.int n), some (.int c), a3, a4] [] h [] := by
  intro t
  induction t with
  | zero =>
    intro c a3 a4 h m h9 h1 h2 c3 c4 hh hj em
    refine ⟨some (.int c), h, ?_, 0, c, by omega, rfl, by omega, hh, hj, Fr.rf _ _, DL.nil em⟩
    refine RA.steps 2 rfl ?_
    refine RA.if2T (x := 41) rfl (decide_eq_true (Int32.le_iff_toInt_le.mpr (by omega))) ?_
    refine RA.steps 1 rfl ?_
    exact RA.ret rfl rfl
  | succ t ih =>
    intro c a3 a4 h m h9 h1 h2 c3 c4 hh hj em
    obtain ⟨cn1, cz1⟩ := ct_rd hh
    by_cases hm9 : m = 9
    · subst hm9
      refine hop (σ0 := fun t => match t with | 0 => 77777 | 1 => n.toInt | _ => c.toInt) kdr2 no_kc (by decide) hj hd (by decide) ⟨⟨Nat.le_refl _, agr.rf _ _⟩, fun k e hk => ?_, ?_, (fun e he => by cases he), LG.cons (lGr 110) (LG.cons (lGi (show 1 < 3 by decide) (by show n.toInt = 1 * n.toInt + 0; omega)) (LG.cons (lGi (show 2 < 3 by decide) (by show c.toInt = 1 * c.toInt + 0; omega)) (LG.cons (lG.any c3) (LG.cons (lG.any c4) LGn)))), trivial, hh, Fr.rf _ _⟩ (fun σ S L' st' h1' hec g => ?_)
      · match k, hk with
        | 0, hk => cases hk; exact ⟨Int.le_refl 77777, Int.le_refl 77777⟩
        | 1, hk => cases hk; exact ⟨hn0, hn⟩
        | 2, hk => cases hk; exact ⟨h2, by show c.toInt ≤ 9; omega⟩
        | k + 3, hk => simp at hk
      · exact cok.cs ⟨111, 0, _, Or.inl ⟨rfl, rfl⟩, cnZ _, cn1, Nat.zero_le _, by rw [em]; exact cnZ _⟩ cok.nil
      · unfold ear2 at hec
        rw [Bool.and_eq_true] at hec
        obtain ⟨b1, b2⟩ := hec
        obtain ⟨⟨gn, ga⟩, gk, gc, gf, gL, gS_, gh, gF⟩ := g
        split at b1
        · rename_i xa xb xc x3 x4 hA
          rw [hA] at gL
          simp only [Bool.and_eq_true, decide_eq_true_eq, Bool.not_eq_true'] at b1
          obtain ⟨⟨⟨⟨rfl, rfl⟩, rfl⟩, e3⟩, e4⟩ := b1
          obtain ⟨l0, l1, l2, l3, l4, rfl⟩ := fiveL gL.1
          obtain ⟨w0, k0, v0⟩ := gL.at (k := 0) rfl (by decide)
          obtain ⟨w1, k1, v1⟩ := gL.at (k := 1) rfl (by decide)
          obtain ⟨w2, k2, v2⟩ := gL.at (k := 2) rfl (by decide)
          have q3 : pcat2 l3 = false := gL.cat2 (k := 3) rfl (of_decide_eq_false e3)
          have q4 : pcat2 l4 = false := gL.cat2 (k := 4) rfl (of_decide_eq_false e4)
          obtain rfl : l0 = some w0 := k0
          obtain rfl : l1 = some w1 := k1
          obtain rfl : l2 = some w2 := k2
          obtain ⟨a, rfl, ha | ha⟩ := v0.ref (Or.inl rfl)
          rotate_left
          · exact absurd ha.1 (show ¬ (5 : Nat) = 6 by decide)
          obtain rfl : a = 110 := ha.2
          obtain ⟨u1, rfl, z1⟩ := v1.int (Nat.le_refl 1)
          obtain ⟨u2, rfl, z2⟩ := v2.int (by decide)
          obtain rfl : u1 = n := Int32.toInt_inj.mp ((zsy z1).trans (ga 1 (by decide)))
          obtain rfl : st' = [] := by
            have := gS_
            rw [List.isEmpty_iff.mp b2] at this
            exact this.nil_inv
          obtain rfl : u2 = c := Int32.toInt_inj.mp ((zsy z2).trans (ga 2 (by decide)))
          have hj1 : JT h1' := JT_P _ _ _ (by decide) gF hj
          refine ⟨some (.int u2), h1', ?_, 0, u2, by omega, rfl, by omega, gh, hj1, gF.sub rfl, DL.fr0 em gF⟩
          refine RA.steps 1 rfl ?_
          exact RA.ret rfl rfl
        · cases b1
    · have hm8 : m < 9 := by omega
      have hck := kdr1 m hm8
      rw [Bool.and_eq_true, Bool.and_eq_true] at hck
      obtain ⟨⟨hjf, hsw⟩, hck⟩ := hck
      refine hop (σ0 := fun t => match t with | 0 => 77777 | 1 => n.toInt | 2 => c.toInt | _ => (ri h 111 4).toInt) hck no_kc hjf hj hd (by decide) ⟨⟨Nat.le_refl _, agr.rf _ _⟩, fun k e hk => ?_, ?_, ?_, LG.cons (lGr 110) (LG.cons (lGi (show 1 < 4 by decide) (by show n.toInt = 1 * n.toInt + 0; omega)) (LG.cons (lGi (show 2 < 4 by decide) (by show c.toInt = 1 * c.toInt + 0; omega)) (LG.cons (lG.any c3) (LG.cons (lG.any c4) LGn)))), trivial, hh, Fr.rf _ _⟩ (fun σ S L' st' h1' hec g => ?_)
      · match k, hk with
        | 0, hk => cases hk; exact ⟨Int.le_refl 77777, Int.le_refl 77777⟩
        | 1, hk => cases hk; exact ⟨hn0, hn⟩
        | 2, hk => cases hk; exact ⟨h2, by show c.toInt ≤ 8; omega⟩
        | 3, hk => cases hk; exact ⟨i32_lo _, i32_hi _⟩
        | k + 4, hk => simp at hk
      · exact cok.cs ⟨111, 0, _, Or.inl ⟨rfl, rfl⟩, cnZ _, cn1, Nat.zero_le _, by rw [em]; exact cnZ _⟩ (cok.cs ⟨111, 4, _, Or.inl ⟨rfl, rfl⟩, cnZ _, cz1, Nat.le_refl 1, zG.mk (by decide) (by show (ri h 111 4).toInt = 1 * (ri h 111 4).toInt + 0; omega) (show 3 < 4 by decide)⟩ cok.nil)
      · intro f hf
        obtain rfl := List.mem_singleton.mp hf
        exact ⟨c.toInt, n.toInt, zG.mk (by decide) (by show c.toInt = 1 * c.toInt + 0; omega) (show 2 < 4 by decide), zG.mk (by decide) (by show n.toInt = 1 * n.toInt + 0; omega) (show 1 < 4 by decide), (show c.toInt < n.toInt by omega)⟩
      · unfold ear1 at hec
        rw [Bool.and_eq_true, Bool.and_eq_true] at hec
        obtain ⟨⟨b1, b2⟩, b3⟩ := hec
        obtain ⟨⟨gn, ga⟩, gk, gc, gf, gL, gS_, gh, gF⟩ := g
        split at b1
        · rename_i xa xb xc x3 x4 hA
          rw [hA] at gL
          simp only [Bool.and_eq_true, decide_eq_true_eq, Bool.not_eq_true'] at b1
          obtain ⟨⟨⟨⟨rfl, rfl⟩, rfl⟩, e3⟩, e4⟩ := b1
          obtain ⟨l0, l1, l2, l3, l4, rfl⟩ := fiveL gL.1
          obtain ⟨w0, k0, v0⟩ := gL.at (k := 0) rfl (by decide)
          obtain ⟨w1, k1, v1⟩ := gL.at (k := 1) rfl (by decide)
          obtain ⟨w2, k2, v2⟩ := gL.at (k := 2) rfl (by decide)
          have q3 : pcat2 l3 = false := gL.cat2 (k := 3) rfl (of_decide_eq_false e3)
          have q4 : pcat2 l4 = false := gL.cat2 (k := 4) rfl (of_decide_eq_false e4)
          obtain rfl : l0 = some w0 := k0
          obtain rfl : l1 = some w1 := k1
          obtain rfl : l2 = some w2 := k2
          obtain ⟨a, rfl, ha | ha⟩ := v0.ref (Or.inl rfl)
          rotate_left
          · exact absurd ha.1 (show ¬ (5 : Nat) = 6 by decide)
          obtain rfl : a = 110 := ha.2
          obtain ⟨u1, rfl, z1⟩ := v1.int (Nat.le_refl 1)
          obtain ⟨u2, rfl, z2⟩ := v2.int (by decide)
          obtain rfl : u1 = n := Int32.toInt_inj.mp ((zsy z1).trans (ga 1 (by decide)))
          obtain rfl : st' = [] := by
            have := gS_
            rw [List.isEmpty_iff.mp b2] at this
            exact this.nil_inv
          have y2 : u2.toInt = c.toInt + 1 := by
            have y2 : u2.toInt = 1 * σ 2 + 1 := (z2.lin (show ¬ (1 : Nat) % 2 = 0 by decide)).1
            have s2 : σ 2 = c.toInt := ga 2 (by decide)
            omega
          obtain ⟨r1, r2, r3⟩ := rbC_ok (z := ri h 111 4) (ga 3 (by decide)) (Nat.lt_of_lt_of_le (show 3 < 4 by decide) gn) gc gf b3
          have hj1 : JT h1' := JT_P _ _ _ hjf gF hj
          refine (ih u2 l3 l4 h1' (m + 1) (by omega) (by omega) (by omega) q3 q4 gh hj1 r1).weak (fun r h2' hp => ?_)
          obtain ⟨j, v, p1, p2, p3, p4, p5, p6, p7⟩ := hp
          refine ⟨j + 1, v, by omega, p2, by omega, p4, p5, (gF.sub hsw).tr p6, DL.cs hm8 r2 r3 (fun i f hi hf hne => ri_fr gF (nin_iff.mpr ?_)) p7⟩
          simp only [Wdrm, clr, List.forall_mem_cons]
          exact ⟨by omega, by omega, by omega, fun _ h => absurd h List.not_mem_nil⟩
        · cases b1
theorem deal_r (x : Int32) (hx : 1 ≤ x.toInt ∧ x.toInt ≤ 9) (hh : HI HT h) (hj : JT h) {m : Nat} (h9 : m ≤ 9) (em : (ri h 111 0).toInt = m) : ∃ (j : Nat) (v : Int32) (h' : List pC), Run prog E pV1 120 mX8_deal [.ref 110, .int x] h (some (.int v), h', 0, 0) ∧ (j : Int) = min x.toInt (9 - m) ∧ v.toInt = j ∧ HI HT h' ∧ JT h' ∧ Fr Wdr h h' ∧ DL 111 0 111 4 clr m j h h' := by
  have g : Gl prog E pV1 (fun r h' => ∃ (j : Nat) (v : Int32), (j : Int) = min x.toInt (9 - m) ∧ r = some (.int v) ∧ v.toInt = j ∧ HI HT h' ∧ JT h' ∧ Fr Wdr h h' ∧ DL 111 0 111 4 clr m j h h') 120 mX8_deal 0 (pent (m_l mX8_deal) [.ref 110, .int x]) [] h [] := by
    refine hop (σ0 := fun t => match t with | 0 => 77777 | _ => x.toInt) kdr0 no_kc (by decide) hj (by decide) (by decide) ⟨⟨Nat.le_refl _, agr.rf _ _⟩, fun k e hk => ?_, (fun e he => by cases he), (fun e he => by cases he), LG.cons (lGr 110) (LG.cons (lGi (by decide) (by show x.toInt = 1 * x.toInt + 0; omega)) (LG.cons (lG.any rfl) (LG.cons (lG.any rfl) (LG.cons (lG.any rfl) LGn)))), trivial, hh, Fr.rf _ _⟩ (fun σ S L' st' h1' hec g => ?_)
    · match k, hk with
      | 0, hk => cases hk; exact ⟨Int.le_refl 77777, Int.le_refl 77777⟩
      | 1, hk => cases hk; exact hx
      | k + 2, hk => simp at hk
    · unfold ear0 at hec
      rw [Bool.and_eq_true] at hec
      obtain ⟨b1, b2⟩ := hec
      obtain ⟨⟨gn, ga⟩, gk, gc, gf, gL, gS_, gh, gF⟩ := g
      split at b1
      · rename_i xa xb xc x3 x4 hA
        rw [hA] at gL
        simp only [Bool.and_eq_true, decide_eq_true_eq, Bool.not_eq_true'] at b1
        obtain ⟨⟨⟨⟨rfl, rfl⟩, rfl⟩, e3⟩, e4⟩ := b1
        obtain ⟨l0, l1, l2, l3, l4, rfl⟩ := fiveL gL.1
        obtain ⟨w0, k0, v0⟩ := gL.at (k := 0) rfl (by decide)
        obtain ⟨w1, k1, v1⟩ := gL.at (k := 1) rfl (by decide)
        obtain ⟨w2, k2, v2⟩ := gL.at (k := 2) rfl (by decide)
        have q3 : pcat2 l3 = false := gL.cat2 (k := 3) rfl (of_decide_eq_false e3)
        have q4 : pcat2 l4 = false := gL.cat2 (k := 4) rfl (of_decide_eq_false e4)
        obtain rfl : l0 = some w0 := k0
        obtain rfl : l1 = some w1 := k1
        obtain rfl : l2 = some w2 := k2
        obtain ⟨a, rfl, ha | ha⟩ := v0.ref (Or.inl rfl)
        rotate_left
        · exact absurd ha.1 (show ¬ (5 : Nat) = 6 by decide)
        obtain rfl : a = 110 := ha.2
        obtain ⟨u1, rfl, z1⟩ := v1.int (Nat.le_refl 1)
        obtain ⟨u2, rfl, z2⟩ := v2.int (by decide)
        obtain rfl : u1 = x := Int32.toInt_inj.mp ((zsy z1).trans (ga 1 (by decide)))
        obtain rfl : st' = [] := by
          have := gS_
          rw [List.isEmpty_iff.mp b2] at this
          exact this.nil_inv
        obtain rfl : u2 = 0 := Int32.toInt_inj.mp ((zcn z2).trans (by decide))
        have hj1 : JT h1' := JT_P _ _ _ (by decide) gF hj
        have er : ∀ a i, ri h1' a i = ri h a i := fun a i => ri_fr gF rfl
        refine (deal_rl (E := E) (d := 119) (by decide) hx.1 hx.2 u1.toInt.toNat 0 l3 l4 h1' m h9 (by rw [show (0 : Int32).toInt = 0 by decide]; omega) (by decide) q3 q4 gh hj1 (by rw [er]; exact em)).weak (fun r h2' hp => ?_)
        obtain ⟨j, v, p1, p2, p3, p4, p5, p6, p7⟩ := hp
        exact ⟨j, v, by omega, p2, (by have e0 : (0 : Int32).toInt = 0 := (by decide); omega), p4, p5, (gF.sub rfl).tr p6, DL.eq er p7⟩
      · cases b1
  obtain ⟨r, h', q1, j, v, q2, rfl, q3⟩ := g
  exact ⟨j, v, h', ⟨Nat.le_of_ble_eq_true rfl, ⟨_, _, rfl⟩, q1⟩, q2, q3⟩
end DEALR
section LWS
variable {E : pX} {h : List pC}
theorem rub_ty {a : Nat} (hh : HI HT h) (he : elT HT 6 a 2 2 = some (.inl (1, 8))) : 1 ≤ (ri h a 2).toInt ∧ (ri h a 2).toInt ≤ 8 := (ri_ty hh he).2
theorem ty_34_5 (hh : HI HT h) (hR : RJ h) : 0 ≤ (ri h 34 5).toInt ∧ (ri h 34 5).toInt ≤ 9 := by
  have e : ri h 34 5 = ri h 111 0 := (hR.1 _ List.mem_cons_self)
  have c := (ri_ty (k := 8) (a := 34) (i := 5) (p := (0, 9)) hh rfl).2
  have r := (ri_ty (k := 0) (a := 111) (i := 0) (p := (0, 9)) hh rfl).2
  rw [← e] at r
  dsimp only at c r
  omega
theorem ty_48_5 (hh : HI HT h) (hR : RJ h) : 0 ≤ (ri h 48 5).toInt ∧ (ri h 48 5).toInt ≤ 9 := by
  have e : ri h 48 5 = ri h 112 0 := (hR.1 _ (List.mem_cons_of_mem _ List.mem_cons_self))
  have c := (ri_ty (k := 8) (a := 48) (i := 5) (p := (0, 9)) hh rfl).2
  have r := (ri_ty (k := 0) (a := 112) (i := 0) (p := (0, 9)) hh rfl).2
  rw [← e] at r
  dsimp only at c r
  omega
theorem ty_0_9 (hh : HI HT h) (hR : RJ h) : 0 ≤ (ri h 0 9).toInt ∧ (ri h 0 9).toInt ≤ 1 := by
  have e : ri h 0 9 = ri h 110 3 := (hR.1 _ (List.mem_cons_of_mem _ (List.mem_cons_of_mem _ List.mem_cons_self)))
  have c := (ri_ty (k := 9) (a := 0) (i := 9) (p := (0, 1)) hh rfl).2
  have r := (ri_ty (k := 10) (a := 110) (i := 3) (p := (0, 1)) hh rfl).2
  rw [← e] at r
  dsimp only at c r
  omega
theorem lf_rubbing (x1 x2 x3 : Int32) (hh : HI HT h) (hj : JT h) (hR : RJ h) : ∃ (r1 r2 : Int32) (h1 h2 : List pC), Run prog E pV1 120 mX7_rubbing [.ref 0, .int x1, .int x2, .int x3] h (some (.int r1), h1, 0, 0) ∧ Run prog E pV1 120 mX8_rubbing [.ref 110, .int x1, .int x2, .int x3] h1 (some (.int r2), h2, 0, 0) ∧ (∃ o, pobj h1 110 = some o ∧ o.1 = 8) ∧ HI HT h2 ∧ JT h2 ∧ RJ h2 := by
  obtain ⟨r, h1, h2, q1, q2, q3, p1, p2, p3, p4⟩ := pr_ok3 (E := E) (x1 := x1) (x2 := x2) (x3 := x3) cp_rubbing rfl rfl (List.cons_ne_nil _ _) (List.cons_ne_nil _ _) (fun _ h => absurd h List.not_mem_nil) hh hj hR.1 hR.2.1 ⟨i32_b x1, i32_b x2, i32_b x3, trivial⟩ (pBd.cs (ty_34_5 hh hR).1 (ty_34_5 hh hR).2 pBd.nl) (fun e he => by cases he)
  exact ⟨r, r, h1, h2, q1, q2, q3, p1, p2, p3.1, p3.2, xj_fr hR.2.2 p4 (by decide +kernel)⟩
theorem lw_rubbing (x1 x2 x3 : Int32) (hh : HI HT h) (hj : JT h) (hR : RJ h) : ∃ (r1 r2 : Int32) (h1 h2 : List pC), Run prog E pV1 120 mX7_rubbing [.ref 0, .int x1, .int x2, .int x3] h (some (.int r1), h1, 0, 0) ∧ Run prog E pV1 120 mX8_rubbing [.ref 110, .int x1, .int x2, .int x3] h1 (some (.int r2), h2, 0, 0) ∧ (∃ o, pobj h1 110 = some o ∧ o.1 = 8) ∧ HI HT h2 ∧ JT h2 ∧ RJ h2 := by
  have ex1 := i32_b x1
  have ex2 := i32_b x2
  have ex3 := i32_b x3
  have t34_5 := ty_34_5 hh hR
  exact lf_rubbing x1 x2 x3 hh hj hR
theorem lw_told (x1 x2 : Int32) (hh : HI HT h) (hj : JT h) (hR : RJ h) : ∃ (r1 r2 : Int32) (h1 h2 : List pC), Run prog E pV1 120 mX7_told [.ref 0, .int x1, .int x2] h (some (.int r1), h1, 0, 0) ∧ Run prog E pV1 120 mX8_told [.ref 110, .int x1, .int x2] h1 (some (.int r2), h2, 0, 0) ∧ (∃ o, pobj h1 110 = some o ∧ o.1 = 8) ∧ HI HT h2 ∧ JT h2 ∧ RJ h2 := by
  obtain ⟨r1, h1, q1, hh1, f1, hj1⟩ := pub_of (E := E) (a := 0) (kg_c_told JT_P hands) (N := mX7_told) rfl (List.cons_ne_nil _ _) [x1, x2] rfl (fun q => by cases q) (Nat.le_of_ble_eq_true rfl) hh hj
  obtain ⟨r2, h2, q2, hh2, f2, hj2⟩ := pub_of (E := E) (a := 110) (kg_r_told JT_P hands) (N := mX8_told) rfl (List.cons_ne_nil _ _) [x1, x2] rfl (fun q => by cases q) (Nat.le_of_ble_eq_true rfl) hh1 hj1
  exact ⟨r1, r2, h1, h2, q1, q2, mobj hh1, hh2, hj2, ⟨pRel_fr (pRel_fr hR.1 f1 (by decide +kernel)) f2 (by decide +kernel), cRel_fr (cRel_fr hR.2.1 f1 (by decide +kernel)) f2 (by decide +kernel), xj_fr (xj_fr hR.2.2 f1 (by decide +kernel)) f2 (by decide +kernel)⟩⟩
theorem lw_says (x1 x2 : Int32) (hh : HI HT h) (hj : JT h) (hR : RJ h) : ∃ (r1 r2 : Int32) (h1 h2 : List pC), Run prog E pV1 120 mX7_says [.ref 0, .int x1, .int x2] h (some (.int r1), h1, 0, 0) ∧ Run prog E pV1 120 mX8_says [.ref 110, .int x1, .int x2] h1 (some (.int r2), h2, 0, 0) ∧ (∃ o, pobj h1 110 = some o ∧ o.1 = 8) ∧ HI HT h2 ∧ JT h2 ∧ RJ h2 := by
  obtain ⟨r1, h1, q1, hh1, f1, hj1⟩ := pub_of (E := E) (a := 0) (kg_c_says JT_P hands) (N := mX7_says) rfl (List.cons_ne_nil _ _) [x1, x2] rfl (fun q => by cases q) (Nat.le_of_ble_eq_true rfl) hh hj
  obtain ⟨r2, h2, q2, hh2, f2, hj2⟩ := pub_of (E := E) (a := 110) (kg_r_says JT_P hands) (N := mX8_says) rfl (List.cons_ne_nil _ _) [x1, x2] rfl (fun q => by cases q) (Nat.le_of_ble_eq_true rfl) hh1 hj1
  exact ⟨r1, r2, h1, h2, q1, q2, mobj hh1, hh2, hj2, ⟨pRel_fr (pRel_fr hR.1 f1 (by decide +kernel)) f2 (by decide +kernel), cRel_fr (cRel_fr hR.2.1 f1 (by decide +kernel)) f2 (by decide +kernel), xj_fr (xj_fr hR.2.2 f1 (by decide +kernel)) f2 (by decide +kernel)⟩⟩
theorem lw_as (x1 x2 : Int32) (hh : HI HT h) (hj : JT h) (hR : RJ h) : ∃ (r1 r2 : Int32) (h1 h2 : List pC), Run prog E pV1 120 mX7_as [.ref 0, .int x1, .int x2] h (some (.int r1), h1, 0, 0) ∧ Run prog E pV1 120 mX8_as [.ref 110, .int x1, .int x2] h1 (some (.int r2), h2, 0, 0) ∧ (∃ o, pobj h1 110 = some o ∧ o.1 = 8) ∧ HI HT h2 ∧ JT h2 ∧ RJ h2 := by
  obtain ⟨r1, h1, q1, hh1, f1, hj1⟩ := pub_of (E := E) (a := 0) (kg_c_as JT_P hands) (N := mX7_as) rfl (List.cons_ne_nil _ _) [x1, x2] rfl (fun q => by cases q) (Nat.le_of_ble_eq_true rfl) hh hj
  obtain ⟨r2, h2, q2, hh2, f2, hj2⟩ := pub_of (E := E) (a := 110) (kg_r_as JT_P hands) (N := mX8_as) rfl (List.cons_ne_nil _ _) [x1, x2] rfl (fun q => by cases q) (Nat.le_of_ble_eq_true rfl) hh1 hj1
  exact ⟨r1, r2, h1, h2, q1, q2, mobj hh1, hh2, hj2, ⟨pRel_fr (pRel_fr hR.1 f1 (by decide +kernel)) f2 (by decide +kernel), cRel_fr (cRel_fr hR.2.1 f1 (by decide +kernel)) f2 (by decide +kernel), xj_fr (xj_fr hR.2.2 f1 (by decide +kernel)) f2 (by decide +kernel)⟩⟩
theorem lw_turns (x1 x2 : Int32) (hh : HI HT h) (hj : JT h) (hR : RJ h) : ∃ (r1 r2 : Int32) (h1 h2 : List pC), Run prog E pV1 120 mX7_turns [.ref 0, .int x1, .int x2] h (some (.int r1), h1, 0, 0) ∧ Run prog E pV1 120 mX8_turns [.ref 110, .int x1, .int x2] h1 (some (.int r2), h2, 0, 0) ∧ (∃ o, pobj h1 110 = some o ∧ o.1 = 8) ∧ HI HT h2 ∧ JT h2 ∧ RJ h2 := by
  obtain ⟨r1, h1, q1, hh1, f1, hj1⟩ := pub_of (E := E) (a := 0) (kg_c_turnsF) (N := mX7_turns) rfl (List.cons_ne_nil _ _) [x1, x2] rfl (fun q => by cases q) (Nat.le_of_ble_eq_true rfl) hh hj
  obtain ⟨r2, h2, q2, hh2, f2, hj2⟩ := pub_of (E := E) (a := 110) (kg_r_turnsF) (N := mX8_turns) rfl (List.cons_ne_nil _ _) [x1, x2] rfl (fun q => by cases q) (Nat.le_of_ble_eq_true rfl) hh1 hj1
  exact ⟨r1, r2, h1, h2, q1, q2, mobj hh1, hh2, hj2, ⟨pRel_fr (pRel_fr hR.1 f1 (by decide +kernel)) f2 (by decide +kernel), cRel_fr (cRel_fr hR.2.1 f1 (by decide +kernel)) f2 (by decide +kernel), xj_fr (xj_fr hR.2.2 f1 (by decide +kernel)) f2 (by decide +kernel)⟩⟩
theorem lw_set (x1 x2 x3 : Int32) (hh : HI HT h) (hj : JT h) (hR : RJ h) : ∃ (r1 r2 : Int32) (h1 h2 : List pC), Run prog E pV1 120 mX7_set [.ref 0, .int x1, .int x2, .int x3] h (some (.int r1), h1, 0, 0) ∧ Run prog E pV1 120 mX8_set [.ref 110, .int x1, .int x2, .int x3] h1 (some (.int r2), h2, 0, 0) ∧ (∃ o, pobj h1 110 = some o ∧ o.1 = 8) ∧ HI HT h2 ∧ JT h2 ∧ RJ h2 := by
  obtain ⟨r1, h1, q1, hh1, f1, hj1⟩ := pub_of (E := E) (a := 0) (kg_c_setF) (N := mX7_set) rfl (List.cons_ne_nil _ _) [x1, x2, x3] rfl (fun q => by cases q) (Nat.le_of_ble_eq_true rfl) hh hj
  obtain ⟨r2, h2, q2, hh2, f2, hj2⟩ := pub_of (E := E) (a := 110) (kg_r_setF) (N := mX8_set) rfl (List.cons_ne_nil _ _) [x1, x2, x3] rfl (fun q => by cases q) (Nat.le_of_ble_eq_true rfl) hh1 hj1
  exact ⟨r1, r2, h1, h2, q1, q2, mobj hh1, hh2, hj2, ⟨pRel_fr (pRel_fr hR.1 f1 (by decide +kernel)) f2 (by decide +kernel), cRel_fr (cRel_fr hR.2.1 f1 (by decide +kernel)) f2 (by decide +kernel), xj_fr (xj_fr hR.2.2 f1 (by decide +kernel)) f2 (by decide +kernel)⟩⟩
theorem lw_carve (x1 x2 : Int32) (hh : HI HT h) (hj : JT h) (hR : RJ h) : ∃ (r1 r2 : Int32) (h1 h2 : List pC), Run prog E pV1 120 mX7_carve [.ref 0, .int x1, .int x2] h (some (.int r1), h1, 0, 0) ∧ Run prog E pV1 120 mX8_carve [.ref 110, .int x1, .int x2] h1 (some (.int r2), h2, 0, 0) ∧ (∃ o, pobj h1 110 = some o ∧ o.1 = 8) ∧ HI HT h2 ∧ JT h2 ∧ RJ h2 := by
  obtain ⟨r1, h1, q1, hh1, f1, hj1⟩ := pub_of (E := E) (a := 0) (kg_c_carveF) (N := mX7_carve) rfl (List.cons_ne_nil _ _) [x1, x2] rfl (fun q => by cases q) (Nat.le_of_ble_eq_true rfl) hh hj
  obtain ⟨r2, h2, q2, hh2, f2, hj2⟩ := pub_of (E := E) (a := 110) (kg_r_carveF) (N := mX8_carve) rfl (List.cons_ne_nil _ _) [x1, x2] rfl (fun q => by cases q) (Nat.le_of_ble_eq_true rfl) hh1 hj1
  exact ⟨r1, r2, h1, h2, q1, q2, mobj hh1, hh2, hj2, ⟨pRel_fr (pRel_fr hR.1 f1 (by decide +kernel)) f2 (by decide +kernel), cRel_fr (cRel_fr hR.2.1 f1 (by decide +kernel)) f2 (by decide +kernel), xj_fr (xj_fr hR.2.2 f1 (by decide +kernel)) f2 (by decide +kernel)⟩⟩
theorem lw_carved (x1 : Int32) (hh : HI HT h) (hj : JT h) (hR : RJ h) : ∃ (r1 r2 : Int32) (h1 h2 : List pC), Run prog E pV1 120 mX7_carved [.ref 0, .int x1] h (some (.int r1), h1, 0, 0) ∧ Run prog E pV1 120 mX8_carved [.ref 110, .int x1] h1 (some (.int r2), h2, 0, 0) ∧ (∃ o, pobj h1 110 = some o ∧ o.1 = 8) ∧ HI HT h2 ∧ JT h2 ∧ RJ h2 := by
  obtain ⟨r1, h1, q1, hh1, f1, hj1⟩ := pub_of (E := E) (a := 0) (kg_c_carved JT_P hands) (N := mX7_carved) rfl (List.cons_ne_nil _ _) [x1] rfl (fun q => by cases q) (Nat.le_of_ble_eq_true rfl) hh hj
  obtain ⟨r2, h2, q2, hh2, f2, hj2⟩ := pub_of (E := E) (a := 110) (kg_r_carved JT_P hands) (N := mX8_carved) rfl (List.cons_ne_nil _ _) [x1] rfl (fun q => by cases q) (Nat.le_of_ble_eq_true rfl) hh1 hj1
  exact ⟨r1, r2, h1, h2, q1, q2, mobj hh1, hh2, hj2, ⟨pRel_fr (pRel_fr hR.1 f1 (by decide +kernel)) f2 (by decide +kernel), cRel_fr (cRel_fr hR.2.1 f1 (by decide +kernel)) f2 (by decide +kernel), xj_fr (xj_fr hR.2.2 f1 (by decide +kernel)) f2 (by decide +kernel)⟩⟩
theorem lw_deal (x1 : Int32) (hh : HI HT h) (hj : JT h) (hR : RJ h) : ∃ (r1 r2 : Int32) (h1 h2 : List pC), Run prog E pV1 120 mX7_deal [.ref 0, .int x1] h (some (.int r1), h1, 0, 0) ∧ Run prog E pV1 120 mX8_deal [.ref 110, .int x1] h1 (some (.int r2), h2, 0, 0) ∧ (∃ o, pobj h1 110 = some o ∧ o.1 = 8) ∧ HI HT h2 ∧ JT h2 ∧ RJ h2 := by
  have ex1 := i32_b x1
  by_cases c1 : x1.toInt ≤ 0
  · obtain ⟨r, h1, h2, q1, q2, q3, p1, p2, p3, p4⟩ := pr_ok1 (E := E) (x1 := x1) cp_deall rfl rfl (List.cons_ne_nil _ _) (List.cons_ne_nil _ _) (fun _ h => absurd h List.not_mem_nil) hh hj hR.1 hR.2.1 ⟨⟨by omega, by omega⟩, trivial⟩ pBd.nl (fun e he => by cases he)
    exact ⟨r, r, h1, h2, q1, q2, q3, p1, p2, p3.1, p3.2, xj_fr hR.2.2 p4 (by decide +kernel)⟩
  by_cases c2 : 10 ≤ x1.toInt
  · obtain ⟨r, h1, h2, q1, q2, q3, p1, p2, p3, p4⟩ := pr_ok1 (E := E) (x1 := x1) cp_dealh rfl rfl (List.cons_ne_nil _ _) (List.cons_ne_nil _ _) (fun _ h => absurd h List.not_mem_nil) hh hj hR.1 hR.2.1 ⟨⟨by omega, by omega⟩, trivial⟩ pBd.nl (fun e he => by cases he)
    exact ⟨r, r, h1, h2, q1, q2, q3, p1, p2, p3.1, p3.2, xj_fr hR.2.2 p4 (by decide +kernel)⟩
  have t5 := ty_34_5 hh hR
  have m5 : ri h 34 5 = ri h 111 0 := (sub_rel (R' := [((8, 34, 5), (0, 111, 0), 0, 9)]) hR.1 (by decide) _ List.mem_cons_self)
  obtain ⟨j, v1, h1, q1, b1, b2, hh1, hj1, f1, d1, d2, d3⟩ := deal_c (E := E) x1 ⟨by omega, by omega⟩ hh hj (m := (ri h 34 5).toInt.toNat) (by omega) (by omega)
  have g0 : ri h1 111 0 = ri h 111 0 := ri_fr f1 (by decide)
  obtain ⟨j', v2, h2, q2, b3, b4, hh2, hj2, f2, k1, k2, k3⟩ := deal_r (E := E) x1 ⟨by omega, by omega⟩ hh1 hj1 (m := (ri h 34 5).toInt.toNat) (by omega) (by rw [g0, ← m5]; omega)
  obtain rfl : j' = j := by omega
  obtain rfl : v2 = v1 := Int32.toInt_inj.mp (by omega)
  refine ⟨_, _, h1, h2, q1, q2, mobj hh1, hh2, hj2, fun q hq => ?_, cRel_fr (cRel_fr hR.2.1 f1 (by decide +kernel)) f2 (by decide +kernel), xj_fr (xj_fr hR.2.2 f1 (by decide +kernel)) f2 (by decide +kernel)⟩
  rcases List.mem_cons.mp hq with rfl | hq
  · show ri h2 34 5 = ri h2 111 0
    exact Int32.toInt_inj.mp (by rw [ri_fr (a := 34) (i := 5) f2 (by decide), d1, k1])
  rcases List.mem_cons.mp hq with rfl | hq
  · exact pRel_fr (pRel_fr (R := [((8, 48, 5), (0, 112, 0), 0, 9)]) (sub_rel hR.1 (by decide)) f1 (by decide +kernel)) f2 (by decide +kernel) _ List.mem_cons_self
  obtain rfl := List.mem_singleton.mp hq
  exact pRel_fr (pRel_fr (R := [((9, 0, 9), (10, 110, 3), 0, 1)]) (sub_rel hR.1 (by decide)) f1 (by decide +kernel)) f2 (by decide +kernel) _ List.mem_cons_self
theorem lw_seed (x1 : Int32) (hh : HI HT h) (hj : JT h) (hR : RJ h) : ∃ (r1 r2 : Int32) (h1 h2 : List pC), Run prog E pV1 120 mX7_seed [.ref 0, .int x1] h (some (.int r1), h1, 0, 0) ∧ Run prog E pV1 120 mX8_seed [.ref 110, .int x1] h1 (some (.int r2), h2, 0, 0) ∧ (∃ o, pobj h1 110 = some o ∧ o.1 = 8) ∧ HI HT h2 ∧ JT h2 ∧ RJ h2 := by
  obtain ⟨r1, h1, q1, hh1, f1, hj1⟩ := pub_of (E := E) (a := 0) (kg_c_seedF) (N := mX7_seed) rfl (List.cons_ne_nil _ _) [x1] rfl (fun q => by cases q) (Nat.le_of_ble_eq_true rfl) hh hj
  obtain ⟨r2, h2, q2, hh2, f2, hj2⟩ := pub_of (E := E) (a := 110) (kg_r_seedF) (N := mX8_seed) rfl (List.cons_ne_nil _ _) [x1] rfl (fun q => by cases q) (Nat.le_of_ble_eq_true rfl) hh1 hj1
  exact ⟨r1, r2, h1, h2, q1, q2, mobj hh1, hh2, hj2, ⟨pRel_fr (pRel_fr hR.1 f1 (by decide +kernel)) f2 (by decide +kernel), cRel_fr (cRel_fr hR.2.1 f1 (by decide +kernel)) f2 (by decide +kernel), xj_fr (xj_fr hR.2.2 f1 (by decide +kernel)) f2 (by decide +kernel)⟩⟩
theorem lw_falseAt (x1 x2 : Int32) (hh : HI HT h) (hj : JT h) (hR : RJ h) : ∃ (r1 r2 : Int32) (h1 h2 : List pC), Run prog E pV1 120 mX7_falseAt [.ref 0, .int x1, .int x2] h (some (.int r1), h1, 0, 0) ∧ Run prog E pV1 120 mX8_falseAt [.ref 110, .int x1, .int x2] h1 (some (.int r2), h2, 0, 0) ∧ (∃ o, pobj h1 110 = some o ∧ o.1 = 8) ∧ HI HT h2 ∧ JT h2 ∧ RJ h2 := by
  obtain ⟨r1, h1, q1, hh1, f1, hj1⟩ := pub_of (E := E) (a := 0) (kg_c_falseAt JT_P hands) (N := mX7_falseAt) rfl (List.cons_ne_nil _ _) [x1, x2] rfl (fun q => by cases q) (Nat.le_of_ble_eq_true rfl) hh hj
  obtain ⟨r2, h2, q2, hh2, f2, hj2⟩ := pub_of (E := E) (a := 110) (kg_r_falseAt JT_P hands) (N := mX8_falseAt) rfl (List.cons_ne_nil _ _) [x1, x2] rfl (fun q => by cases q) (Nat.le_of_ble_eq_true rfl) hh1 hj1
  exact ⟨r1, r2, h1, h2, q1, q2, mobj hh1, hh2, hj2, ⟨pRel_fr (pRel_fr hR.1 f1 (by decide +kernel)) f2 (by decide +kernel), cRel_fr (cRel_fr hR.2.1 f1 (by decide +kernel)) f2 (by decide +kernel), xj_fr (xj_fr hR.2.2 f1 (by decide +kernel)) f2 (by decide +kernel)⟩⟩
theorem lw_fits (x1 x2 : Int32) (hh : HI HT h) (hj : JT h) (hR : RJ h) : ∃ (r1 r2 : Int32) (h1 h2 : List pC), Run prog E pV1 120 mX7_fits [.ref 0, .int x1, .int x2] h (some (.int r1), h1, 0, 0) ∧ Run prog E pV1 120 mX8_fits [.ref 110, .int x1, .int x2] h1 (some (.int r2), h2, 0, 0) ∧ (∃ o, pobj h1 110 = some o ∧ o.1 = 8) ∧ HI HT h2 ∧ JT h2 ∧ RJ h2 := by
  obtain ⟨r1, h1, q1, hh1, f1, hj1⟩ := pub_of (E := E) (a := 0) (kg_c_fits JT_P hands) (N := mX7_fits) rfl (List.cons_ne_nil _ _) [x1, x2] rfl (fun q => by cases q) (Nat.le_of_ble_eq_true rfl) hh hj
  obtain ⟨r2, h2, q2, hh2, f2, hj2⟩ := pub_of (E := E) (a := 110) (kg_r_fits JT_P hands) (N := mX8_fits) rfl (List.cons_ne_nil _ _) [x1, x2] rfl (fun q => by cases q) (Nat.le_of_ble_eq_true rfl) hh1 hj1
  exact ⟨r1, r2, h1, h2, q1, q2, mobj hh1, hh2, hj2, ⟨pRel_fr (pRel_fr hR.1 f1 (by decide +kernel)) f2 (by decide +kernel), cRel_fr (cRel_fr hR.2.1 f1 (by decide +kernel)) f2 (by decide +kernel), xj_fr (xj_fr hR.2.2 f1 (by decide +kernel)) f2 (by decide +kernel)⟩⟩
theorem lw_join (x1 x2 x3 : Int32) (hh : HI HT h) (hj : JT h) (hR : RJ h) : ∃ (r1 r2 : Int32) (h1 h2 : List pC), Run prog E pV1 120 mX7_join [.ref 0, .int x1, .int x2, .int x3] h (some (.int r1), h1, 0, 0) ∧ Run prog E pV1 120 mX8_join [.ref 110, .int x1, .int x2, .int x3] h1 (some (.int r2), h2, 0, 0) ∧ (∃ o, pobj h1 110 = some o ∧ o.1 = 8) ∧ HI HT h2 ∧ JT h2 ∧ RJ h2 := by
  obtain ⟨r1, h1, q1, hh1, f1, hj1⟩ := pub_of (E := E) (a := 0) (kg_c_join JT_P hands) (N := mX7_join) rfl (List.cons_ne_nil _ _) [x1, x2, x3] rfl (fun q => by cases q) (Nat.le_of_ble_eq_true rfl) hh hj
  obtain ⟨r2, h2, q2, hh2, f2, hj2⟩ := pub_of (E := E) (a := 110) (kg_r_join JT_P hands) (N := mX8_join) rfl (List.cons_ne_nil _ _) [x1, x2, x3] rfl (fun q => by cases q) (Nat.le_of_ble_eq_true rfl) hh1 hj1
  exact ⟨r1, r2, h1, h2, q1, q2, mobj hh1, hh2, hj2, ⟨pRel_fr (pRel_fr hR.1 f1 (by decide +kernel)) f2 (by decide +kernel), cRel_fr (cRel_fr hR.2.1 f1 (by decide +kernel)) f2 (by decide +kernel), xj_fr (xj_fr hR.2.2 f1 (by decide +kernel)) f2 (by decide +kernel)⟩⟩
theorem lw_clash (x1 x2 : Int32) (hh : HI HT h) (hj : JT h) (hR : RJ h) : ∃ (r1 r2 : Int32) (h1 h2 : List pC), Run prog E pV1 120 mX7_clash [.ref 0, .int x1, .int x2] h (some (.int r1), h1, 0, 0) ∧ Run prog E pV1 120 mX8_clash [.ref 110, .int x1, .int x2] h1 (some (.int r2), h2, 0, 0) ∧ (∃ o, pobj h1 110 = some o ∧ o.1 = 8) ∧ HI HT h2 ∧ JT h2 ∧ RJ h2 := by
  obtain ⟨r1, h1, q1, hh1, f1, hj1⟩ := pub_of (E := E) (a := 0) (kg_c_clash JT_P hands) (N := mX7_clash) rfl (List.cons_ne_nil _ _) [x1, x2] rfl (fun q => by cases q) (Nat.le_of_ble_eq_true rfl) hh hj
  obtain ⟨r2, h2, q2, hh2, f2, hj2⟩ := pub_of (E := E) (a := 110) (kg_r_clash JT_P hands) (N := mX8_clash) rfl (List.cons_ne_nil _ _) [x1, x2] rfl (fun q => by cases q) (Nat.le_of_ble_eq_true rfl) hh1 hj1
  exact ⟨r1, r2, h1, h2, q1, q2, mobj hh1, hh2, hj2, ⟨pRel_fr (pRel_fr hR.1 f1 (by decide +kernel)) f2 (by decide +kernel), cRel_fr (cRel_fr hR.2.1 f1 (by decide +kernel)) f2 (by decide +kernel), xj_fr (xj_fr hR.2.2 f1 (by decide +kernel)) f2 (by decide +kernel)⟩⟩
theorem lw_undone (hh : HI HT h) (hj : JT h) (hR : RJ h) : ∃ (r1 r2 : Int32) (h1 h2 : List pC), Run prog E pV1 120 mX7_undone [.ref 0] h (some (.int r1), h1, 0, 0) ∧ Run prog E pV1 120 mX8_undone [.ref 110] h1 (some (.int r2), h2, 0, 0) ∧ (∃ o, pobj h1 110 = some o ∧ o.1 = 8) ∧ HI HT h2 ∧ JT h2 ∧ RJ h2 := by
  obtain ⟨r1, h1, q1, hh1, f1, hj1⟩ := pub_of (E := E) (a := 0) (kg_c_undone JT_P hands) (N := mX7_undone) rfl (List.cons_ne_nil _ _) [] rfl (fun q => by cases q) (Nat.le_of_ble_eq_true rfl) hh hj
  obtain ⟨r2, h2, q2, hh2, f2, hj2⟩ := pub_of (E := E) (a := 110) (kg_r_undone JT_P hands) (N := mX8_undone) rfl (List.cons_ne_nil _ _) [] rfl (fun q => by cases q) (Nat.le_of_ble_eq_true rfl) hh1 hj1
  exact ⟨r1, r2, h1, h2, q1, q2, mobj hh1, hh2, hj2, ⟨pRel_fr (pRel_fr hR.1 f1 (by decide +kernel)) f2 (by decide +kernel), cRel_fr (cRel_fr hR.2.1 f1 (by decide +kernel)) f2 (by decide +kernel), xj_fr (xj_fr hR.2.2 f1 (by decide +kernel)) f2 (by decide +kernel)⟩⟩
theorem lw_borne (hh : HI HT h) (hj : JT h) (hR : RJ h) : ∃ (r1 r2 : Int32) (h1 h2 : List pC), Run prog E pV1 120 mX7_borne [.ref 0] h (some (.int r1), h1, 0, 0) ∧ Run prog E pV1 120 mX8_borne [.ref 110] h1 (some (.int r2), h2, 0, 0) ∧ (∃ o, pobj h1 110 = some o ∧ o.1 = 8) ∧ HI HT h2 ∧ JT h2 ∧ RJ h2 := by
  obtain ⟨r1, h1, q1, hh1, f1, hj1⟩ := pub_of (E := E) (a := 0) (kg_c_borne JT_P hands) (N := mX7_borne) rfl (List.cons_ne_nil _ _) [] rfl (fun q => by cases q) (Nat.le_of_ble_eq_true rfl) hh hj
  obtain ⟨r2, h2, q2, hh2, f2, hj2⟩ := pub_of (E := E) (a := 110) (kg_r_borne JT_P hands) (N := mX8_borne) rfl (List.cons_ne_nil _ _) [] rfl (fun q => by cases q) (Nat.le_of_ble_eq_true rfl) hh1 hj1
  exact ⟨r1, r2, h1, h2, q1, q2, mobj hh1, hh2, hj2, ⟨pRel_fr (pRel_fr hR.1 f1 (by decide +kernel)) f2 (by decide +kernel), cRel_fr (cRel_fr hR.2.1 f1 (by decide +kernel)) f2 (by decide +kernel), xj_fr (xj_fr hR.2.2 f1 (by decide +kernel)) f2 (by decide +kernel)⟩⟩
theorem lw_look (x1 : Int32) (hh : HI HT h) (hj : JT h) (hR : RJ h) : ∃ (r1 r2 : Int32) (h1 h2 : List pC), Run prog E pV1 120 mX7_look [.ref 0, .int x1] h (some (.int r1), h1, 0, 0) ∧ Run prog E pV1 120 mX8_look [.ref 110, .int x1] h1 (some (.int r2), h2, 0, 0) ∧ (∃ o, pobj h1 110 = some o ∧ o.1 = 8) ∧ HI HT h2 ∧ JT h2 ∧ RJ h2 := by
  obtain ⟨r1, h1, q1, hh1, f1, hj1⟩ := pub_of (E := E) (a := 0) (kg_c_look JT_P hands) (N := mX7_look) rfl (List.cons_ne_nil _ _) [x1] rfl (fun q => by cases q) (Nat.le_of_ble_eq_true rfl) hh hj
  obtain ⟨r2, h2, q2, hh2, f2, hj2⟩ := pub_of (E := E) (a := 110) (kg_r_look JT_P hands) (N := mX8_look) rfl (List.cons_ne_nil _ _) [x1] rfl (fun q => by cases q) (Nat.le_of_ble_eq_true rfl) hh1 hj1
  exact ⟨r1, r2, h1, h2, q1, q2, mobj hh1, hh2, hj2, ⟨pRel_fr (pRel_fr hR.1 f1 (by decide +kernel)) f2 (by decide +kernel), cRel_fr (cRel_fr hR.2.1 f1 (by decide +kernel)) f2 (by decide +kernel), xj_fr (xj_fr hR.2.2 f1 (by decide +kernel)) f2 (by decide +kernel)⟩⟩
theorem lw_tides (x1 : Int32) (hh : HI HT h) (hj : JT h) (hR : RJ h) : ∃ (r1 r2 : Int32) (h1 h2 : List pC), Run prog E pV1 120 mX7_tides [.ref 0, .int x1] h (some (.int r1), h1, 0, 0) ∧ Run prog E pV1 120 mX8_tides [.ref 110, .int x1] h1 (some (.int r2), h2, 0, 0) ∧ (∃ o, pobj h1 110 = some o ∧ o.1 = 8) ∧ HI HT h2 ∧ JT h2 ∧ RJ h2 := by
  obtain ⟨r1, h1, q1, hh1, f1, hj1⟩ := pub_of (E := E) (a := 0) (kg_c_tidesF) (N := mX7_tides) rfl (List.cons_ne_nil _ _) [x1] rfl (fun q => by cases q) (Nat.le_of_ble_eq_true rfl) hh hj
  obtain ⟨r2, h2, q2, hh2, f2, hj2⟩ := pub_of (E := E) (a := 110) (kg_r_tidesF) (N := mX8_tides) rfl (List.cons_ne_nil _ _) [x1] rfl (fun q => by cases q) (Nat.le_of_ble_eq_true rfl) hh1 hj1
  exact ⟨r1, r2, h1, h2, q1, q2, mobj hh1, hh2, hj2, ⟨pRel_fr (pRel_fr hR.1 f1 (by decide +kernel)) f2 (by decide +kernel), cRel_fr (cRel_fr hR.2.1 f1 (by decide +kernel)) f2 (by decide +kernel), xj_fr (xj_fr hR.2.2 f1 (by decide +kernel)) f2 (by decide +kernel)⟩⟩
theorem lw_book (x1 : Int32) (hh : HI HT h) (hj : JT h) (hR : RJ h) : ∃ (r1 r2 : Int32) (h1 h2 : List pC), Run prog E pV1 120 mX7_book [.ref 0, .int x1] h (some (.int r1), h1, 0, 0) ∧ Run prog E pV1 120 mX8_book [.ref 110, .int x1] h1 (some (.int r2), h2, 0, 0) ∧ (∃ o, pobj h1 110 = some o ∧ o.1 = 8) ∧ HI HT h2 ∧ JT h2 ∧ RJ h2 := by
  obtain ⟨r1, h1, q1, hh1, f1, hj1⟩ := pub_of (E := E) (a := 0) (kg_c_book JT_P hands) (N := mX7_book) rfl (List.cons_ne_nil _ _) [x1] rfl (fun q => by cases q) (Nat.le_of_ble_eq_true rfl) hh hj
  obtain ⟨r2, h2, q2, hh2, f2, hj2⟩ := pub_of (E := E) (a := 110) (kg_r_book JT_P hands) (N := mX8_book) rfl (List.cons_ne_nil _ _) [x1] rfl (fun q => by cases q) (Nat.le_of_ble_eq_true rfl) hh1 hj1
  exact ⟨r1, r2, h1, h2, q1, q2, mobj hh1, hh2, hj2, ⟨pRel_fr (pRel_fr hR.1 f1 (by decide +kernel)) f2 (by decide +kernel), cRel_fr (cRel_fr hR.2.1 f1 (by decide +kernel)) f2 (by decide +kernel), xj_fr (xj_fr hR.2.2 f1 (by decide +kernel)) f2 (by decide +kernel)⟩⟩
theorem lw_behind (x1 x2 : Int32) (hh : HI HT h) (hj : JT h) (hR : RJ h) : ∃ (r1 r2 : Int32) (h1 h2 : List pC), Run prog E pV1 120 mX7_behind [.ref 0, .int x1, .int x2] h (some (.int r1), h1, 0, 0) ∧ Run prog E pV1 120 mX8_behind [.ref 110, .int x1, .int x2] h1 (some (.int r2), h2, 0, 0) ∧ (∃ o, pobj h1 110 = some o ∧ o.1 = 8) ∧ HI HT h2 ∧ JT h2 ∧ RJ h2 := by
  obtain ⟨r1, h1, q1, hh1, f1, hj1⟩ := pub_of (E := E) (a := 0) (kg_c_behind JT_P hands) (N := mX7_behind) rfl (List.cons_ne_nil _ _) [x1, x2] rfl (fun q => by cases q) (Nat.le_of_ble_eq_true rfl) hh hj
  obtain ⟨r2, h2, q2, hh2, f2, hj2⟩ := pub_of (E := E) (a := 110) (hd_behind hands) (N := mX8_behind) rfl (List.cons_ne_nil _ _) [x1, x2] rfl (fun q => by cases q) (Nat.le_of_ble_eq_true rfl) hh1 hj1
  exact ⟨r1, r2, h1, h2, q1, q2, mobj hh1, hh2, hj2, ⟨pRel_fr (pRel_fr hR.1 f1 (by decide +kernel)) f2 (by decide +kernel), cRel_fr (cRel_fr hR.2.1 f1 (by decide +kernel)) f2 (by decide +kernel), xj_fr (xj_fr hR.2.2 f1 (by decide +kernel)) f2 (by decide +kernel)⟩⟩
theorem lw_lasts (hh : HI HT h) (hj : JT h) (hR : RJ h) : ∃ (r1 r2 : Int32) (h1 h2 : List pC), Run prog E pV1 120 mX7_lasts [.ref 0] h (some (.int r1), h1, 0, 0) ∧ Run prog E pV1 120 mX8_lasts [.ref 110] h1 (some (.int r2), h2, 0, 0) ∧ (∃ o, pobj h1 110 = some o ∧ o.1 = 8) ∧ HI HT h2 ∧ JT h2 ∧ RJ h2 := by
  obtain ⟨r1, h1, q1, hh1, f1, hj1⟩ := pub_of (E := E) (a := 0) (kg_c_lasts JT_P hands) (N := mX7_lasts) rfl (List.cons_ne_nil _ _) [] rfl (fun q => by cases q) (Nat.le_of_ble_eq_true rfl) hh hj
  obtain ⟨r2, h2, q2, hh2, f2, hj2⟩ := pub_of (E := E) (a := 110) (hd_lasts hands) (N := mX8_lasts) rfl (List.cons_ne_nil _ _) [] rfl (fun q => by cases q) (Nat.le_of_ble_eq_true rfl) hh1 hj1
  exact ⟨r1, r2, h1, h2, q1, q2, mobj hh1, hh2, hj2, ⟨pRel_fr (pRel_fr hR.1 f1 (by decide +kernel)) f2 (by decide +kernel), cRel_fr (cRel_fr hR.2.1 f1 (by decide +kernel)) f2 (by decide +kernel), xj_fr (xj_fr hR.2.2 f1 (by decide +kernel)) f2 (by decide +kernel)⟩⟩
theorem lw_best (x1 x2 x3 : Int32) (hh : HI HT h) (hj : JT h) (hR : RJ h) : ∃ (r1 r2 : Int32) (h1 h2 : List pC), Run prog E pV1 120 mX7_best [.ref 0, .int x1, .int x2, .int x3] h (some (.int r1), h1, 0, 0) ∧ Run prog E pV1 120 mX8_best [.ref 110, .int x1, .int x2, .int x3] h1 (some (.int r2), h2, 0, 0) ∧ (∃ o, pobj h1 110 = some o ∧ o.1 = 8) ∧ HI HT h2 ∧ JT h2 ∧ RJ h2 := by
  obtain ⟨r1, h1, q1, hh1, f1, hj1⟩ := pub_of (E := E) (a := 0) (kg_c_best JT_P hands) (N := mX7_best) rfl (List.cons_ne_nil _ _) [x1, x2, x3] rfl (fun q => by cases q) (Nat.le_of_ble_eq_true rfl) hh hj
  obtain ⟨r2, h2, q2, hh2, f2, hj2⟩ := pub_of (E := E) (a := 110) (hd_best hands) (N := mX8_best) rfl (List.cons_ne_nil _ _) [x1, x2, x3] rfl (fun q => by cases q) (Nat.le_of_ble_eq_true rfl) hh1 hj1
  exact ⟨r1, r2, h1, h2, q1, q2, mobj hh1, hh2, hj2, ⟨pRel_fr (pRel_fr hR.1 f1 (by decide +kernel)) f2 (by decide +kernel), cRel_fr (cRel_fr hR.2.1 f1 (by decide +kernel)) f2 (by decide +kernel), xj_fr (xj_fr hR.2.2 f1 (by decide +kernel)) f2 (by decide +kernel)⟩⟩
theorem lw_taught (x1 x2 : Int32) (hh : HI HT h) (hj : JT h) (hR : RJ h) : ∃ (r1 r2 : Int32) (h1 h2 : List pC), Run prog E pV1 120 mX7_taught [.ref 0, .int x1, .int x2] h (some (.int r1), h1, 0, 0) ∧ Run prog E pV1 120 mX8_taught [.ref 110, .int x1, .int x2] h1 (some (.int r2), h2, 0, 0) ∧ (∃ o, pobj h1 110 = some o ∧ o.1 = 8) ∧ HI HT h2 ∧ JT h2 ∧ RJ h2 := by
  obtain ⟨r1, h1, q1, hh1, f1, hj1⟩ := pub_of (E := E) (a := 0) (kg_c_taught JT_P hands) (N := mX7_taught) rfl (List.cons_ne_nil _ _) [x1, x2] rfl (fun q => by cases q) (Nat.le_of_ble_eq_true rfl) hh hj
  obtain ⟨r2, h2, q2, hh2, f2, hj2⟩ := pub_of (E := E) (a := 110) (hd_taught hands) (N := mX8_taught) rfl (List.cons_ne_nil _ _) [x1, x2] rfl (fun q => by cases q) (Nat.le_of_ble_eq_true rfl) hh1 hj1
  exact ⟨r1, r2, h1, h2, q1, q2, mobj hh1, hh2, hj2, ⟨pRel_fr (pRel_fr hR.1 f1 (by decide +kernel)) f2 (by decide +kernel), cRel_fr (cRel_fr hR.2.1 f1 (by decide +kernel)) f2 (by decide +kernel), xj_fr (xj_fr hR.2.2 f1 (by decide +kernel)) f2 (by decide +kernel)⟩⟩
theorem lw_whose (x1 x2 : Int32) (hh : HI HT h) (hj : JT h) (hR : RJ h) : ∃ (r1 r2 : Int32) (h1 h2 : List pC), Run prog E pV1 120 mX7_whose [.ref 0, .int x1, .int x2] h (some (.int r1), h1, 0, 0) ∧ Run prog E pV1 120 mX8_whose [.ref 110, .int x1, .int x2] h1 (some (.int r2), h2, 0, 0) ∧ (∃ o, pobj h1 110 = some o ∧ o.1 = 8) ∧ HI HT h2 ∧ JT h2 ∧ RJ h2 := by
  obtain ⟨r1, h1, q1, hh1, f1, hj1⟩ := pub_of (E := E) (a := 0) (kg_c_whose JT_P hands) (N := mX7_whose) rfl (List.cons_ne_nil _ _) [x1, x2] rfl (fun q => by cases q) (Nat.le_of_ble_eq_true rfl) hh hj
  obtain ⟨r2, h2, q2, hh2, f2, hj2⟩ := pub_of (E := E) (a := 110) (kg_r_whose JT_P hands) (N := mX8_whose) rfl (List.cons_ne_nil _ _) [x1, x2] rfl (fun q => by cases q) (Nat.le_of_ble_eq_true rfl) hh1 hj1
  exact ⟨r1, r2, h1, h2, q1, q2, mobj hh1, hh2, hj2, ⟨pRel_fr (pRel_fr hR.1 f1 (by decide +kernel)) f2 (by decide +kernel), cRel_fr (cRel_fr hR.2.1 f1 (by decide +kernel)) f2 (by decide +kernel), xj_fr (xj_fr hR.2.2 f1 (by decide +kernel)) f2 (by decide +kernel)⟩⟩
theorem lw_fee (hh : HI HT h) (hj : JT h) (hR : RJ h) : ∃ (r1 r2 : Int32) (h1 h2 : List pC), Run prog E pV1 120 mX7_fee [.ref 0] h (some (.int r1), h1, 0, 0) ∧ Run prog E pV1 120 mX8_fee [.ref 110] h1 (some (.int r2), h2, 0, 0) ∧ (∃ o, pobj h1 110 = some o ∧ o.1 = 8) ∧ HI HT h2 ∧ JT h2 ∧ RJ h2 := by
  obtain ⟨r1, h1, q1, hh1, f1, hj1⟩ := pub_of (E := E) (a := 0) (kg_c_fee JT_P hands) (N := mX7_fee) rfl (List.cons_ne_nil _ _) [] rfl (fun q => by cases q) (Nat.le_of_ble_eq_true rfl) hh hj
  obtain ⟨r2, h2, q2, hh2, f2, hj2⟩ := pub_of (E := E) (a := 110) hd_fee (N := mX8_fee) rfl (List.cons_ne_nil _ _) [] rfl (fun q => by cases q) (Nat.le_of_ble_eq_true rfl) hh1 hj1
  exact ⟨r1, r2, h1, h2, q1, q2, mobj hh1, hh2, hj2, ⟨pRel_fr (pRel_fr hR.1 f1 (by decide +kernel)) f2 (by decide +kernel), cRel_fr (cRel_fr hR.2.1 f1 (by decide +kernel)) f2 (by decide +kernel), xj_fr (xj_fr hR.2.2 f1 (by decide +kernel)) f2 (by decide +kernel)⟩⟩
theorem lw_fine (x1 : Int32) (hh : HI HT h) (hj : JT h) (hR : RJ h) : ∃ (r1 r2 : Int32) (h1 h2 : List pC), Run prog E pV1 120 mX7_fine [.ref 0, .int x1] h (some (.int r1), h1, 0, 0) ∧ Run prog E pV1 120 mX8_fine [.ref 110, .int x1] h1 (some (.int r2), h2, 0, 0) ∧ (∃ o, pobj h1 110 = some o ∧ o.1 = 8) ∧ HI HT h2 ∧ JT h2 ∧ RJ h2 := by
  obtain ⟨r1, h1, q1, hh1, f1, hj1⟩ := pub_of (E := E) (a := 0) (kg_c_fine JT_P hands) (N := mX7_fine) rfl (List.cons_ne_nil _ _) [x1] rfl (fun q => by cases q) (Nat.le_of_ble_eq_true rfl) hh hj
  obtain ⟨r2, h2, q2, hh2, f2, hj2⟩ := pub_of (E := E) (a := 110) hd_fine (N := mX8_fine) rfl (List.cons_ne_nil _ _) [x1] rfl (fun q => by cases q) (Nat.le_of_ble_eq_true rfl) hh1 hj1
  exact ⟨r1, r2, h1, h2, q1, q2, mobj hh1, hh2, hj2, ⟨pRel_fr (pRel_fr hR.1 f1 (by decide +kernel)) f2 (by decide +kernel), cRel_fr (cRel_fr hR.2.1 f1 (by decide +kernel)) f2 (by decide +kernel), xj_fr (xj_fr hR.2.2 f1 (by decide +kernel)) f2 (by decide +kernel)⟩⟩
theorem lw_feed (x1 x2 x3 : Int32) (hh : HI HT h) (hj : JT h) (hR : RJ h) : ∃ (r1 r2 : Int32) (h1 h2 : List pC), Run prog E pV1 120 mX7_feed [.ref 0, .int x1, .int x2, .int x3] h (some (.int r1), h1, 0, 0) ∧ Run prog E pV1 120 mX8_feed [.ref 110, .int x1, .int x2, .int x3] h1 (some (.int r2), h2, 0, 0) ∧ (∃ o, pobj h1 110 = some o ∧ o.1 = 8) ∧ HI HT h2 ∧ JT h2 ∧ RJ h2 := by
  obtain ⟨r1, h1, q1, hh1, f1, hj1⟩ := pub_of (E := E) (a := 0) (kg_c_feed JT_P hands) (N := mX7_feed) rfl (List.cons_ne_nil _ _) [x1, x2, x3] rfl (fun q => by cases q) (Nat.le_of_ble_eq_true rfl) hh hj
  obtain ⟨r2, h2, q2, hh2, f2, hj2⟩ := pub_of (E := E) (a := 110) (kg_r_feed JT_P hands) (N := mX8_feed) rfl (List.cons_ne_nil _ _) [x1, x2, x3] rfl (fun q => by cases q) (Nat.le_of_ble_eq_true rfl) hh1 hj1
  exact ⟨r1, r2, h1, h2, q1, q2, mobj hh1, hh2, hj2, ⟨pRel_fr (pRel_fr hR.1 f1 (by decide +kernel)) f2 (by decide +kernel), cRel_fr (cRel_fr hR.2.1 f1 (by decide +kernel)) f2 (by decide +kernel), xj_fr (xj_fr hR.2.2 f1 (by decide +kernel)) f2 (by decide +kernel)⟩⟩
theorem lw_trim (x1 : Int32) (hh : HI HT h) (hj : JT h) (hR : RJ h) : ∃ (r1 r2 : Int32) (h1 h2 : List pC), Run prog E pV1 120 mX7_trim [.ref 0, .int x1] h (some (.int r1), h1, 0, 0) ∧ Run prog E pV1 120 mX8_trim [.ref 110, .int x1] h1 (some (.int r2), h2, 0, 0) ∧ (∃ o, pobj h1 110 = some o ∧ o.1 = 8) ∧ HI HT h2 ∧ JT h2 ∧ RJ h2 := by
  obtain ⟨r1, h1, q1, hh1, f1, hj1⟩ := pub_of (E := E) (a := 0) (kg_c_trim JT_P hands) (N := mX7_trim) rfl (List.cons_ne_nil _ _) [x1] rfl (fun q => by cases q) (Nat.le_of_ble_eq_true rfl) hh hj
  obtain ⟨r2, h2, q2, hh2, f2, hj2⟩ := pub_of (E := E) (a := 110) (kg_r_trim JT_P hands) (N := mX8_trim) rfl (List.cons_ne_nil _ _) [x1] rfl (fun q => by cases q) (Nat.le_of_ble_eq_true rfl) hh1 hj1
  exact ⟨r1, r2, h1, h2, q1, q2, mobj hh1, hh2, hj2, ⟨pRel_fr (pRel_fr hR.1 f1 (by decide +kernel)) f2 (by decide +kernel), cRel_fr (cRel_fr hR.2.1 f1 (by decide +kernel)) f2 (by decide +kernel), xj_fr (xj_fr hR.2.2 f1 (by decide +kernel)) f2 (by decide +kernel)⟩⟩
theorem lw_text (hh : HI HT h) (hj : JT h) (hR : RJ h) : ∃ (r1 r2 : Int32) (h1 h2 : List pC), Run prog E pV1 120 mX7_text [.ref 0] h (some (.int r1), h1, 0, 0) ∧ Run prog E pV1 120 mX8_text [.ref 110] h1 (some (.int r2), h2, 0, 0) ∧ (∃ o, pobj h1 110 = some o ∧ o.1 = 8) ∧ HI HT h2 ∧ JT h2 ∧ RJ h2 := by
  obtain ⟨r1, h1, q1, hh1, f1, hj1⟩ := pub_of (E := E) (a := 0) (kg_c_text JT_P hands) (N := mX7_text) rfl (List.cons_ne_nil _ _) [] rfl (fun q => by cases q) (Nat.le_of_ble_eq_true rfl) hh hj
  obtain ⟨r2, h2, q2, hh2, f2, hj2⟩ := pub_of (E := E) (a := 110) hd_text (N := mX8_text) rfl (List.cons_ne_nil _ _) [] rfl (fun q => by cases q) (Nat.le_of_ble_eq_true rfl) hh1 hj1
  exact ⟨r1, r2, h1, h2, q1, q2, mobj hh1, hh2, hj2, ⟨pRel_fr (pRel_fr hR.1 f1 (by decide +kernel)) f2 (by decide +kernel), cRel_fr (cRel_fr hR.2.1 f1 (by decide +kernel)) f2 (by decide +kernel), xj_fr (xj_fr hR.2.2 f1 (by decide +kernel)) f2 (by decide +kernel)⟩⟩
theorem lw_textTold (x1 x2 : Int32) (hh : HI HT h) (hj : JT h) (hR : RJ h) : ∃ (r1 r2 : Int32) (h1 h2 : List pC), Run prog E pV1 120 mX7_textTold [.ref 0, .int x1, .int x2] h (some (.int r1), h1, 0, 0) ∧ Run prog E pV1 120 mX8_textTold [.ref 110, .int x1, .int x2] h1 (some (.int r2), h2, 0, 0) ∧ (∃ o, pobj h1 110 = some o ∧ o.1 = 8) ∧ HI HT h2 ∧ JT h2 ∧ RJ h2 := by
  obtain ⟨r1, h1, q1, hh1, f1, hj1⟩ := pub_of (E := E) (a := 0) (kg_c_textTold JT_P hands) (N := mX7_textTold) rfl (List.cons_ne_nil _ _) [x1, x2] rfl (fun q => by cases q) (Nat.le_of_ble_eq_true rfl) hh hj
  obtain ⟨r2, h2, q2, hh2, f2, hj2⟩ := pub_of (E := E) (a := 110) (kg_r_textTold JT_P hands) (N := mX8_textTold) rfl (List.cons_ne_nil _ _) [x1, x2] rfl (fun q => by cases q) (Nat.le_of_ble_eq_true rfl) hh1 hj1
  exact ⟨r1, r2, h1, h2, q1, q2, mobj hh1, hh2, hj2, ⟨pRel_fr (pRel_fr hR.1 f1 (by decide +kernel)) f2 (by decide +kernel), cRel_fr (cRel_fr hR.2.1 f1 (by decide +kernel)) f2 (by decide +kernel), xj_fr (xj_fr hR.2.2 f1 (by decide +kernel)) f2 (by decide +kernel)⟩⟩
theorem lw_why (x1 : Int32) (hh : HI HT h) (hj : JT h) (hR : RJ h) : ∃ (r1 r2 : Int32) (h1 h2 : List pC), Run prog E pV1 120 mX7_why [.ref 0, .int x1] h (some (.int r1), h1, 0, 0) ∧ Run prog E pV1 120 mX8_why [.ref 110, .int x1] h1 (some (.int r2), h2, 0, 0) ∧ (∃ o, pobj h1 110 = some o ∧ o.1 = 8) ∧ HI HT h2 ∧ JT h2 ∧ RJ h2 := by
  obtain ⟨r1, h1, q1, hh1, f1, hj1⟩ := pub_of (E := E) (a := 0) (kg_c_why JT_P hands) (N := mX7_why) rfl (List.cons_ne_nil _ _) [x1] rfl (fun q => by cases q) (Nat.le_of_ble_eq_true rfl) hh hj
  obtain ⟨r2, h2, q2, hh2, f2, hj2⟩ := pub_of (E := E) (a := 110) (kg_r_why JT_P hands) (N := mX8_why) rfl (List.cons_ne_nil _ _) [x1] rfl (fun q => by cases q) (Nat.le_of_ble_eq_true rfl) hh1 hj1
  exact ⟨r1, r2, h1, h2, q1, q2, mobj hh1, hh2, hj2, ⟨pRel_fr (pRel_fr hR.1 f1 (by decide +kernel)) f2 (by decide +kernel), cRel_fr (cRel_fr hR.2.1 f1 (by decide +kernel)) f2 (by decide +kernel), xj_fr (xj_fr hR.2.2 f1 (by decide +kernel)) f2 (by decide +kernel)⟩⟩
theorem lw_sheet (x1 x2 x3 : Int32) (hh : HI HT h) (hj : JT h) (hR : RJ h) : ∃ (r1 r2 : Int32) (h1 h2 : List pC), Run prog E pV1 120 mX7_sheet [.ref 0, .int x1, .int x2, .int x3] h (some (.int r1), h1, 0, 0) ∧ Run prog E pV1 120 mX8_sheet [.ref 110, .int x1, .int x2, .int x3] h1 (some (.int r2), h2, 0, 0) ∧ (∃ o, pobj h1 110 = some o ∧ o.1 = 8) ∧ HI HT h2 ∧ JT h2 ∧ RJ h2 := by
  obtain ⟨r1, h1, q1, hh1, f1, hj1⟩ := pub_of (E := E) (a := 0) (kg_c_sheet JT_P hands) (N := mX7_sheet) rfl (List.cons_ne_nil _ _) [x1, x2, x3] rfl (fun q => by cases q) (Nat.le_of_ble_eq_true rfl) hh hj
  obtain ⟨r2, h2, q2, hh2, f2, hj2⟩ := pub_of (E := E) (a := 110) (kg_r_sheet JT_P hands) (N := mX8_sheet) rfl (List.cons_ne_nil _ _) [x1, x2, x3] rfl (fun q => by cases q) (Nat.le_of_ble_eq_true rfl) hh1 hj1
  exact ⟨r1, r2, h1, h2, q1, q2, mobj hh1, hh2, hj2, ⟨pRel_fr (pRel_fr hR.1 f1 (by decide +kernel)) f2 (by decide +kernel), cRel_fr (cRel_fr hR.2.1 f1 (by decide +kernel)) f2 (by decide +kernel), xj_fr (xj_fr hR.2.2 f1 (by decide +kernel)) f2 (by decide +kernel)⟩⟩
theorem lw_mark (x1 x2 x3 : Int32) (hh : HI HT h) (hj : JT h) (hR : RJ h) : ∃ (r1 r2 : Int32) (h1 h2 : List pC), Run prog E pV1 120 mX7_mark [.ref 0, .int x1, .int x2, .int x3] h (some (.int r1), h1, 0, 0) ∧ Run prog E pV1 120 mX8_mark [.ref 110, .int x1, .int x2, .int x3] h1 (some (.int r2), h2, 0, 0) ∧ (∃ o, pobj h1 110 = some o ∧ o.1 = 8) ∧ HI HT h2 ∧ JT h2 ∧ RJ h2 := by
  obtain ⟨r1, h1, q1, hh1, f1, hj1⟩ := pub_of (E := E) (a := 0) (kg_c_mark JT_P hands) (N := mX7_mark) rfl (List.cons_ne_nil _ _) [x1, x2, x3] rfl (fun q => by cases q) (Nat.le_of_ble_eq_true rfl) hh hj
  obtain ⟨r2, h2, q2, hh2, f2, hj2⟩ := pub_of (E := E) (a := 110) (kg_r_mark JT_P hands) (N := mX8_mark) rfl (List.cons_ne_nil _ _) [x1, x2, x3] rfl (fun q => by cases q) (Nat.le_of_ble_eq_true rfl) hh1 hj1
  exact ⟨r1, r2, h1, h2, q1, q2, mobj hh1, hh2, hj2, ⟨pRel_fr (pRel_fr hR.1 f1 (by decide +kernel)) f2 (by decide +kernel), cRel_fr (cRel_fr hR.2.1 f1 (by decide +kernel)) f2 (by decide +kernel), xj_fr (xj_fr hR.2.2 f1 (by decide +kernel)) f2 (by decide +kernel)⟩⟩
theorem lw_pour (x1 : Int32) (hh : HI HT h) (hj : JT h) (hR : RJ h) : ∃ (r1 r2 : Int32) (h1 h2 : List pC), Run prog E pV1 120 mX7_pour [.ref 0, .int x1] h (some (.int r1), h1, 0, 0) ∧ Run prog E pV1 120 mX8_pour [.ref 110, .int x1] h1 (some (.int r2), h2, 0, 0) ∧ (∃ o, pobj h1 110 = some o ∧ o.1 = 8) ∧ HI HT h2 ∧ JT h2 ∧ RJ h2 := by
  obtain ⟨r1, h1, q1, hh1, f1, hj1⟩ := pub_of (E := E) (a := 0) (kg_c_pourF) (N := mX7_pour) rfl (List.cons_ne_nil _ _) [x1] rfl (fun q => by cases q) (Nat.le_of_ble_eq_true rfl) hh hj
  obtain ⟨r2, h2, q2, hh2, f2, hj2⟩ := pub_of (E := E) (a := 110) (kg_r_pourF) (N := mX8_pour) rfl (List.cons_ne_nil _ _) [x1] rfl (fun q => by cases q) (Nat.le_of_ble_eq_true rfl) hh1 hj1
  exact ⟨r1, r2, h1, h2, q1, q2, mobj hh1, hh2, hj2, ⟨pRel_fr (pRel_fr hR.1 f1 (by decide +kernel)) f2 (by decide +kernel), cRel_fr (cRel_fr hR.2.1 f1 (by decide +kernel)) f2 (by decide +kernel), xj_fr (xj_fr hR.2.2 f1 (by decide +kernel)) f2 (by decide +kernel)⟩⟩
theorem lw_reads (x1 : Int32) (hh : HI HT h) (hj : JT h) (hR : RJ h) : ∃ (r1 r2 : Int32) (h1 h2 : List pC), Run prog E pV1 120 mX7_reads [.ref 0, .int x1] h (some (.int r1), h1, 0, 0) ∧ Run prog E pV1 120 mX8_reads [.ref 110, .int x1] h1 (some (.int r2), h2, 0, 0) ∧ (∃ o, pobj h1 110 = some o ∧ o.1 = 8) ∧ HI HT h2 ∧ JT h2 ∧ RJ h2 := by
  obtain ⟨r1, h1, q1, hh1, f1, hj1⟩ := pub_of (E := E) (a := 0) (kg_c_reads JT_P hands) (N := mX7_reads) rfl (List.cons_ne_nil _ _) [x1] rfl (fun q => by cases q) (Nat.le_of_ble_eq_true rfl) hh hj
  obtain ⟨r2, h2, q2, hh2, f2, hj2⟩ := pub_of (E := E) (a := 110) (kg_r_reads JT_P hands) (N := mX8_reads) rfl (List.cons_ne_nil _ _) [x1] rfl (fun q => by cases q) (Nat.le_of_ble_eq_true rfl) hh1 hj1
  exact ⟨r1, r2, h1, h2, q1, q2, mobj hh1, hh2, hj2, ⟨pRel_fr (pRel_fr hR.1 f1 (by decide +kernel)) f2 (by decide +kernel), cRel_fr (cRel_fr hR.2.1 f1 (by decide +kernel)) f2 (by decide +kernel), xj_fr (xj_fr hR.2.2 f1 (by decide +kernel)) f2 (by decide +kernel)⟩⟩
theorem lw_copy (x1 x2 x3 x4 x5 : Int32) (hh : HI HT h) (hj : JT h) (hR : RJ h) : ∃ (r1 r2 : Int32) (h1 h2 : List pC), Run prog E pV1 120 mX7_copy [.ref 0, .int x1, .int x2, .int x3, .int x4, .int x5] h (some (.int r1), h1, 0, 0) ∧ Run prog E pV1 120 mX8_copy [.ref 110, .int x1, .int x2, .int x3, .int x4, .int x5] h1 (some (.int r2), h2, 0, 0) ∧ (∃ o, pobj h1 110 = some o ∧ o.1 = 8) ∧ HI HT h2 ∧ JT h2 ∧ RJ h2 := by
  obtain ⟨r1, h1, q1, hh1, f1, hj1⟩ := pub_of (E := E) (a := 0) (kg_c_copy JT_P hands) (N := mX7_copy) rfl (List.cons_ne_nil _ _) [x1, x2, x3, x4, x5] rfl (fun q => by cases q) (Nat.le_of_ble_eq_true rfl) hh hj
  obtain ⟨r2, h2, q2, hh2, f2, hj2⟩ := pub_of (E := E) (a := 110) hd_copy (N := mX8_copy) rfl (List.cons_ne_nil _ _) [x1, x2, x3, x4, x5] rfl (fun q => by cases q) (Nat.le_of_ble_eq_true rfl) hh1 hj1
  exact ⟨r1, r2, h1, h2, q1, q2, mobj hh1, hh2, hj2, ⟨pRel_fr (pRel_fr hR.1 f1 (by decide +kernel)) f2 (by decide +kernel), cRel_fr (cRel_fr hR.2.1 f1 (by decide +kernel)) f2 (by decide +kernel), xj_fr (xj_fr hR.2.2 f1 (by decide +kernel)) f2 (by decide +kernel)⟩⟩
theorem lw_lay (x1 x2 x3 : Int32) (hh : HI HT h) (hj : JT h) (hR : RJ h) : ∃ (r1 r2 : Int32) (h1 h2 : List pC), Run prog E pV1 120 mX7_lay [.ref 0, .int x1, .int x2, .int x3] h (some (.int r1), h1, 0, 0) ∧ Run prog E pV1 120 mX8_lay [.ref 110, .int x1, .int x2, .int x3] h1 (some (.int r2), h2, 0, 0) ∧ (∃ o, pobj h1 110 = some o ∧ o.1 = 8) ∧ HI HT h2 ∧ JT h2 ∧ RJ h2 := by
  obtain ⟨r1, h1, q1, hh1, f1, hj1⟩ := pub_of (E := E) (a := 0) (kg_c_lay JT_P hands) (N := mX7_lay) rfl (List.cons_ne_nil _ _) [x1, x2, x3] rfl (fun q => by cases q) (Nat.le_of_ble_eq_true rfl) hh hj
  obtain ⟨r2, h2, q2, hh2, f2, hj2⟩ := pub_of (E := E) (a := 110) (kg_r_lay JT_P hands) (N := mX8_lay) rfl (List.cons_ne_nil _ _) [x1, x2, x3] rfl (fun q => by cases q) (Nat.le_of_ble_eq_true rfl) hh1 hj1
  exact ⟨r1, r2, h1, h2, q1, q2, mobj hh1, hh2, hj2, ⟨pRel_fr (pRel_fr hR.1 f1 (by decide +kernel)) f2 (by decide +kernel), cRel_fr (cRel_fr hR.2.1 f1 (by decide +kernel)) f2 (by decide +kernel), xj_fr (xj_fr hR.2.2 f1 (by decide +kernel)) f2 (by decide +kernel)⟩⟩
theorem lw_ask (x1 x2 : Int32) (hh : HI HT h) (hj : JT h) (hR : RJ h) : ∃ (r1 r2 : Int32) (h1 h2 : List pC), Run prog E pV1 120 mX7_ask [.ref 0, .int x1, .int x2] h (some (.int r1), h1, 0, 0) ∧ Run prog E pV1 120 mX8_ask [.ref 110, .int x1, .int x2] h1 (some (.int r2), h2, 0, 0) ∧ (∃ o, pobj h1 110 = some o ∧ o.1 = 8) ∧ HI HT h2 ∧ JT h2 ∧ RJ h2 := by
  obtain ⟨r1, h1, q1, hh1, f1, hj1⟩ := pub_of (E := E) (a := 0) (kg_c_ask JT_P hands) (N := mX7_ask) rfl (List.cons_ne_nil _ _) [x1, x2] rfl (fun q => by cases q) (Nat.le_of_ble_eq_true rfl) hh hj
  obtain ⟨r2, h2, q2, hh2, f2, hj2⟩ := pub_of (E := E) (a := 110) (kg_r_ask JT_P hands) (N := mX8_ask) rfl (List.cons_ne_nil _ _) [x1, x2] rfl (fun q => by cases q) (Nat.le_of_ble_eq_true rfl) hh1 hj1
  exact ⟨r1, r2, h1, h2, q1, q2, mobj hh1, hh2, hj2, ⟨pRel_fr (pRel_fr hR.1 f1 (by decide +kernel)) f2 (by decide +kernel), cRel_fr (cRel_fr hR.2.1 f1 (by decide +kernel)) f2 (by decide +kernel), xj_fr (xj_fr hR.2.2 f1 (by decide +kernel)) f2 (by decide +kernel)⟩⟩
theorem lw_item (x1 x2 : Int32) (hh : HI HT h) (hj : JT h) (hR : RJ h) : ∃ (r1 r2 : Int32) (h1 h2 : List pC), Run prog E pV1 120 mX7_item [.ref 0, .int x1, .int x2] h (some (.int r1), h1, 0, 0) ∧ Run prog E pV1 120 mX8_item [.ref 110, .int x1, .int x2] h1 (some (.int r2), h2, 0, 0) ∧ (∃ o, pobj h1 110 = some o ∧ o.1 = 8) ∧ HI HT h2 ∧ JT h2 ∧ RJ h2 := by
  obtain ⟨r1, h1, q1, hh1, f1, hj1⟩ := pub_of (E := E) (a := 0) (kg_c_item JT_P hands) (N := mX7_item) rfl (List.cons_ne_nil _ _) [x1, x2] rfl (fun q => by cases q) (Nat.le_of_ble_eq_true rfl) hh hj
  obtain ⟨r2, h2, q2, hh2, f2, hj2⟩ := pub_of (E := E) (a := 110) (kg_r_item JT_P hands) (N := mX8_item) rfl (List.cons_ne_nil _ _) [x1, x2] rfl (fun q => by cases q) (Nat.le_of_ble_eq_true rfl) hh1 hj1
  exact ⟨r1, r2, h1, h2, q1, q2, mobj hh1, hh2, hj2, ⟨pRel_fr (pRel_fr hR.1 f1 (by decide +kernel)) f2 (by decide +kernel), cRel_fr (cRel_fr hR.2.1 f1 (by decide +kernel)) f2 (by decide +kernel), xj_fr (xj_fr hR.2.2 f1 (by decide +kernel)) f2 (by decide +kernel)⟩⟩
theorem lw_rest (x1 x2 : Int32) (hh : HI HT h) (hj : JT h) (hR : RJ h) : ∃ (r1 r2 : Int32) (h1 h2 : List pC), Run prog E pV1 120 mX7_rest [.ref 0, .int x1, .int x2] h (some (.int r1), h1, 0, 0) ∧ Run prog E pV1 120 mX8_rest [.ref 110, .int x1, .int x2] h1 (some (.int r2), h2, 0, 0) ∧ (∃ o, pobj h1 110 = some o ∧ o.1 = 8) ∧ HI HT h2 ∧ JT h2 ∧ RJ h2 := by
  obtain ⟨r1, h1, q1, hh1, f1, hj1⟩ := pub_of (E := E) (a := 0) (kg_c_rest JT_P hands) (N := mX7_rest) rfl (List.cons_ne_nil _ _) [x1, x2] rfl (fun q => by cases q) (Nat.le_of_ble_eq_true rfl) hh hj
  obtain ⟨r2, h2, q2, hh2, f2, hj2⟩ := pub_of (E := E) (a := 110) (kg_r_rest JT_P hands) (N := mX8_rest) rfl (List.cons_ne_nil _ _) [x1, x2] rfl (fun q => by cases q) (Nat.le_of_ble_eq_true rfl) hh1 hj1
  exact ⟨r1, r2, h1, h2, q1, q2, mobj hh1, hh2, hj2, ⟨pRel_fr (pRel_fr hR.1 f1 (by decide +kernel)) f2 (by decide +kernel), cRel_fr (cRel_fr hR.2.1 f1 (by decide +kernel)) f2 (by decide +kernel), xj_fr (xj_fr hR.2.2 f1 (by decide +kernel)) f2 (by decide +kernel)⟩⟩
theorem lw_tell (x1 : Int32) (hh : HI HT h) (hj : JT h) (hR : RJ h) : ∃ (r1 r2 : Int32) (h1 h2 : List pC), Run prog E pV1 120 mX7_tell [.ref 0, .int x1] h (some (.int r1), h1, 0, 0) ∧ Run prog E pV1 120 mX8_tell [.ref 110, .int x1] h1 (some (.int r2), h2, 0, 0) ∧ (∃ o, pobj h1 110 = some o ∧ o.1 = 8) ∧ HI HT h2 ∧ JT h2 ∧ RJ h2 := by
  obtain ⟨r1, h1, q1, hh1, f1, hj1⟩ := pub_of (E := E) (a := 0) (kg_c_tell JT_P hands) (N := mX7_tell) rfl (List.cons_ne_nil _ _) [x1] rfl (fun q => by cases q) (Nat.le_of_ble_eq_true rfl) hh hj
  obtain ⟨r2, h2, q2, hh2, f2, hj2⟩ := pub_of (E := E) (a := 110) (kg_r_tell JT_P hands) (N := mX8_tell) rfl (List.cons_ne_nil _ _) [x1] rfl (fun q => by cases q) (Nat.le_of_ble_eq_true rfl) hh1 hj1
  exact ⟨r1, r2, h1, h2, q1, q2, mobj hh1, hh2, hj2, ⟨pRel_fr (pRel_fr hR.1 f1 (by decide +kernel)) f2 (by decide +kernel), cRel_fr (cRel_fr hR.2.1 f1 (by decide +kernel)) f2 (by decide +kernel), xj_fr (xj_fr hR.2.2 f1 (by decide +kernel)) f2 (by decide +kernel)⟩⟩
theorem lw_check (x1 : Int32) (hh : HI HT h) (hj : JT h) (hR : RJ h) : ∃ (r1 r2 : Int32) (h1 h2 : List pC), Run prog E pV1 120 mX7_check [.ref 0, .int x1] h (some (.int r1), h1, 0, 0) ∧ Run prog E pV1 120 mX8_check [.ref 110, .int x1] h1 (some (.int r2), h2, 0, 0) ∧ (∃ o, pobj h1 110 = some o ∧ o.1 = 8) ∧ HI HT h2 ∧ JT h2 ∧ RJ h2 := by
  obtain ⟨r1, h1, q1, hh1, f1, hj1⟩ := pub_of (E := E) (a := 0) (kg_c_check JT_P hands) (N := mX7_check) rfl (List.cons_ne_nil _ _) [x1] rfl (fun q => by cases q) (Nat.le_of_ble_eq_true rfl) hh hj
  obtain ⟨r2, h2, q2, hh2, f2, hj2⟩ := pub_of (E := E) (a := 110) (hd_check hands) (N := mX8_check) rfl (List.cons_ne_nil _ _) [x1] rfl (fun q => by cases q) (Nat.le_of_ble_eq_true rfl) hh1 hj1
  exact ⟨r1, r2, h1, h2, q1, q2, mobj hh1, hh2, hj2, ⟨pRel_fr (pRel_fr hR.1 f1 (by decide +kernel)) f2 (by decide +kernel), cRel_fr (cRel_fr hR.2.1 f1 (by decide +kernel)) f2 (by decide +kernel), xj_fr (xj_fr hR.2.2 f1 (by decide +kernel)) f2 (by decide +kernel)⟩⟩
theorem lw_keep (hh : HI HT h) (hj : JT h) (hR : RJ h) : ∃ (r : Int32) (h1 h2 : List pC), Run prog E pV1 120 mX7_keep [.ref 0] h (some (.int r), h1, 0, 0) ∧ Run prog E pV1 120 mX8_keep [.ref 110] h1 (some (.int r), h2, 0, 0) ∧ (∃ o, pobj h1 110 = some o ∧ o.1 = 8) ∧ HI HT h2 ∧ JT h2 ∧ RJ h2 := by
  obtain ⟨r1, h1, q1, hh1, hj1, f1, z0, zi, zr⟩ := ox_ok (E := E) (xs := []) (R' := ro_keep) (Q := fun r h' => ri h' 48 5 = ri h 34 5 ∧ ri h' 0 9 = 1 ∧ r = some (.int (ri h 34 5))) ox_keep rfl (fun _ h => absurd h List.not_mem_nil) hj hh (sub_rel hR.1 (by decide)) (pBd_ty hh (sub_rel hR.1 (by decide)) (by decide +kernel)) trivial (fun e he => by cases he) (fun σ Γ C Δ x r h' he ha _ hC _ hr => by
    obtain ⟨a1, u, a2, a3⟩ := ecV_ok he hC hr
    have s1 : σ 1 = (ri h 34 5).toInt := ha 1 (by decide)
    refine ⟨Int32.toInt_inj.mp ((zsy (a1 _ List.mem_cons_self)).trans s1), Int32.toInt_inj.mp (zcn (a1 _ (List.mem_cons_of_mem _ List.mem_cons_self))), ?_⟩
    rw [a2, Int32.toInt_inj.mp ((zsy (a3 _ rfl)).trans s1)])
  obtain ⟨h2, q2, hh2, hj2, f2, k1, k2⟩ := keep_x (E := E) hh1 hj1
  have e0 : ri h 34 5 = ri h 111 0 := (sub_rel (R' := [((8, 34, 5), (0, 111, 0), 0, 9)]) hR.1 (by decide) _ List.mem_cons_self)
  have e1 : ri h1 111 0 = ri h 111 0 := ri_fr f1 (by decide)
  subst zr
  rw [e1, ← e0] at q2
  refine ⟨_, h1, h2, q1, q2, mobj hh1, hh2, hj2, fun q hq => ?_, cRel_fr (cRel_fr hR.2.1 f1 (by decide +kernel)) f2 (by decide +kernel), xj_fr (xj_fr hR.2.2 f1 (by decide +kernel)) f2 (by decide +kernel)⟩
  rcases List.mem_cons.mp hq with rfl | hq
  · exact pRel_fr (pRel_fr (R := [((8, 34, 5), (0, 111, 0), 0, 9)]) (sub_rel hR.1 (by decide)) f1 (by decide +kernel)) f2 (by decide +kernel) _ List.mem_cons_self
  rcases List.mem_cons.mp hq with rfl | hq
  · show ri h2 48 5 = ri h2 112 0
    rw [ri_fr (a := 48) (i := 5) f2 (by decide), z0, k1 0 (by decide), ri_fr (a := 111) (i := 0) f1 (by decide)]
    exact (sub_rel (R' := [((8, 34, 5), (0, 111, 0), 0, 9)]) hR.1 (by decide) _ List.mem_cons_self)
  obtain rfl := List.mem_singleton.mp hq
  show ri h2 0 9 = ri h2 110 3
  rw [ri_fr (a := 0) (i := 9) f2 (by decide), zi, k2]
theorem lw_back (hh : HI HT h) (hj : JT h) (hR : RJ h) : ∃ (r1 r2 : Int32) (h1 h2 : List pC), Run prog E pV1 120 mX7_back [.ref 0] h (some (.int r1), h1, 0, 0) ∧ Run prog E pV1 120 mX8_back [.ref 110] h1 (some (.int r2), h2, 0, 0) ∧ (∃ o, pobj h1 110 = some o ∧ o.1 = 8) ∧ HI HT h2 ∧ JT h2 ∧ RJ h2 := by
  have t9 : 0 ≤ (ri h 0 9).toInt ∧ (ri h 0 9).toInt ≤ 1 := pBd_ty (R := [((9, 0, 9), (10, 110, 3), 0, 1)]) hh (sub_rel hR.1 (by decide)) (by decide +kernel) _ List.mem_cons_self
  have e9 : ri h 0 9 = ri h 110 3 := (sub_rel (R' := [((9, 0, 9), (10, 110, 3), 0, 1)]) hR.1 (by decide) _ List.mem_cons_self)
  by_cases c9 : (ri h 0 9).toInt ≤ 0
  · have z9 : ri h 110 3 = 0 := by
      rw [← e9]
      exact Int32.toInt_inj.mp (by rw [show (0 : Int32).toInt = 0 by decide]; omega)
    obtain ⟨r1, h1, q1, hh1, hj1, f1, z3⟩ := ox_ok (E := E) (xs := []) (R' := ro_back0) (Q := fun r h' => r = some (.int (-1000000002))) ox_back0 rfl (fun _ h => absurd h List.not_mem_nil) hj hh (sub_rel hR.1 (by decide)) (pBd.cs t9.1 c9 pBd.nl) trivial (fun e he => by cases he) (fun σ Γ C Δ x r h' he ha _ hC _ hr => by
      obtain ⟨a1, u, a2, a3⟩ := ecV_ok he hC hr
      rw [a2, show u = -1000000002 from Int32.toInt_inj.mp ((zcn (a3 _ rfl)).trans (by decide))])
    obtain ⟨h2, q2, hh2, hj2, f2, k1, k2⟩ := back_x (E := E) hh1 hj1
    have e3 : ri h1 110 3 = 0 := (ri_fr f1 (by decide)).trans z9
    subst z3
    rw [if_pos e3] at q2
    have hR1 : pRel RL h1 := pRel_fr hR.1 f1 (by decide)
    refine ⟨_, _, h1, h2, q1, q2, mobj hh1, hh2, hj2, fun q hq => ?_, cRel_fr (cRel_fr hR.2.1 f1 (by decide +kernel)) f2 (by decide +kernel), xj_fr (xj_fr hR.2.2 f1 (by decide +kernel)) f2 (by decide +kernel)⟩
    rcases List.mem_cons.mp hq with rfl | hq
    · show ri h2 34 5 = ri h2 111 0
      rw [ri_fr (a := 34) (i := 5) f2 (by decide), k1 e3 0]
      exact hR1 _ List.mem_cons_self
    rcases List.mem_cons.mp hq with rfl | hq
    · exact pRel_fr (pRel_fr (R := [((8, 48, 5), (0, 112, 0), 0, 9)]) (sub_rel hR.1 (by decide)) f1 (by decide +kernel)) f2 (by decide +kernel) _ List.mem_cons_self
    obtain rfl := List.mem_singleton.mp hq
    exact pRel_fr (pRel_fr (R := [((9, 0, 9), (10, 110, 3), 0, 1)]) (sub_rel hR.1 (by decide)) f1 (by decide +kernel)) f2 (by decide +kernel) _ List.mem_cons_self
  · have hB1 : pBd ro_back1 h := pBd.cs (ty_48_5 hh hR).1 (ty_48_5 hh hR).2 (pBd.cs (by show (1 : Int) ≤ (ri h 0 9).toInt; omega) t9.2 pBd.nl)
    obtain ⟨r1, h1, q1, hh1, hj1, f1, z0, zr⟩ := ox_ok (E := E) (xs := []) (R' := ro_back1) (Q := fun r h' => ri h' 34 5 = ri h 48 5 ∧ r = some (.int (ri h 48 5))) ox_back1 rfl (fun _ h => absurd h List.not_mem_nil) hj hh (kn_rel hR.1 hR.2.1 hB1 (by decide +kernel)) hB1 trivial (fun e he => by cases he) (fun σ Γ C Δ x r h' he ha _ hC _ hr => by
      obtain ⟨a1, u, a2, a3⟩ := ecV_ok he hC hr
      have s1 : σ 1 = (ri h 48 5).toInt := ha 1 (by decide)
      refine ⟨Int32.toInt_inj.mp ((zsy (a1 _ List.mem_cons_self)).trans s1), ?_⟩
      rw [a2, Int32.toInt_inj.mp ((zsy (a3 _ rfl)).trans s1)])
    obtain ⟨h2, q2, hh2, hj2, f2, k1, k2⟩ := back_x (E := E) hh1 hj1
    have n3 : ¬ ri h1 110 3 = 0 := fun e => c9 (by
      rw [e9, ← ri_fr (a := 110) (i := 3) f1 (by decide), e]
      decide)
    subst zr
    have e8 : ri h 48 5 = ri h 112 0 := (sub_rel (R' := [((8, 48, 5), (0, 112, 0), 0, 9)]) hR.1 (by decide) _ List.mem_cons_self)
    have e1 : ri h1 112 0 = ri h 112 0 := ri_fr f1 (by decide)
    rw [if_neg n3, e1, ← e8] at q2
    refine ⟨_, _, h1, h2, q1, q2, mobj hh1, hh2, hj2, fun q hq => ?_, cRel_fr (cRel_fr hR.2.1 f1 (by decide +kernel)) f2 (by decide +kernel), xj_fr (xj_fr hR.2.2 f1 (by decide +kernel)) f2 (by decide +kernel)⟩
    rcases List.mem_cons.mp hq with rfl | hq
    · show ri h2 34 5 = ri h2 111 0
      rw [ri_fr (a := 34) (i := 5) f2 (by decide), z0, k2 n3 0 (by decide), ri_fr (a := 112) (i := 0) f1 (by decide)]
      exact (sub_rel (R' := [((8, 48, 5), (0, 112, 0), 0, 9)]) hR.1 (by decide) _ List.mem_cons_self)
    rcases List.mem_cons.mp hq with rfl | hq
    · exact pRel_fr (pRel_fr (R := [((8, 48, 5), (0, 112, 0), 0, 9)]) (sub_rel hR.1 (by decide)) f1 (by decide +kernel)) f2 (by decide +kernel) _ List.mem_cons_self
    obtain rfl := List.mem_singleton.mp hq
    exact pRel_fr (pRel_fr (R := [((9, 0, 9), (10, 110, 3), 0, 1)]) (sub_rel hR.1 (by decide)) f1 (by decide +kernel)) f2 (by decide +kernel) _ List.mem_cons_self
theorem lw_count (x1 : Int32) (hh : HI HT h) (hj : JT h) (hR : RJ h) : ∃ (r1 r2 : Int32) (h1 h2 : List pC), Run prog E pV1 120 mX7_count [.ref 0, .int x1] h (some (.int r1), h1, 0, 0) ∧ Run prog E pV1 120 mX8_count [.ref 110, .int x1] h1 (some (.int r2), h2, 0, 0) ∧ (∃ o, pobj h1 110 = some o ∧ o.1 = 8) ∧ HI HT h2 ∧ JT h2 ∧ RJ h2 := by
  obtain ⟨r1, h1, q1, hh1, f1, hj1⟩ := pub_of (E := E) (a := 0) (kg_c_count JT_P hands) (N := mX7_count) rfl (List.cons_ne_nil _ _) [x1] rfl (fun q => by cases q) (Nat.le_of_ble_eq_true rfl) hh hj
  obtain ⟨r2, h2, q2, hh2, f2, hj2⟩ := pub_of (E := E) (a := 110) (kg_r_count JT_P hands) (N := mX8_count) rfl (List.cons_ne_nil _ _) [x1] rfl (fun q => by cases q) (Nat.le_of_ble_eq_true rfl) hh1 hj1
  exact ⟨r1, r2, h1, h2, q1, q2, mobj hh1, hh2, hj2, ⟨pRel_fr (pRel_fr hR.1 f1 (by decide +kernel)) f2 (by decide +kernel), cRel_fr (cRel_fr hR.2.1 f1 (by decide +kernel)) f2 (by decide +kernel), xj_fr (xj_fr hR.2.2 f1 (by decide +kernel)) f2 (by decide +kernel)⟩⟩
end LWS
