/-! ===== what each pair of calls does, and what stays alike (printed by program) ===== -/
def RL : List pq := [((8, 34, 5), (0, 111, 0), 0, 9), ((8, 48, 5), (0, 112, 0), 0, 9), ((9, 0, 9), (10, 110, 3), 0, 1), ((5, 82, 1), (0, 114, 0), (-1), 1), ((5, 84, 1), (0, 114, 1), (-1), 1), ((5, 86, 1), (0, 114, 2), (-1), 1), ((5, 88, 1), (0, 114, 3), (-1), 1), ((5, 82, 2), (0, 115, 0), 0, 24), ((5, 84, 2), (0, 115, 1), 0, 24), ((5, 86, 2), (0, 115, 2), 0, 24), ((5, 88, 2), (0, 115, 3), 0, 24), ((7, 90, 2), (0, 117, 0), 0, 3), ((7, 94, 2), (0, 117, 1), 0, 3), ((7, 98, 2), (0, 117, 2), 0, 3), ((7, 102, 2), (0, 117, 3), 0, 3), ((7, 106, 2), (0, 117, 4), 0, 3)]
def RLt : List pq := [((5, 82, 1), (0, 114, 0), (-1), 1), ((5, 84, 1), (0, 114, 1), (-1), 1), ((5, 86, 1), (0, 114, 2), (-1), 1), ((5, 88, 1), (0, 114, 3), (-1), 1), ((5, 82, 2), (0, 115, 0), 0, 24), ((5, 84, 2), (0, 115, 1), 0, 24), ((5, 86, 2), (0, 115, 2), 0, 24), ((5, 88, 2), (0, 115, 3), 0, 24), ((7, 90, 2), (0, 117, 0), 0, 3), ((7, 94, 2), (0, 117, 1), 0, 3), ((7, 98, 2), (0, 117, 2), 0, 3), ((7, 102, 2), (0, 117, 3), 0, 3), ((7, 106, 2), (0, 117, 4), 0, 3)]
def RLu : List pq := [((8, 48, 5), (0, 112, 0), 0, 9), ((9, 0, 9), (10, 110, 3), 0, 1), ((5, 82, 1), (0, 114, 0), (-1), 1), ((5, 84, 1), (0, 114, 1), (-1), 1), ((5, 86, 1), (0, 114, 2), (-1), 1), ((5, 88, 1), (0, 114, 3), (-1), 1), ((5, 82, 2), (0, 115, 0), 0, 24), ((5, 84, 2), (0, 115, 1), 0, 24), ((5, 86, 2), (0, 115, 2), 0, 24), ((5, 88, 2), (0, 115, 3), 0, 24), ((7, 90, 2), (0, 117, 0), 0, 3), ((7, 94, 2), (0, 117, 1), 0, 3), ((7, 98, 2), (0, 117, 2), 0, 3), ((7, 102, 2), (0, 117, 3), 0, 3), ((7, 106, 2), (0, 117, 4), 0, 3)]
def CL : List cq := [((7, 90, 2), 3, 3, ((7, 90, 3), (0, 118, 0), (-2147483648), 2147483647)), ((7, 94, 2), 3, 3, ((7, 94, 3), (0, 118, 1), (-2147483648), 2147483647)), ((7, 98, 2), 3, 3, ((7, 98, 3), (0, 118, 2), (-2147483648), 2147483647)), ((7, 102, 2), 3, 3, ((7, 102, 3), (0, 118, 3), (-2147483648), 2147483647)), ((7, 106, 2), 3, 3, ((7, 106, 3), (0, 118, 4), (-2147483648), 2147483647))]
/-- what is kept beside -/
def XJ (_ : List pC) : Prop := True
def xjW (_ : aW) : Bool := true
theorem xj_fr {W : aW} {h h' : List pC} (hx : XJ h) (_ : Fr W h h') (_ : xjW W = true) : XJ h' := hx
theorem xj0 : XJ h0 := trivial
def RJ (h : List pC) : Prop := pRel RL h ∧ cRel CL h ∧ XJ h
theorem rj0 : RJ h0 := ⟨fun q hq => of_decide_eq_true (List.all_eq_true.mp (show RL.all (fun q => decide (ri h0 q.1.2.1 q.1.2.2 = ri h0 q.2.1.2.1 q.2.1.2.2)) = true by decide +kernel) q hq), fun c hc b1 b2 => of_decide_eq_true (List.all_eq_true.mp (show CL.all (fun c => decide (c.2.1 ≤ (ri h0 c.1.2.1 c.1.2.2).toInt → (ri h0 c.1.2.1 c.1.2.2).toInt ≤ c.2.2.1 → ri h0 c.2.2.2.1.2.1 c.2.2.2.1.2.2 = ri h0 c.2.2.2.2.1.2.1 c.2.2.2.2.1.2.2)) = true by decide +kernel) c hc) b1 b2, xj0⟩
theorem i32_b (v : Int32) : -2147483648 ≤ v.toInt ∧ v.toInt ≤ 2147483647 := ⟨i32_lo v, i32_hi v⟩
theorem args_top : ∀ (xs : List Int32), argsG (xs.map Value.int) (List.replicate xs.length (.inl (-2147483648, 2147483647)))
  | [] => trivial
  | x :: xs => ⟨⟨x, rfl, i32_lo x, i32_hi x⟩, args_top xs⟩
/-- what a public method does, from its contract -/
theorem pub_of {E : pX} {i a : Nat} {c : aK} (hk : KGi E pV1 JT i c) {N : pM} (hN : prog[i]? = some N) (hc : m_code N ≠ []) (xs : List Int32) (h1 : c.1 = .inr (false, [a]) :: List.replicate xs.length (.inl (-2147483648, 2147483647))) (h2 : c.2.1 ≠ none) (h3 : c.2.2.2 ≤ 120) {h : List pC} (hh : HI HT h) (hj : JT h) : ∃ (r : Int32) (h' : List pC), Run prog E pV1 120 N (.ref a :: xs.map Value.int) h (some (.int r), h', 0, 0) ∧ HI HT h' ∧ Fr c.2.2.1 h h' ∧ JT h' := by
  obtain ⟨r, h', q, hr, hh', hf, hj'⟩ := hk N hN 120 h3 (.ref a :: xs.map Value.int) h (by rw [h1]; exact ⟨Or.inr ⟨a, List.mem_singleton.mpr rfl, rfl⟩, args_top xs⟩) hh hj
  obtain ⟨z, hz⟩ : ∃ z, c.2.1 = some z := by
    cases e : c.2.1 with
    | none => exact absurd e h2
    | some z => exact ⟨z, rfl⟩
  rw [hz] at hr
  obtain ⟨v, rfl, -⟩ := (show ∃ v : Int32, r = some (.int v) ∧ z.1 ≤ v.toInt ∧ v.toInt ≤ z.2 from hr)
  rcases q with q | q
  · exact ⟨v, h', q, hh', hf, hj'⟩
  · exact absurd q.1 hc
theorem cobj {h : List pC} (hh : HI HT h) : ∃ o, pobj h 0 = some o ∧ o.1 = 7 := by
  obtain ⟨fs, ho, -⟩ := hi_obj hh (a := 0) rfl
  exact ⟨_, ho, rfl⟩
def k_c_carveF : aK := ([.inr (false, [0]), .inl ((-2147483648), 2147483647), .inl ((-2147483648), 2147483647)], some ((-2147483648), 2147483647), [(35, 35, 0, 15)], 50)
def tb_c_carveF : aTb := fun mi i => none
def kc_c_carveF : List (Nat × aK) := [(48, k_covers), (50, k_sayAt), (44, k_value), (54, k_gainOver), (55, k_loss), (56, k_worth), (49, k_covered), (57, k_joined), (58, k_clashes), (70, k_falsehood34), (71, k_trustOfAll34), (72, k_laidSet34), (73, k_coveredBy34), (77, k_deniers34), (80, k_gainOf34), (78, k_flow34), (75, k_noteClashes), (76, k_anyClash)]
set_option maxRecDepth 100000 in
set_option maxHeartbeats 40000000 in
theorem ck_c_carveF : kchk prog HT kc_c_carveF tb_c_carveF 72 92 k_c_carveF = true := by decide +kernel
theorem kg_c_carveF {E : pX} : KGi E pV1 JT 92 k_c_carveF := kgi_of JT_P (by decide) ck_c_carveF (by unfold kc_c_carveF; exact (List.forall_mem_cons.mpr ⟨kg_covers JT_P hands, (List.forall_mem_cons.mpr ⟨kg_sayAt JT_P hands, (List.forall_mem_cons.mpr ⟨kg_value JT_P hands, (List.forall_mem_cons.mpr ⟨kg_gainOver JT_P hands, (List.forall_mem_cons.mpr ⟨kg_loss JT_P hands, (List.forall_mem_cons.mpr ⟨kg_worth JT_P hands, (List.forall_mem_cons.mpr ⟨kg_covered JT_P hands, (List.forall_mem_cons.mpr ⟨kg_joined JT_P hands, (List.forall_mem_cons.mpr ⟨kg_clashes JT_P hands, (List.forall_mem_cons.mpr ⟨kg_falsehood34 JT_P hands, (List.forall_mem_cons.mpr ⟨kg_trustOfAll34 JT_P hands, (List.forall_mem_cons.mpr ⟨kg_laidSet34 JT_P hands, (List.forall_mem_cons.mpr ⟨kg_coveredBy34 JT_P hands, (List.forall_mem_cons.mpr ⟨kg_deniers34 JT_P hands, (List.forall_mem_cons.mpr ⟨kg_gainOf34 JT_P hands, (List.forall_mem_cons.mpr ⟨kg_flow34 JT_P hands, (List.forall_mem_cons.mpr ⟨kg_noteClashes JT_P hands, (List.forall_mem_cons.mpr ⟨kg_anyClash JT_P hands, (fun _ h => absurd h List.not_mem_nil)⟩)⟩)⟩)⟩)⟩)⟩)⟩)⟩)⟩)⟩)⟩)⟩)⟩)⟩)⟩)⟩)⟩)⟩))
def k_r_carveF : aK := ([.inr (false, [110]), .inl ((-2147483648), 2147483647), .inl ((-2147483648), 2147483647)], some ((-2147483648), 2147483647), [(111, 111, 5, 20)], 50)
def tb_r_carveF : aTb := fun mi i => none
def kc_r_carveF : List (Nat × aK) := [(158, k_m_saysAt), (160, k_m_loses), (161, k_m_worth), (163, k_m_covers), (222, k_m_counts), (159, k_m_gains), (147, k_m_manyIn), (175, k_m_falseOf), (178, k_m_joinBy), (180, k_m_doClash), (182, k_m_laidOnes), (183, k_m_coveredBy), (184, k_m_findClashing), (185, k_m_areAtPeace), (188, k_m_otherwiseAt), (193, k_m_allTrust), (190, k_m_goesOn), (191, k_m_goesOnMany)]
set_option maxRecDepth 100000 in
set_option maxHeartbeats 40000000 in
theorem ck_r_carveF : kchk prog HT kc_r_carveF tb_r_carveF 57 171 k_r_carveF = true := by decide +kernel
theorem kg_r_carveF {E : pX} : KGi E pV1 JT 171 k_r_carveF := kgi_of JT_P (by decide) ck_r_carveF (by unfold kc_r_carveF; exact (List.forall_mem_cons.mpr ⟨kg_m_saysAt JT_P hands, (List.forall_mem_cons.mpr ⟨kg_m_loses JT_P hands, (List.forall_mem_cons.mpr ⟨kg_m_worth JT_P hands, (List.forall_mem_cons.mpr ⟨kg_m_covers JT_P hands, (List.forall_mem_cons.mpr ⟨kg_m_counts JT_P hands, (List.forall_mem_cons.mpr ⟨kg_m_gains hands, (List.forall_mem_cons.mpr ⟨kg_m_manyIn hands, (List.forall_mem_cons.mpr ⟨kg_m_falseOf JT_P hands, (List.forall_mem_cons.mpr ⟨kg_m_joinBy JT_P hands, (List.forall_mem_cons.mpr ⟨kg_m_doClash JT_P hands, (List.forall_mem_cons.mpr ⟨kg_m_laidOnes JT_P hands, (List.forall_mem_cons.mpr ⟨kg_m_coveredBy JT_P hands, (List.forall_mem_cons.mpr ⟨kg_m_findClashing JT_P hands, (List.forall_mem_cons.mpr ⟨kg_m_areAtPeace JT_P hands, (List.forall_mem_cons.mpr ⟨kg_m_otherwiseAt JT_P hands, (List.forall_mem_cons.mpr ⟨kg_m_allTrust JT_P hands, (List.forall_mem_cons.mpr ⟨kg_m_goesOn JT_P hands, (List.forall_mem_cons.mpr ⟨kg_m_goesOnMany JT_P hands, (fun _ h => absurd h List.not_mem_nil)⟩)⟩)⟩)⟩)⟩)⟩)⟩)⟩)⟩)⟩)⟩)⟩)⟩)⟩)⟩)⟩)⟩)⟩))
def k_c_seedF : aK := ([.inr (false, [0]), .inl ((-2147483648), 2147483647)], some ((-2147483648), 2147483647), [(34, 34, 9, 9)], 50)
def tb_c_seedF : aTb := fun mi i => none
def kc_c_seedF : List (Nat × aK) := [(48, k_covers), (50, k_sayAt), (44, k_value), (54, k_gainOver), (55, k_loss), (56, k_worth), (49, k_covered), (57, k_joined), (58, k_clashes), (70, k_falsehood34), (71, k_trustOfAll34), (72, k_laidSet34), (73, k_coveredBy34), (77, k_deniers34), (80, k_gainOf34), (78, k_flow34), (75, k_noteClashes), (76, k_anyClash)]
set_option maxRecDepth 100000 in
set_option maxHeartbeats 40000000 in
theorem ck_c_seedF : kchk prog HT kc_c_seedF tb_c_seedF 13 95 k_c_seedF = true := by decide +kernel
theorem kg_c_seedF {E : pX} : KGi E pV1 JT 95 k_c_seedF := kgi_of JT_P (by decide) ck_c_seedF (by unfold kc_c_seedF; exact (List.forall_mem_cons.mpr ⟨kg_covers JT_P hands, (List.forall_mem_cons.mpr ⟨kg_sayAt JT_P hands, (List.forall_mem_cons.mpr ⟨kg_value JT_P hands, (List.forall_mem_cons.mpr ⟨kg_gainOver JT_P hands, (List.forall_mem_cons.mpr ⟨kg_loss JT_P hands, (List.forall_mem_cons.mpr ⟨kg_worth JT_P hands, (List.forall_mem_cons.mpr ⟨kg_covered JT_P hands, (List.forall_mem_cons.mpr ⟨kg_joined JT_P hands, (List.forall_mem_cons.mpr ⟨kg_clashes JT_P hands, (List.forall_mem_cons.mpr ⟨kg_falsehood34 JT_P hands, (List.forall_mem_cons.mpr ⟨kg_trustOfAll34 JT_P hands, (List.forall_mem_cons.mpr ⟨kg_laidSet34 JT_P hands, (List.forall_mem_cons.mpr ⟨kg_coveredBy34 JT_P hands, (List.forall_mem_cons.mpr ⟨kg_deniers34 JT_P hands, (List.forall_mem_cons.mpr ⟨kg_gainOf34 JT_P hands, (List.forall_mem_cons.mpr ⟨kg_flow34 JT_P hands, (List.forall_mem_cons.mpr ⟨kg_noteClashes JT_P hands, (List.forall_mem_cons.mpr ⟨kg_anyClash JT_P hands, (fun _ h => absurd h List.not_mem_nil)⟩)⟩)⟩)⟩)⟩)⟩)⟩)⟩)⟩)⟩)⟩)⟩)⟩)⟩)⟩)⟩)⟩)⟩))
def k_r_seedF : aK := ([.inr (false, [110]), .inl ((-2147483648), 2147483647)], some ((-2147483648), 2147483647), [(111, 111, 4, 4)], 50)
def tb_r_seedF : aTb := fun mi i => none
def kc_r_seedF : List (Nat × aK) := [(158, k_m_saysAt), (160, k_m_loses), (161, k_m_worth), (163, k_m_covers), (222, k_m_counts), (159, k_m_gains), (147, k_m_manyIn), (175, k_m_falseOf), (178, k_m_joinBy), (180, k_m_doClash), (182, k_m_laidOnes), (183, k_m_coveredBy), (184, k_m_findClashing), (185, k_m_areAtPeace), (188, k_m_otherwiseAt), (193, k_m_allTrust), (190, k_m_goesOn), (191, k_m_goesOnMany)]
set_option maxRecDepth 100000 in
set_option maxHeartbeats 40000000 in
theorem ck_r_seedF : kchk prog HT kc_r_seedF tb_r_seedF 20 174 k_r_seedF = true := by decide +kernel
theorem kg_r_seedF {E : pX} : KGi E pV1 JT 174 k_r_seedF := kgi_of JT_P (by decide) ck_r_seedF (by unfold kc_r_seedF; exact (List.forall_mem_cons.mpr ⟨kg_m_saysAt JT_P hands, (List.forall_mem_cons.mpr ⟨kg_m_loses JT_P hands, (List.forall_mem_cons.mpr ⟨kg_m_worth JT_P hands, (List.forall_mem_cons.mpr ⟨kg_m_covers JT_P hands, (List.forall_mem_cons.mpr ⟨kg_m_counts JT_P hands, (List.forall_mem_cons.mpr ⟨kg_m_gains hands, (List.forall_mem_cons.mpr ⟨kg_m_manyIn hands, (List.forall_mem_cons.mpr ⟨kg_m_falseOf JT_P hands, (List.forall_mem_cons.mpr ⟨kg_m_joinBy JT_P hands, (List.forall_mem_cons.mpr ⟨kg_m_doClash JT_P hands, (List.forall_mem_cons.mpr ⟨kg_m_laidOnes JT_P hands, (List.forall_mem_cons.mpr ⟨kg_m_coveredBy JT_P hands, (List.forall_mem_cons.mpr ⟨kg_m_findClashing JT_P hands, (List.forall_mem_cons.mpr ⟨kg_m_areAtPeace JT_P hands, (List.forall_mem_cons.mpr ⟨kg_m_otherwiseAt JT_P hands, (List.forall_mem_cons.mpr ⟨kg_m_allTrust JT_P hands, (List.forall_mem_cons.mpr ⟨kg_m_goesOn JT_P hands, (List.forall_mem_cons.mpr ⟨kg_m_goesOnMany JT_P hands, (fun _ h => absurd h List.not_mem_nil)⟩)⟩)⟩)⟩)⟩)⟩)⟩)⟩)⟩)⟩)⟩)⟩)⟩)⟩)⟩)⟩)⟩)⟩))
def k_c_turnsF : aK := ([.inr (false, [0]), .inl ((-2147483648), 2147483647), .inl ((-2147483648), 2147483647)], some ((-2147483648), 2147483647), [(39, 47, 0, 0)], 50)
def tb_c_turnsF : aTb := fun mi i => none
def kc_c_turnsF : List (Nat × aK) := [(48, k_covers), (50, k_sayAt), (44, k_value), (54, k_gainOver), (55, k_loss), (56, k_worth), (49, k_covered), (57, k_joined), (58, k_clashes), (70, k_falsehood34), (71, k_trustOfAll34), (72, k_laidSet34), (73, k_coveredBy34), (77, k_deniers34), (80, k_gainOf34), (78, k_flow34), (75, k_noteClashes), (76, k_anyClash)]
set_option maxRecDepth 100000 in
set_option maxHeartbeats 40000000 in
theorem ck_c_turnsF : kchk prog HT kc_c_turnsF tb_c_turnsF 52 90 k_c_turnsF = true := by decide +kernel
theorem kg_c_turnsF {E : pX} : KGi E pV1 JT 90 k_c_turnsF := kgi_of JT_P (by decide) ck_c_turnsF (by unfold kc_c_turnsF; exact (List.forall_mem_cons.mpr ⟨kg_covers JT_P hands, (List.forall_mem_cons.mpr ⟨kg_sayAt JT_P hands, (List.forall_mem_cons.mpr ⟨kg_value JT_P hands, (List.forall_mem_cons.mpr ⟨kg_gainOver JT_P hands, (List.forall_mem_cons.mpr ⟨kg_loss JT_P hands, (List.forall_mem_cons.mpr ⟨kg_worth JT_P hands, (List.forall_mem_cons.mpr ⟨kg_covered JT_P hands, (List.forall_mem_cons.mpr ⟨kg_joined JT_P hands, (List.forall_mem_cons.mpr ⟨kg_clashes JT_P hands, (List.forall_mem_cons.mpr ⟨kg_falsehood34 JT_P hands, (List.forall_mem_cons.mpr ⟨kg_trustOfAll34 JT_P hands, (List.forall_mem_cons.mpr ⟨kg_laidSet34 JT_P hands, (List.forall_mem_cons.mpr ⟨kg_coveredBy34 JT_P hands, (List.forall_mem_cons.mpr ⟨kg_deniers34 JT_P hands, (List.forall_mem_cons.mpr ⟨kg_gainOf34 JT_P hands, (List.forall_mem_cons.mpr ⟨kg_flow34 JT_P hands, (List.forall_mem_cons.mpr ⟨kg_noteClashes JT_P hands, (List.forall_mem_cons.mpr ⟨kg_anyClash JT_P hands, (fun _ h => absurd h List.not_mem_nil)⟩)⟩)⟩)⟩)⟩)⟩)⟩)⟩)⟩)⟩)⟩)⟩)⟩)⟩)⟩)⟩)⟩)⟩))
def k_r_turnsF : aK := ([.inr (false, [110]), .inl ((-2147483648), 2147483647), .inl ((-2147483648), 2147483647)], some ((-2147483648), 2147483647), [(111, 111, 21, 74)], 50)
def tb_r_turnsF : aTb := fun mi i => none
def kc_r_turnsF : List (Nat × aK) := [(158, k_m_saysAt), (160, k_m_loses), (161, k_m_worth), (163, k_m_covers), (222, k_m_counts), (159, k_m_gains), (147, k_m_manyIn), (175, k_m_falseOf), (178, k_m_joinBy), (180, k_m_doClash), (182, k_m_laidOnes), (183, k_m_coveredBy), (184, k_m_findClashing), (185, k_m_areAtPeace), (188, k_m_otherwiseAt), (193, k_m_allTrust), (190, k_m_goesOn), (191, k_m_goesOnMany)]
set_option maxRecDepth 100000 in
set_option maxHeartbeats 40000000 in
theorem ck_r_turnsF : kchk prog HT kc_r_turnsF tb_r_turnsF 69 168 k_r_turnsF = true := by decide +kernel
theorem kg_r_turnsF {E : pX} : KGi E pV1 JT 168 k_r_turnsF := kgi_of JT_P (by decide) ck_r_turnsF (by unfold kc_r_turnsF; exact (List.forall_mem_cons.mpr ⟨kg_m_saysAt JT_P hands, (List.forall_mem_cons.mpr ⟨kg_m_loses JT_P hands, (List.forall_mem_cons.mpr ⟨kg_m_worth JT_P hands, (List.forall_mem_cons.mpr ⟨kg_m_covers JT_P hands, (List.forall_mem_cons.mpr ⟨kg_m_counts JT_P hands, (List.forall_mem_cons.mpr ⟨kg_m_gains hands, (List.forall_mem_cons.mpr ⟨kg_m_manyIn hands, (List.forall_mem_cons.mpr ⟨kg_m_falseOf JT_P hands, (List.forall_mem_cons.mpr ⟨kg_m_joinBy JT_P hands, (List.forall_mem_cons.mpr ⟨kg_m_doClash JT_P hands, (List.forall_mem_cons.mpr ⟨kg_m_laidOnes JT_P hands, (List.forall_mem_cons.mpr ⟨kg_m_coveredBy JT_P hands, (List.forall_mem_cons.mpr ⟨kg_m_findClashing JT_P hands, (List.forall_mem_cons.mpr ⟨kg_m_areAtPeace JT_P hands, (List.forall_mem_cons.mpr ⟨kg_m_otherwiseAt JT_P hands, (List.forall_mem_cons.mpr ⟨kg_m_allTrust JT_P hands, (List.forall_mem_cons.mpr ⟨kg_m_goesOn JT_P hands, (List.forall_mem_cons.mpr ⟨kg_m_goesOnMany JT_P hands, (fun _ h => absurd h List.not_mem_nil)⟩)⟩)⟩)⟩)⟩)⟩)⟩)⟩)⟩)⟩)⟩)⟩)⟩)⟩)⟩)⟩)⟩)⟩))
def k_c_setF : aK := ([.inr (false, [0]), .inl ((-2147483648), 2147483647), .inl ((-2147483648), 2147483647), .inl ((-2147483648), 2147483647)], some ((-2147483648), 2147483647), [(39, 47, 1, 5)], 50)
def tb_c_setF : aTb := fun mi i => none
def kc_c_setF : List (Nat × aK) := [(48, k_covers), (50, k_sayAt), (44, k_value), (54, k_gainOver), (55, k_loss), (56, k_worth), (49, k_covered), (57, k_joined), (58, k_clashes), (70, k_falsehood34), (71, k_trustOfAll34), (72, k_laidSet34), (73, k_coveredBy34), (77, k_deniers34), (80, k_gainOf34), (78, k_flow34), (75, k_noteClashes), (76, k_anyClash)]
set_option maxRecDepth 100000 in
set_option maxHeartbeats 40000000 in
theorem ck_c_setF : kchk prog HT kc_c_setF tb_c_setF 87 91 k_c_setF = true := by decide +kernel
theorem kg_c_setF {E : pX} : KGi E pV1 JT 91 k_c_setF := kgi_of JT_P (by decide) ck_c_setF (by unfold kc_c_setF; exact (List.forall_mem_cons.mpr ⟨kg_covers JT_P hands, (List.forall_mem_cons.mpr ⟨kg_sayAt JT_P hands, (List.forall_mem_cons.mpr ⟨kg_value JT_P hands, (List.forall_mem_cons.mpr ⟨kg_gainOver JT_P hands, (List.forall_mem_cons.mpr ⟨kg_loss JT_P hands, (List.forall_mem_cons.mpr ⟨kg_worth JT_P hands, (List.forall_mem_cons.mpr ⟨kg_covered JT_P hands, (List.forall_mem_cons.mpr ⟨kg_joined JT_P hands, (List.forall_mem_cons.mpr ⟨kg_clashes JT_P hands, (List.forall_mem_cons.mpr ⟨kg_falsehood34 JT_P hands, (List.forall_mem_cons.mpr ⟨kg_trustOfAll34 JT_P hands, (List.forall_mem_cons.mpr ⟨kg_laidSet34 JT_P hands, (List.forall_mem_cons.mpr ⟨kg_coveredBy34 JT_P hands, (List.forall_mem_cons.mpr ⟨kg_deniers34 JT_P hands, (List.forall_mem_cons.mpr ⟨kg_gainOf34 JT_P hands, (List.forall_mem_cons.mpr ⟨kg_flow34 JT_P hands, (List.forall_mem_cons.mpr ⟨kg_noteClashes JT_P hands, (List.forall_mem_cons.mpr ⟨kg_anyClash JT_P hands, (fun _ h => absurd h List.not_mem_nil)⟩)⟩)⟩)⟩)⟩)⟩)⟩)⟩)⟩)⟩)⟩)⟩)⟩)⟩)⟩)⟩)⟩)⟩))
def k_r_setF : aK := ([.inr (false, [110]), .inl ((-2147483648), 2147483647), .inl ((-2147483648), 2147483647), .inl ((-2147483648), 2147483647)], some ((-2147483648), 2147483647), [(111, 111, 21, 74)], 50)
def tb_r_setF : aTb := fun mi i => none
def kc_r_setF : List (Nat × aK) := [(158, k_m_saysAt), (160, k_m_loses), (161, k_m_worth), (163, k_m_covers), (222, k_m_counts), (159, k_m_gains), (147, k_m_manyIn), (175, k_m_falseOf), (178, k_m_joinBy), (180, k_m_doClash), (182, k_m_laidOnes), (183, k_m_coveredBy), (184, k_m_findClashing), (185, k_m_areAtPeace), (188, k_m_otherwiseAt), (193, k_m_allTrust), (190, k_m_goesOn), (191, k_m_goesOnMany)]
set_option maxRecDepth 100000 in
set_option maxHeartbeats 40000000 in
theorem ck_r_setF : kchk prog HT kc_r_setF tb_r_setF 97 170 k_r_setF = true := by decide +kernel
theorem kg_r_setF {E : pX} : KGi E pV1 JT 170 k_r_setF := kgi_of JT_P (by decide) ck_r_setF (by unfold kc_r_setF; exact (List.forall_mem_cons.mpr ⟨kg_m_saysAt JT_P hands, (List.forall_mem_cons.mpr ⟨kg_m_loses JT_P hands, (List.forall_mem_cons.mpr ⟨kg_m_worth JT_P hands, (List.forall_mem_cons.mpr ⟨kg_m_covers JT_P hands, (List.forall_mem_cons.mpr ⟨kg_m_counts JT_P hands, (List.forall_mem_cons.mpr ⟨kg_m_gains hands, (List.forall_mem_cons.mpr ⟨kg_m_manyIn hands, (List.forall_mem_cons.mpr ⟨kg_m_falseOf JT_P hands, (List.forall_mem_cons.mpr ⟨kg_m_joinBy JT_P hands, (List.forall_mem_cons.mpr ⟨kg_m_doClash JT_P hands, (List.forall_mem_cons.mpr ⟨kg_m_laidOnes JT_P hands, (List.forall_mem_cons.mpr ⟨kg_m_coveredBy JT_P hands, (List.forall_mem_cons.mpr ⟨kg_m_findClashing JT_P hands, (List.forall_mem_cons.mpr ⟨kg_m_areAtPeace JT_P hands, (List.forall_mem_cons.mpr ⟨kg_m_otherwiseAt JT_P hands, (List.forall_mem_cons.mpr ⟨kg_m_allTrust JT_P hands, (List.forall_mem_cons.mpr ⟨kg_m_goesOn JT_P hands, (List.forall_mem_cons.mpr ⟨kg_m_goesOnMany JT_P hands, (fun _ h => absurd h List.not_mem_nil)⟩)⟩)⟩)⟩)⟩)⟩)⟩)⟩)⟩)⟩)⟩)⟩)⟩)⟩)⟩)⟩)⟩)⟩))
def k_c_pourF : aK := ([.inr (false, [0]), .inl ((-2147483648), 2147483647)], some ((-2147483648), 2147483647), [(35, 35, 0, 15)], 50)
def tb_c_pourF : aTb := fun mi i => if mi = 119 ∧ i = 17 then some ([((-2147483648), 2147483647, .inl 3), (0, 2147483647, .inl 4)], [], [5, 6], [(35, 35, 0, 15)], 1, true) else none
def kc_c_pourF : List (Nat × aK) := [(48, k_covers), (50, k_sayAt), (44, k_value), (54, k_gainOver), (55, k_loss), (56, k_worth), (49, k_covered), (57, k_joined), (58, k_clashes), (70, k_falsehood34), (71, k_trustOfAll34), (72, k_laidSet34), (73, k_coveredBy34), (77, k_deniers34), (80, k_gainOf34), (78, k_flow34), (75, k_noteClashes), (76, k_anyClash)]
set_option maxRecDepth 100000 in
set_option maxHeartbeats 40000000 in
theorem ck_c_pourF : kchk prog HT kc_c_pourF tb_c_pourF 122 119 k_c_pourF = true := by decide +kernel
theorem kg_c_pourF {E : pX} : KGi E pV1 JT 119 k_c_pourF := kgi_of JT_P (by decide) ck_c_pourF (by unfold kc_c_pourF; exact (List.forall_mem_cons.mpr ⟨kg_covers JT_P hands, (List.forall_mem_cons.mpr ⟨kg_sayAt JT_P hands, (List.forall_mem_cons.mpr ⟨kg_value JT_P hands, (List.forall_mem_cons.mpr ⟨kg_gainOver JT_P hands, (List.forall_mem_cons.mpr ⟨kg_loss JT_P hands, (List.forall_mem_cons.mpr ⟨kg_worth JT_P hands, (List.forall_mem_cons.mpr ⟨kg_covered JT_P hands, (List.forall_mem_cons.mpr ⟨kg_joined JT_P hands, (List.forall_mem_cons.mpr ⟨kg_clashes JT_P hands, (List.forall_mem_cons.mpr ⟨kg_falsehood34 JT_P hands, (List.forall_mem_cons.mpr ⟨kg_trustOfAll34 JT_P hands, (List.forall_mem_cons.mpr ⟨kg_laidSet34 JT_P hands, (List.forall_mem_cons.mpr ⟨kg_coveredBy34 JT_P hands, (List.forall_mem_cons.mpr ⟨kg_deniers34 JT_P hands, (List.forall_mem_cons.mpr ⟨kg_gainOf34 JT_P hands, (List.forall_mem_cons.mpr ⟨kg_flow34 JT_P hands, (List.forall_mem_cons.mpr ⟨kg_noteClashes JT_P hands, (List.forall_mem_cons.mpr ⟨kg_anyClash JT_P hands, (fun _ h => absurd h List.not_mem_nil)⟩)⟩)⟩)⟩)⟩)⟩)⟩)⟩)⟩)⟩)⟩)⟩)⟩)⟩)⟩)⟩)⟩)⟩))
def k_r_pourF : aK := ([.inr (false, [110]), .inl ((-2147483648), 2147483647)], some ((-2147483648), 2147483647), [(111, 111, 5, 20)], 50)
def tb_r_pourF : aTb := fun mi i => if mi = 229 ∧ i = 16 then some ([((-2147483648), 2147483647, .inl 2), (0, 2147483647, .inl 3)], [], [4, 5], [(111, 111, 5, 20)], 1, true) else none
def kc_r_pourF : List (Nat × aK) := [(158, k_m_saysAt), (160, k_m_loses), (161, k_m_worth), (163, k_m_covers), (222, k_m_counts), (159, k_m_gains), (147, k_m_manyIn), (175, k_m_falseOf), (178, k_m_joinBy), (180, k_m_doClash), (182, k_m_laidOnes), (183, k_m_coveredBy), (184, k_m_findClashing), (185, k_m_areAtPeace), (188, k_m_otherwiseAt), (193, k_m_allTrust), (190, k_m_goesOn), (191, k_m_goesOnMany)]
set_option maxRecDepth 100000 in
set_option maxHeartbeats 40000000 in
theorem ck_r_pourF : kchk prog HT kc_r_pourF tb_r_pourF 94 229 k_r_pourF = true := by decide +kernel
theorem kg_r_pourF {E : pX} : KGi E pV1 JT 229 k_r_pourF := kgi_of JT_P (by decide) ck_r_pourF (by unfold kc_r_pourF; exact (List.forall_mem_cons.mpr ⟨kg_m_saysAt JT_P hands, (List.forall_mem_cons.mpr ⟨kg_m_loses JT_P hands, (List.forall_mem_cons.mpr ⟨kg_m_worth JT_P hands, (List.forall_mem_cons.mpr ⟨kg_m_covers JT_P hands, (List.forall_mem_cons.mpr ⟨kg_m_counts JT_P hands, (List.forall_mem_cons.mpr ⟨kg_m_gains hands, (List.forall_mem_cons.mpr ⟨kg_m_manyIn hands, (List.forall_mem_cons.mpr ⟨kg_m_falseOf JT_P hands, (List.forall_mem_cons.mpr ⟨kg_m_joinBy JT_P hands, (List.forall_mem_cons.mpr ⟨kg_m_doClash JT_P hands, (List.forall_mem_cons.mpr ⟨kg_m_laidOnes JT_P hands, (List.forall_mem_cons.mpr ⟨kg_m_coveredBy JT_P hands, (List.forall_mem_cons.mpr ⟨kg_m_findClashing JT_P hands, (List.forall_mem_cons.mpr ⟨kg_m_areAtPeace JT_P hands, (List.forall_mem_cons.mpr ⟨kg_m_otherwiseAt JT_P hands, (List.forall_mem_cons.mpr ⟨kg_m_allTrust JT_P hands, (List.forall_mem_cons.mpr ⟨kg_m_goesOn JT_P hands, (List.forall_mem_cons.mpr ⟨kg_m_goesOnMany JT_P hands, (fun _ h => absurd h List.not_mem_nil)⟩)⟩)⟩)⟩)⟩)⟩)⟩)⟩)⟩)⟩)⟩)⟩)⟩)⟩)⟩)⟩)⟩)⟩))
def k_c_tidesF : aK := ([.inr (false, [0]), .inl ((-2147483648), 2147483647)], some ((-2147483648), 2147483647), [(5, 5, 0, 95), (1, 1, 3, 3), (34, 34, 7, 9), (39, 47, 0, 5)], 50)
def tb_c_tidesF : aTb := fun mi i => none
def kc_c_tidesF : List (Nat × aK) := [(48, k_covers), (50, k_sayAt), (44, k_value), (54, k_gainOver), (55, k_loss), (56, k_worth), (49, k_covered), (57, k_joined), (58, k_clashes), (70, k_falsehood34), (71, k_trustOfAll34), (72, k_laidSet34), (73, k_coveredBy34), (77, k_deniers34), (80, k_gainOf34), (78, k_flow34), (75, k_noteClashes), (76, k_anyClash)]
set_option maxRecDepth 100000 in
set_option maxHeartbeats 40000000 in
theorem ck_c_tidesF : kchk prog HT kc_c_tidesF tb_c_tidesF 37 103 k_c_tidesF = true := by decide +kernel
theorem kg_c_tidesF {E : pX} : KGi E pV1 JT 103 k_c_tidesF := kgi_of JT_P (by decide) ck_c_tidesF (by unfold kc_c_tidesF; exact (List.forall_mem_cons.mpr ⟨kg_covers JT_P hands, (List.forall_mem_cons.mpr ⟨kg_sayAt JT_P hands, (List.forall_mem_cons.mpr ⟨kg_value JT_P hands, (List.forall_mem_cons.mpr ⟨kg_gainOver JT_P hands, (List.forall_mem_cons.mpr ⟨kg_loss JT_P hands, (List.forall_mem_cons.mpr ⟨kg_worth JT_P hands, (List.forall_mem_cons.mpr ⟨kg_covered JT_P hands, (List.forall_mem_cons.mpr ⟨kg_joined JT_P hands, (List.forall_mem_cons.mpr ⟨kg_clashes JT_P hands, (List.forall_mem_cons.mpr ⟨kg_falsehood34 JT_P hands, (List.forall_mem_cons.mpr ⟨kg_trustOfAll34 JT_P hands, (List.forall_mem_cons.mpr ⟨kg_laidSet34 JT_P hands, (List.forall_mem_cons.mpr ⟨kg_coveredBy34 JT_P hands, (List.forall_mem_cons.mpr ⟨kg_deniers34 JT_P hands, (List.forall_mem_cons.mpr ⟨kg_gainOf34 JT_P hands, (List.forall_mem_cons.mpr ⟨kg_flow34 JT_P hands, (List.forall_mem_cons.mpr ⟨kg_noteClashes JT_P hands, (List.forall_mem_cons.mpr ⟨kg_anyClash JT_P hands, (fun _ h => absurd h List.not_mem_nil)⟩)⟩)⟩)⟩)⟩)⟩)⟩)⟩)⟩)⟩)⟩)⟩)⟩)⟩)⟩)⟩)⟩)⟩))
def k_m_goesOnF : aK := ([.inr (false, [110])], none, [(125, 125, 0, 127), (126, 126, 0, 99), (111, 111, 2, 4), (111, 111, 21, 74)], 24)
def tb_m_goesOnF : aTb := fun mi i => if mi = 190 ∧ i = 7 then some ([(0, 2147483647, .inl 2)], [], [3, 4], [(125, 125, 0, 127), (126, 126, 0, 99), (111, 111, 2, 4), (111, 111, 21, 74)], 0, true) else none
def kc_m_goesOnF : List (Nat × aK) := [(158, k_m_saysAt), (160, k_m_loses), (161, k_m_worth), (163, k_m_covers), (222, k_m_counts), (159, k_m_gains), (147, k_m_manyIn), (175, k_m_falseOf), (178, k_m_joinBy), (180, k_m_doClash), (182, k_m_laidOnes), (183, k_m_coveredBy)]
set_option maxRecDepth 100000 in
set_option maxHeartbeats 40000000 in
theorem ck_m_goesOnF : kchk prog HT kc_m_goesOnF tb_m_goesOnF 155 190 k_m_goesOnF = true := by decide +kernel
theorem kg_m_goesOnF {E : pX} : KGi E pV1 JT 190 k_m_goesOnF := kgi_of JT_P (by decide) ck_m_goesOnF (by unfold kc_m_goesOnF; exact (List.forall_mem_cons.mpr ⟨kg_m_saysAt JT_P hands, (List.forall_mem_cons.mpr ⟨kg_m_loses JT_P hands, (List.forall_mem_cons.mpr ⟨kg_m_worth JT_P hands, (List.forall_mem_cons.mpr ⟨kg_m_covers JT_P hands, (List.forall_mem_cons.mpr ⟨kg_m_counts JT_P hands, (List.forall_mem_cons.mpr ⟨kg_m_gains hands, (List.forall_mem_cons.mpr ⟨kg_m_manyIn hands, (List.forall_mem_cons.mpr ⟨kg_m_falseOf JT_P hands, (List.forall_mem_cons.mpr ⟨kg_m_joinBy JT_P hands, (List.forall_mem_cons.mpr ⟨kg_m_doClash JT_P hands, (List.forall_mem_cons.mpr ⟨kg_m_laidOnes JT_P hands, (List.forall_mem_cons.mpr ⟨kg_m_coveredBy JT_P hands, (fun _ h => absurd h List.not_mem_nil)⟩)⟩)⟩)⟩)⟩)⟩)⟩)⟩)⟩)⟩)⟩)⟩))
def k_r_tidesF : aK := ([.inr (false, [110]), .inl ((-2147483648), 2147483647)], some ((-2147483648), 2147483647), [(125, 125, 0, 127), (126, 126, 0, 99), (111, 111, 2, 4), (111, 111, 21, 74)], 50)
def tb_r_tidesF : aTb := fun mi i => if mi = 192 ∧ i = 15 then some ([(0, 2147483647, .inl 3)], [], [], [(125, 125, 0, 127), (126, 126, 0, 99), (111, 111, 2, 4), (111, 111, 21, 74)], 0, true) else none
def kc_r_tidesF : List (Nat × aK) := [(158, k_m_saysAt), (160, k_m_loses), (161, k_m_worth), (163, k_m_covers), (222, k_m_counts), (159, k_m_gains), (147, k_m_manyIn), (175, k_m_falseOf), (178, k_m_joinBy), (180, k_m_doClash), (182, k_m_laidOnes), (183, k_m_coveredBy), (184, k_m_findClashing), (185, k_m_areAtPeace), (188, k_m_otherwiseAt), (193, k_m_allTrust), (190, k_m_goesOnF)]
set_option maxRecDepth 100000 in
set_option maxHeartbeats 40000000 in
theorem ck_r_tidesF : kchk prog HT kc_r_tidesF tb_r_tidesF 44 192 k_r_tidesF = true := by decide +kernel
theorem kg_r_tidesF {E : pX} : KGi E pV1 JT 192 k_r_tidesF := kgi_of JT_P (by decide) ck_r_tidesF (by unfold kc_r_tidesF; exact (List.forall_mem_cons.mpr ⟨kg_m_saysAt JT_P hands, (List.forall_mem_cons.mpr ⟨kg_m_loses JT_P hands, (List.forall_mem_cons.mpr ⟨kg_m_worth JT_P hands, (List.forall_mem_cons.mpr ⟨kg_m_covers JT_P hands, (List.forall_mem_cons.mpr ⟨kg_m_counts JT_P hands, (List.forall_mem_cons.mpr ⟨kg_m_gains hands, (List.forall_mem_cons.mpr ⟨kg_m_manyIn hands, (List.forall_mem_cons.mpr ⟨kg_m_falseOf JT_P hands, (List.forall_mem_cons.mpr ⟨kg_m_joinBy JT_P hands, (List.forall_mem_cons.mpr ⟨kg_m_doClash JT_P hands, (List.forall_mem_cons.mpr ⟨kg_m_laidOnes JT_P hands, (List.forall_mem_cons.mpr ⟨kg_m_coveredBy JT_P hands, (List.forall_mem_cons.mpr ⟨kg_m_findClashing JT_P hands, (List.forall_mem_cons.mpr ⟨kg_m_areAtPeace JT_P hands, (List.forall_mem_cons.mpr ⟨kg_m_otherwiseAt JT_P hands, (List.forall_mem_cons.mpr ⟨kg_m_allTrust JT_P hands, (List.forall_mem_cons.mpr ⟨kg_m_goesOnF, (fun _ h => absurd h List.not_mem_nil)⟩)⟩)⟩)⟩)⟩)⟩)⟩)⟩)⟩)⟩)⟩)⟩)⟩)⟩)⟩)⟩)⟩))
def k_c_markF : aK := ([.inr (false, [0]), .inl ((-2147483648), 2147483647), .inl ((-2147483648), 2147483647), .inl ((-2147483648), 2147483647)], some ((-2147483648), 2147483647), [(83, 83, 0, 23), (85, 85, 0, 23), (87, 87, 0, 23), (89, 89, 0, 23)], 50)
def tb_c_markF : aTb := fun mi i => none
def kc_c_markF : List (Nat × aK) := [(48, k_covers), (50, k_sayAt), (44, k_value), (54, k_gainOver), (55, k_loss), (56, k_worth), (49, k_covered), (57, k_joined), (58, k_clashes), (70, k_falsehood34), (71, k_trustOfAll34), (72, k_laidSet34), (73, k_coveredBy34), (77, k_deniers34), (80, k_gainOf34), (78, k_flow34), (75, k_noteClashes), (76, k_anyClash)]
set_option maxRecDepth 100000 in
set_option maxHeartbeats 40000000 in
theorem ck_c_markF : kchk prog HT kc_c_markF tb_c_markF 94 118 k_c_markF = true := by decide +kernel
theorem kg_c_markF {E : pX} : KGi E pV1 JT 118 k_c_markF := kgi_of JT_P (by decide) ck_c_markF (by unfold kc_c_markF; exact (List.forall_mem_cons.mpr ⟨kg_covers JT_P hands, (List.forall_mem_cons.mpr ⟨kg_sayAt JT_P hands, (List.forall_mem_cons.mpr ⟨kg_value JT_P hands, (List.forall_mem_cons.mpr ⟨kg_gainOver JT_P hands, (List.forall_mem_cons.mpr ⟨kg_loss JT_P hands, (List.forall_mem_cons.mpr ⟨kg_worth JT_P hands, (List.forall_mem_cons.mpr ⟨kg_covered JT_P hands, (List.forall_mem_cons.mpr ⟨kg_joined JT_P hands, (List.forall_mem_cons.mpr ⟨kg_clashes JT_P hands, (List.forall_mem_cons.mpr ⟨kg_falsehood34 JT_P hands, (List.forall_mem_cons.mpr ⟨kg_trustOfAll34 JT_P hands, (List.forall_mem_cons.mpr ⟨kg_laidSet34 JT_P hands, (List.forall_mem_cons.mpr ⟨kg_coveredBy34 JT_P hands, (List.forall_mem_cons.mpr ⟨kg_deniers34 JT_P hands, (List.forall_mem_cons.mpr ⟨kg_gainOf34 JT_P hands, (List.forall_mem_cons.mpr ⟨kg_flow34 JT_P hands, (List.forall_mem_cons.mpr ⟨kg_noteClashes JT_P hands, (List.forall_mem_cons.mpr ⟨kg_anyClash JT_P hands, (fun _ h => absurd h List.not_mem_nil)⟩)⟩)⟩)⟩)⟩)⟩)⟩)⟩)⟩)⟩)⟩)⟩)⟩)⟩)⟩)⟩)⟩)⟩))
def k_r_markF : aK := ([.inr (false, [110]), .inl ((-2147483648), 2147483647), .inl ((-2147483648), 2147483647), .inl ((-2147483648), 2147483647)], some ((-2147483648), 2147483647), [(116, 116, 0, 95)], 50)
def tb_r_markF : aTb := fun mi i => none
def kc_r_markF : List (Nat × aK) := [(158, k_m_saysAt), (160, k_m_loses), (161, k_m_worth), (163, k_m_covers), (222, k_m_counts), (159, k_m_gains), (147, k_m_manyIn), (175, k_m_falseOf), (178, k_m_joinBy), (180, k_m_doClash), (182, k_m_laidOnes), (183, k_m_coveredBy), (184, k_m_findClashing), (185, k_m_areAtPeace), (188, k_m_otherwiseAt), (193, k_m_allTrust), (190, k_m_goesOn), (191, k_m_goesOnMany)]
set_option maxRecDepth 100000 in
set_option maxHeartbeats 40000000 in
theorem ck_r_markF : kchk prog HT kc_r_markF tb_r_markF 98 228 k_r_markF = true := by decide +kernel
theorem kg_r_markF {E : pX} : KGi E pV1 JT 228 k_r_markF := kgi_of JT_P (by decide) ck_r_markF (by unfold kc_r_markF; exact (List.forall_mem_cons.mpr ⟨kg_m_saysAt JT_P hands, (List.forall_mem_cons.mpr ⟨kg_m_loses JT_P hands, (List.forall_mem_cons.mpr ⟨kg_m_worth JT_P hands, (List.forall_mem_cons.mpr ⟨kg_m_covers JT_P hands, (List.forall_mem_cons.mpr ⟨kg_m_counts JT_P hands, (List.forall_mem_cons.mpr ⟨kg_m_gains hands, (List.forall_mem_cons.mpr ⟨kg_m_manyIn hands, (List.forall_mem_cons.mpr ⟨kg_m_falseOf JT_P hands, (List.forall_mem_cons.mpr ⟨kg_m_joinBy JT_P hands, (List.forall_mem_cons.mpr ⟨kg_m_doClash JT_P hands, (List.forall_mem_cons.mpr ⟨kg_m_laidOnes JT_P hands, (List.forall_mem_cons.mpr ⟨kg_m_coveredBy JT_P hands, (List.forall_mem_cons.mpr ⟨kg_m_findClashing JT_P hands, (List.forall_mem_cons.mpr ⟨kg_m_areAtPeace JT_P hands, (List.forall_mem_cons.mpr ⟨kg_m_otherwiseAt JT_P hands, (List.forall_mem_cons.mpr ⟨kg_m_allTrust JT_P hands, (List.forall_mem_cons.mpr ⟨kg_m_goesOn JT_P hands, (List.forall_mem_cons.mpr ⟨kg_m_goesOnMany JT_P hands, (fun _ h => absurd h List.not_mem_nil)⟩)⟩)⟩)⟩)⟩)⟩)⟩)⟩)⟩)⟩)⟩)⟩)⟩)⟩)⟩)⟩)⟩)⟩))
def k_c_copyF : aK := ([.inr (false, [0]), .inl ((-2147483648), 2147483647), .inl ((-2147483648), 2147483647), .inl ((-2147483648), 2147483647), .inl ((-2147483648), 2147483647), .inl ((-2147483648), 2147483647)], some ((-2147483648), 2147483647), [(83, 83, 0, 23), (85, 85, 0, 23), (87, 87, 0, 23), (89, 89, 0, 23)], 50)
def tb_c_copyF : aTb := fun mi i => none
def kc_c_copyF : List (Nat × aK) := [(48, k_covers), (50, k_sayAt), (44, k_value), (54, k_gainOver), (55, k_loss), (56, k_worth), (49, k_covered), (57, k_joined), (58, k_clashes), (70, k_falsehood34), (71, k_trustOfAll34), (72, k_laidSet34), (73, k_coveredBy34), (77, k_deniers34), (80, k_gainOf34), (78, k_flow34), (75, k_noteClashes), (76, k_anyClash)]
set_option maxRecDepth 100000 in
set_option maxHeartbeats 40000000 in
theorem ck_c_copyF : kchk prog HT kc_c_copyF tb_c_copyF 130 121 k_c_copyF = true := by decide +kernel
theorem kg_c_copyF {E : pX} : KGi E pV1 JT 121 k_c_copyF := kgi_of JT_P (by decide) ck_c_copyF (by unfold kc_c_copyF; exact (List.forall_mem_cons.mpr ⟨kg_covers JT_P hands, (List.forall_mem_cons.mpr ⟨kg_sayAt JT_P hands, (List.forall_mem_cons.mpr ⟨kg_value JT_P hands, (List.forall_mem_cons.mpr ⟨kg_gainOver JT_P hands, (List.forall_mem_cons.mpr ⟨kg_loss JT_P hands, (List.forall_mem_cons.mpr ⟨kg_worth JT_P hands, (List.forall_mem_cons.mpr ⟨kg_covered JT_P hands, (List.forall_mem_cons.mpr ⟨kg_joined JT_P hands, (List.forall_mem_cons.mpr ⟨kg_clashes JT_P hands, (List.forall_mem_cons.mpr ⟨kg_falsehood34 JT_P hands, (List.forall_mem_cons.mpr ⟨kg_trustOfAll34 JT_P hands, (List.forall_mem_cons.mpr ⟨kg_laidSet34 JT_P hands, (List.forall_mem_cons.mpr ⟨kg_coveredBy34 JT_P hands, (List.forall_mem_cons.mpr ⟨kg_deniers34 JT_P hands, (List.forall_mem_cons.mpr ⟨kg_gainOf34 JT_P hands, (List.forall_mem_cons.mpr ⟨kg_flow34 JT_P hands, (List.forall_mem_cons.mpr ⟨kg_noteClashes JT_P hands, (List.forall_mem_cons.mpr ⟨kg_anyClash JT_P hands, (fun _ h => absurd h List.not_mem_nil)⟩)⟩)⟩)⟩)⟩)⟩)⟩)⟩)⟩)⟩)⟩)⟩)⟩)⟩)⟩)⟩)⟩)⟩))
def tp_rubbing : aTb := fun mi i => none
def rp_rubbing : List pq := [((8, 34, 5), (0, 111, 0), 0, 9)]
set_option maxRecDepth 100000 in
set_option maxHeartbeats 40000000 in
theorem cp_rubbing : prchk RL CL rp_rubbing [(34, 34, 5, 5), (39, 47, 0, 5), (111, 111, 0, 0), (111, 111, 21, 74)] [] tp_rubbing 324 86 156 3 [((-2147483648), 2147483647), ((-2147483648), 2147483647), ((-2147483648), 2147483647)] [] = true := by decide +kernel
def tp_deall : aTb := fun mi i => none
def rp_deall : List pq := []
set_option maxRecDepth 100000 in
set_option maxHeartbeats 40000000 in
theorem cp_deall : prchk RL CL rp_deall [] [] tp_deall 39 94 173 1 [((-2147483648), 0)] [] = true := by decide +kernel
def tp_dealh : aTb := fun mi i => none
def rp_dealh : List pq := []
set_option maxRecDepth 100000 in
set_option maxHeartbeats 40000000 in
theorem cp_dealh : prchk RL CL rp_dealh [] [] tp_dealh 46 94 173 1 [(10, 2147483647)] [] = true := by decide +kernel
def tp_sheet0_0 : aTb := fun mi i => if mi = 227 ∧ i = 38 then some ([(0, 2147483647, .inl 4)], [], [], [(116, 116, 0, 95)], 0, true) else none
def rp_sheet0_0 : List pq := [((5, 82, 1), (0, 114, 0), (-1), 1), ((5, 82, 2), (0, 115, 0), 0, 24)]
set_option maxRecDepth 100000 in
set_option maxHeartbeats 40000000 in
theorem cp_sheet0_0 : prchk RL CL rp_sheet0_0 [(82, 82, 1, 2), (83, 83, 0, 23), (114, 114, 0, 0), (115, 115, 0, 0), (116, 116, 0, 23)] [] tp_sheet0_0 82 117 227 3 [(0, 0), ((-2147483648), (-2)), ((-2147483648), 2147483647)] [] = true := by decide +kernel
def tp_sheet0_1 : aTb := fun mi i => if mi = 227 ∧ i = 38 then some ([(0, 2147483647, .inl 4)], [], [], [(116, 116, 0, 95)], 0, true) else none
def rp_sheet0_1 : List pq := [((5, 82, 1), (0, 114, 0), (-1), 1), ((5, 82, 2), (0, 115, 0), 0, 24)]
set_option maxRecDepth 100000 in
set_option maxHeartbeats 40000000 in
theorem cp_sheet0_1 : prchk RL CL rp_sheet0_1 [(82, 82, 1, 2), (83, 83, 0, 23), (114, 114, 0, 0), (115, 115, 0, 0), (116, 116, 0, 23)] [] tp_sheet0_1 366 117 227 3 [(0, 0), ((-1), (-1)), ((-2147483648), 2147483647)] [] = true := by decide +kernel
def tp_sheet0_2 : aTb := fun mi i => if mi = 227 ∧ i = 38 then some ([(0, 2147483647, .inl 4)], [], [], [(116, 116, 0, 95)], 0, true) else none
def rp_sheet0_2 : List pq := [((5, 82, 1), (0, 114, 0), (-1), 1), ((5, 82, 2), (0, 115, 0), 0, 24)]
set_option maxRecDepth 100000 in
set_option maxHeartbeats 40000000 in
theorem cp_sheet0_2 : prchk RL CL rp_sheet0_2 [(82, 82, 1, 2), (83, 83, 0, 23), (114, 114, 0, 0), (115, 115, 0, 0), (116, 116, 0, 23)] [] tp_sheet0_2 375 117 227 3 [(0, 0), (0, 0), ((-2147483648), 2147483647)] [] = true := by decide +kernel
def tp_sheet0_3 : aTb := fun mi i => if mi = 227 ∧ i = 38 then some ([(0, 2147483647, .inl 4)], [], [], [(116, 116, 0, 95)], 0, true) else none
def rp_sheet0_3 : List pq := [((5, 82, 1), (0, 114, 0), (-1), 1), ((5, 82, 2), (0, 115, 0), 0, 24)]
set_option maxRecDepth 100000 in
set_option maxHeartbeats 40000000 in
theorem cp_sheet0_3 : prchk RL CL rp_sheet0_3 [(82, 82, 1, 2), (83, 83, 0, 23), (114, 114, 0, 0), (115, 115, 0, 0), (116, 116, 0, 23)] [] tp_sheet0_3 375 117 227 3 [(0, 0), (1, 1), ((-2147483648), 2147483647)] [] = true := by decide +kernel
def tp_sheet0_4 : aTb := fun mi i => if mi = 227 ∧ i = 38 then some ([(0, 2147483647, .inl 4)], [], [], [(116, 116, 0, 95)], 0, true) else none
def rp_sheet0_4 : List pq := [((5, 82, 1), (0, 114, 0), (-1), 1), ((5, 82, 2), (0, 115, 0), 0, 24)]
set_option maxRecDepth 100000 in
set_option maxHeartbeats 40000000 in
theorem cp_sheet0_4 : prchk RL CL rp_sheet0_4 [(82, 82, 1, 2), (83, 83, 0, 23), (114, 114, 0, 0), (115, 115, 0, 0), (116, 116, 0, 23)] [] tp_sheet0_4 89 117 227 3 [(0, 0), (2, 2147483647), ((-2147483648), 2147483647)] [] = true := by decide +kernel
def tp_sheet1_0 : aTb := fun mi i => if mi = 227 ∧ i = 38 then some ([(0, 2147483647, .inl 4)], [], [], [(116, 116, 0, 95)], 0, true) else none
def rp_sheet1_0 : List pq := [((5, 84, 1), (0, 114, 1), (-1), 1), ((5, 84, 2), (0, 115, 1), 0, 24)]
set_option maxRecDepth 100000 in
set_option maxHeartbeats 40000000 in
theorem cp_sheet1_0 : prchk RL CL rp_sheet1_0 [(84, 84, 1, 2), (85, 85, 0, 23), (114, 114, 1, 1), (115, 115, 1, 1), (116, 116, 24, 47)] [] tp_sheet1_0 82 117 227 3 [(1, 1), ((-2147483648), (-2)), ((-2147483648), 2147483647)] [] = true := by decide +kernel
def tp_sheet1_1 : aTb := fun mi i => if mi = 227 ∧ i = 38 then some ([(0, 2147483647, .inl 4)], [], [], [(116, 116, 0, 95)], 0, true) else none
def rp_sheet1_1 : List pq := [((5, 84, 1), (0, 114, 1), (-1), 1), ((5, 84, 2), (0, 115, 1), 0, 24)]
set_option maxRecDepth 100000 in
set_option maxHeartbeats 40000000 in
theorem cp_sheet1_1 : prchk RL CL rp_sheet1_1 [(84, 84, 1, 2), (85, 85, 0, 23), (114, 114, 1, 1), (115, 115, 1, 1), (116, 116, 24, 47)] [] tp_sheet1_1 366 117 227 3 [(1, 1), ((-1), (-1)), ((-2147483648), 2147483647)] [] = true := by decide +kernel
def tp_sheet1_2 : aTb := fun mi i => if mi = 227 ∧ i = 38 then some ([(0, 2147483647, .inl 4)], [], [], [(116, 116, 0, 95)], 0, true) else none
def rp_sheet1_2 : List pq := [((5, 84, 1), (0, 114, 1), (-1), 1), ((5, 84, 2), (0, 115, 1), 0, 24)]
set_option maxRecDepth 100000 in
set_option maxHeartbeats 40000000 in
theorem cp_sheet1_2 : prchk RL CL rp_sheet1_2 [(84, 84, 1, 2), (85, 85, 0, 23), (114, 114, 1, 1), (115, 115, 1, 1), (116, 116, 24, 47)] [] tp_sheet1_2 375 117 227 3 [(1, 1), (0, 0), ((-2147483648), 2147483647)] [] = true := by decide +kernel
def tp_sheet1_3 : aTb := fun mi i => if mi = 227 ∧ i = 38 then some ([(0, 2147483647, .inl 4)], [], [], [(116, 116, 0, 95)], 0, true) else none
def rp_sheet1_3 : List pq := [((5, 84, 1), (0, 114, 1), (-1), 1), ((5, 84, 2), (0, 115, 1), 0, 24)]
set_option maxRecDepth 100000 in
set_option maxHeartbeats 40000000 in
theorem cp_sheet1_3 : prchk RL CL rp_sheet1_3 [(84, 84, 1, 2), (85, 85, 0, 23), (114, 114, 1, 1), (115, 115, 1, 1), (116, 116, 24, 47)] [] tp_sheet1_3 375 117 227 3 [(1, 1), (1, 1), ((-2147483648), 2147483647)] [] = true := by decide +kernel
def tp_sheet1_4 : aTb := fun mi i => if mi = 227 ∧ i = 38 then some ([(0, 2147483647, .inl 4)], [], [], [(116, 116, 0, 95)], 0, true) else none
def rp_sheet1_4 : List pq := [((5, 84, 1), (0, 114, 1), (-1), 1), ((5, 84, 2), (0, 115, 1), 0, 24)]
set_option maxRecDepth 100000 in
set_option maxHeartbeats 40000000 in
theorem cp_sheet1_4 : prchk RL CL rp_sheet1_4 [(84, 84, 1, 2), (85, 85, 0, 23), (114, 114, 1, 1), (115, 115, 1, 1), (116, 116, 24, 47)] [] tp_sheet1_4 89 117 227 3 [(1, 1), (2, 2147483647), ((-2147483648), 2147483647)] [] = true := by decide +kernel
def tp_sheet2_0 : aTb := fun mi i => if mi = 227 ∧ i = 38 then some ([(0, 2147483647, .inl 4)], [], [], [(116, 116, 0, 95)], 0, true) else none
def rp_sheet2_0 : List pq := [((5, 86, 1), (0, 114, 2), (-1), 1), ((5, 86, 2), (0, 115, 2), 0, 24)]
set_option maxRecDepth 100000 in
set_option maxHeartbeats 40000000 in
theorem cp_sheet2_0 : prchk RL CL rp_sheet2_0 [(86, 86, 1, 2), (87, 87, 0, 23), (114, 114, 2, 2), (115, 115, 2, 2), (116, 116, 48, 71)] [] tp_sheet2_0 82 117 227 3 [(2, 2), ((-2147483648), (-2)), ((-2147483648), 2147483647)] [] = true := by decide +kernel
def tp_sheet2_1 : aTb := fun mi i => if mi = 227 ∧ i = 38 then some ([(0, 2147483647, .inl 4)], [], [], [(116, 116, 0, 95)], 0, true) else none
def rp_sheet2_1 : List pq := [((5, 86, 1), (0, 114, 2), (-1), 1), ((5, 86, 2), (0, 115, 2), 0, 24)]
set_option maxRecDepth 100000 in
set_option maxHeartbeats 40000000 in
theorem cp_sheet2_1 : prchk RL CL rp_sheet2_1 [(86, 86, 1, 2), (87, 87, 0, 23), (114, 114, 2, 2), (115, 115, 2, 2), (116, 116, 48, 71)] [] tp_sheet2_1 366 117 227 3 [(2, 2), ((-1), (-1)), ((-2147483648), 2147483647)] [] = true := by decide +kernel
def tp_sheet2_2 : aTb := fun mi i => if mi = 227 ∧ i = 38 then some ([(0, 2147483647, .inl 4)], [], [], [(116, 116, 0, 95)], 0, true) else none
def rp_sheet2_2 : List pq := [((5, 86, 1), (0, 114, 2), (-1), 1), ((5, 86, 2), (0, 115, 2), 0, 24)]
set_option maxRecDepth 100000 in
set_option maxHeartbeats 40000000 in
theorem cp_sheet2_2 : prchk RL CL rp_sheet2_2 [(86, 86, 1, 2), (87, 87, 0, 23), (114, 114, 2, 2), (115, 115, 2, 2), (116, 116, 48, 71)] [] tp_sheet2_2 375 117 227 3 [(2, 2), (0, 0), ((-2147483648), 2147483647)] [] = true := by decide +kernel
def tp_sheet2_3 : aTb := fun mi i => if mi = 227 ∧ i = 38 then some ([(0, 2147483647, .inl 4)], [], [], [(116, 116, 0, 95)], 0, true) else none
def rp_sheet2_3 : List pq := [((5, 86, 1), (0, 114, 2), (-1), 1), ((5, 86, 2), (0, 115, 2), 0, 24)]
set_option maxRecDepth 100000 in
set_option maxHeartbeats 40000000 in
theorem cp_sheet2_3 : prchk RL CL rp_sheet2_3 [(86, 86, 1, 2), (87, 87, 0, 23), (114, 114, 2, 2), (115, 115, 2, 2), (116, 116, 48, 71)] [] tp_sheet2_3 375 117 227 3 [(2, 2), (1, 1), ((-2147483648), 2147483647)] [] = true := by decide +kernel
def tp_sheet2_4 : aTb := fun mi i => if mi = 227 ∧ i = 38 then some ([(0, 2147483647, .inl 4)], [], [], [(116, 116, 0, 95)], 0, true) else none
def rp_sheet2_4 : List pq := [((5, 86, 1), (0, 114, 2), (-1), 1), ((5, 86, 2), (0, 115, 2), 0, 24)]
set_option maxRecDepth 100000 in
set_option maxHeartbeats 40000000 in
theorem cp_sheet2_4 : prchk RL CL rp_sheet2_4 [(86, 86, 1, 2), (87, 87, 0, 23), (114, 114, 2, 2), (115, 115, 2, 2), (116, 116, 48, 71)] [] tp_sheet2_4 89 117 227 3 [(2, 2), (2, 2147483647), ((-2147483648), 2147483647)] [] = true := by decide +kernel
def tp_sheet3_0 : aTb := fun mi i => if mi = 227 ∧ i = 38 then some ([(0, 2147483647, .inl 4)], [], [], [(116, 116, 0, 95)], 0, true) else none
def rp_sheet3_0 : List pq := [((5, 88, 1), (0, 114, 3), (-1), 1), ((5, 88, 2), (0, 115, 3), 0, 24)]
set_option maxRecDepth 100000 in
set_option maxHeartbeats 40000000 in
theorem cp_sheet3_0 : prchk RL CL rp_sheet3_0 [(88, 88, 1, 2), (89, 89, 0, 23), (114, 114, 3, 3), (115, 115, 3, 3), (116, 116, 72, 95)] [] tp_sheet3_0 82 117 227 3 [(3, 3), ((-2147483648), (-2)), ((-2147483648), 2147483647)] [] = true := by decide +kernel
def tp_sheet3_1 : aTb := fun mi i => if mi = 227 ∧ i = 38 then some ([(0, 2147483647, .inl 4)], [], [], [(116, 116, 0, 95)], 0, true) else none
def rp_sheet3_1 : List pq := [((5, 88, 1), (0, 114, 3), (-1), 1), ((5, 88, 2), (0, 115, 3), 0, 24)]
set_option maxRecDepth 100000 in
set_option maxHeartbeats 40000000 in
theorem cp_sheet3_1 : prchk RL CL rp_sheet3_1 [(88, 88, 1, 2), (89, 89, 0, 23), (114, 114, 3, 3), (115, 115, 3, 3), (116, 116, 72, 95)] [] tp_sheet3_1 366 117 227 3 [(3, 3), ((-1), (-1)), ((-2147483648), 2147483647)] [] = true := by decide +kernel
def tp_sheet3_2 : aTb := fun mi i => if mi = 227 ∧ i = 38 then some ([(0, 2147483647, .inl 4)], [], [], [(116, 116, 0, 95)], 0, true) else none
def rp_sheet3_2 : List pq := [((5, 88, 1), (0, 114, 3), (-1), 1), ((5, 88, 2), (0, 115, 3), 0, 24)]
set_option maxRecDepth 100000 in
set_option maxHeartbeats 40000000 in
theorem cp_sheet3_2 : prchk RL CL rp_sheet3_2 [(88, 88, 1, 2), (89, 89, 0, 23), (114, 114, 3, 3), (115, 115, 3, 3), (116, 116, 72, 95)] [] tp_sheet3_2 375 117 227 3 [(3, 3), (0, 0), ((-2147483648), 2147483647)] [] = true := by decide +kernel
def tp_sheet3_3 : aTb := fun mi i => if mi = 227 ∧ i = 38 then some ([(0, 2147483647, .inl 4)], [], [], [(116, 116, 0, 95)], 0, true) else none
def rp_sheet3_3 : List pq := [((5, 88, 1), (0, 114, 3), (-1), 1), ((5, 88, 2), (0, 115, 3), 0, 24)]
set_option maxRecDepth 100000 in
set_option maxHeartbeats 40000000 in
theorem cp_sheet3_3 : prchk RL CL rp_sheet3_3 [(88, 88, 1, 2), (89, 89, 0, 23), (114, 114, 3, 3), (115, 115, 3, 3), (116, 116, 72, 95)] [] tp_sheet3_3 375 117 227 3 [(3, 3), (1, 1), ((-2147483648), 2147483647)] [] = true := by decide +kernel
def tp_sheet3_4 : aTb := fun mi i => if mi = 227 ∧ i = 38 then some ([(0, 2147483647, .inl 4)], [], [], [(116, 116, 0, 95)], 0, true) else none
def rp_sheet3_4 : List pq := [((5, 88, 1), (0, 114, 3), (-1), 1), ((5, 88, 2), (0, 115, 3), 0, 24)]
set_option maxRecDepth 100000 in
set_option maxHeartbeats 40000000 in
theorem cp_sheet3_4 : prchk RL CL rp_sheet3_4 [(88, 88, 1, 2), (89, 89, 0, 23), (114, 114, 3, 3), (115, 115, 3, 3), (116, 116, 72, 95)] [] tp_sheet3_4 89 117 227 3 [(3, 3), (2, 2147483647), ((-2147483648), 2147483647)] [] = true := by decide +kernel
def tp_sheetl : aTb := fun mi i => none
def rp_sheetl : List pq := []
set_option maxRecDepth 100000 in
set_option maxHeartbeats 40000000 in
theorem cp_sheetl : prchk RL CL rp_sheetl [] [] tp_sheetl 46 117 227 3 [((-2147483648), (-1)), ((-2147483648), 2147483647), ((-2147483648), 2147483647)] [] = true := by decide +kernel
def tp_sheeth : aTb := fun mi i => none
def rp_sheeth : List pq := []
set_option maxRecDepth 100000 in
set_option maxHeartbeats 40000000 in
theorem cp_sheeth : prchk RL CL rp_sheeth [] [] tp_sheeth 55 117 227 3 [(4, 2147483647), ((-2147483648), 2147483647), ((-2147483648), 2147483647)] [] = true := by decide +kernel
def tp_lay0_0_0 : aTb := fun mi i => none
def rp_lay0_0_0 : List pq := [((7, 90, 2), (0, 117, 0), 0, 2)]
set_option maxRecDepth 100000 in
set_option maxHeartbeats 40000000 in
theorem cp_lay0_0_0 : prchk RL CL rp_lay0_0_0 [(90, 90, 2, 3), (91, 91, 0, 5), (92, 92, 1, 2), (93, 93, 0, 23), (117, 117, 0, 0), (118, 118, 0, 0), (119, 119, 0, 0), (120, 120, 0, 0), (121, 121, 0, 23)] [] tp_lay0_0_0 85 122 234 3 [(0, 0), ((-2147483648), (-1)), ((-2147483648), 2147483647)] [] = true := by decide +kernel
def tp_lay0_0_1 : aTb := fun mi i => none
def rp_lay0_0_1 : List pq := [((7, 90, 2), (0, 117, 0), 0, 2)]
set_option maxRecDepth 100000 in
set_option maxHeartbeats 40000000 in
theorem cp_lay0_0_1 : prchk RL CL rp_lay0_0_1 [(90, 90, 2, 3), (91, 91, 0, 5), (92, 92, 1, 2), (93, 93, 0, 23), (117, 117, 0, 0), (118, 118, 0, 0), (119, 119, 0, 0), (120, 120, 0, 0), (121, 121, 0, 23)] [] tp_lay0_0_1 176 122 234 3 [(0, 0), (0, 0), ((-2147483648), 2147483647)] [] = true := by decide +kernel
def tp_lay0_0_2 : aTb := fun mi i => none
def rp_lay0_0_2 : List pq := [((8, 34, 5), (0, 111, 0), 0, 9), ((7, 90, 2), (0, 117, 0), 0, 2)]
set_option maxRecDepth 100000 in
set_option maxHeartbeats 40000000 in
theorem cp_lay0_0_2 : prchk RL CL rp_lay0_0_2 [(90, 90, 2, 3), (91, 91, 0, 5), (92, 92, 1, 2), (93, 93, 0, 23), (117, 117, 0, 0), (118, 118, 0, 0), (119, 119, 0, 0), (120, 120, 0, 0), (121, 121, 0, 23)] [(161, k_m_worth)] tp_lay0_0_2 255 122 234 3 [(0, 0), (1, 1), ((-2147483648), 2147483647)] [] = true := by decide +kernel
def tp_lay0_0_3 : aTb := fun mi i => none
def rp_lay0_0_3 : List pq := [((7, 90, 2), (0, 117, 0), 0, 2)]
set_option maxRecDepth 100000 in
set_option maxHeartbeats 40000000 in
theorem cp_lay0_0_3 : prchk RL CL rp_lay0_0_3 [(90, 90, 2, 3), (91, 91, 0, 5), (92, 92, 1, 2), (93, 93, 0, 23), (117, 117, 0, 0), (118, 118, 0, 0), (119, 119, 0, 0), (120, 120, 0, 0), (121, 121, 0, 23)] [] tp_lay0_0_3 182 122 234 3 [(0, 0), (3, 3), ((-2147483648), 2147483647)] [] = true := by decide +kernel
def tp_lay0_0_4 : aTb := fun mi i => none
def rp_lay0_0_4 : List pq := [((7, 90, 2), (0, 117, 0), 0, 2)]
set_option maxRecDepth 100000 in
set_option maxHeartbeats 40000000 in
theorem cp_lay0_0_4 : prchk RL CL rp_lay0_0_4 [(90, 90, 2, 3), (91, 91, 0, 5), (92, 92, 1, 2), (93, 93, 0, 23), (117, 117, 0, 0), (118, 118, 0, 0), (119, 119, 0, 0), (120, 120, 0, 0), (121, 121, 0, 23)] [] tp_lay0_0_4 88 122 234 3 [(0, 0), (4, 2147483647), ((-2147483648), 2147483647)] [] = true := by decide +kernel
def tp_lay0_0s0 : aTb := fun mi i => none
def rp_lay0_0s0 : List pq := [((7, 90, 2), (0, 117, 0), 0, 2)]
set_option maxRecDepth 100000 in
set_option maxHeartbeats 40000000 in
theorem cp_lay0_0s0 : prchk RL CL rp_lay0_0s0 [(90, 90, 2, 3), (91, 91, 0, 5), (92, 92, 1, 2), (93, 93, 0, 23), (117, 117, 0, 0), (118, 118, 0, 0), (119, 119, 0, 0), (120, 120, 0, 0), (121, 121, 0, 23)] [] tp_lay0_0s0 129 122 234 3 [(0, 0), (2, 2), ((-2147483648), (-1))] [] = true := by decide +kernel
def tp_lay0_0s1 : aTb := fun mi i => none
def rp_lay0_0s1 : List pq := [((7, 90, 2), (0, 117, 0), 0, 2), ((5, 82, 1), (0, 114, 0), (-1), 1), ((5, 82, 2), (0, 115, 0), 0, 24)]
set_option maxRecDepth 100000 in
set_option maxHeartbeats 40000000 in
theorem cp_lay0_0s1 : prchk RL CL rp_lay0_0s1 [(90, 90, 2, 3), (91, 91, 0, 5), (92, 92, 1, 2), (93, 93, 0, 23), (117, 117, 0, 0), (118, 118, 0, 0), (119, 119, 0, 0), (120, 120, 0, 0), (121, 121, 0, 23)] [] tp_lay0_0s1 761 122 234 3 [(0, 0), (2, 2), (0, 0)] [] = true := by decide +kernel
def tp_lay0_0s2 : aTb := fun mi i => none
def rp_lay0_0s2 : List pq := [((7, 90, 2), (0, 117, 0), 0, 2), ((5, 84, 1), (0, 114, 1), (-1), 1), ((5, 84, 2), (0, 115, 1), 0, 24)]
set_option maxRecDepth 100000 in
set_option maxHeartbeats 40000000 in
theorem cp_lay0_0s2 : prchk RL CL rp_lay0_0s2 [(90, 90, 2, 3), (91, 91, 0, 5), (92, 92, 1, 2), (93, 93, 0, 23), (117, 117, 0, 0), (118, 118, 0, 0), (119, 119, 0, 0), (120, 120, 0, 0), (121, 121, 0, 23)] [] tp_lay0_0s2 761 122 234 3 [(0, 0), (2, 2), (1, 1)] [] = true := by decide +kernel
