/-! ===== what each pair of calls does, and what stays alike (printed by program) ===== -/
def VLs : List pq := (List.range 4).flatMap (fun u => (List.range 24).map (fun j => ((0, 83 + 2 * u, j), (0, 116, 24 * u + j), -2147483648, 2147483647)))
def MKw (w b : Nat) : List pq := (List.range 16).map (fun i => ((0, w + 1, i), (0, b, 5 + i), 0, 3))
def MLm (S D : Nat) : List ((Nat × Nat) × (Nat × Nat)) := (List.range 16).map (fun i => ((D + 1, i), (S + 1, i)))
theorem mlm_mem {S D i : Nat} (hi : i < 16) : ((D + 1, i), (S + 1, i)) ∈ MLm S D := List.mem_map.mpr ⟨i, List.mem_range.mpr hi, rfl⟩
theorem vl_e {h : List pC} (hr : pRel VLs h) : ∀ u j : Nat, u < 4 → j < 24 → ri h (83 + 2 * u) j = ri h 116 (24 * u + j) := fun u j hu hj => hr _ (List.mem_flatMap.mpr ⟨u, List.mem_range.mpr hu, List.mem_map.mpr ⟨j, List.mem_range.mpr hj, rfl⟩⟩)
theorem vl_i {h : List pC} (hr : ∀ u j : Nat, u < 4 → j < 24 → ri h (83 + 2 * u) j = ri h 116 (24 * u + j)) : pRel VLs h := fun q hq => by
  obtain ⟨u, hu, h1⟩ := List.mem_flatMap.mp hq
  obtain ⟨j, hj, rfl⟩ := List.mem_map.mp h1
  exact hr u j (List.mem_range.mp hu) (List.mem_range.mp hj)
theorem mk_e {w b : Nat} {h : List pC} (hr : pRel (MKw w b) h) : ∀ i : Nat, i < 16 → ri h (w + 1) i = ri h b (5 + i) := fun i hi => hr _ (List.mem_map.mpr ⟨i, List.mem_range.mpr hi, rfl⟩)
theorem mk_i {w b : Nat} {h : List pC} (hr : ∀ i : Nat, i < 16 → ri h (w + 1) i = ri h b (5 + i)) : pRel (MKw w b) h := fun q hq => by
  obtain ⟨i, hi, rfl⟩ := List.mem_map.mp hq
  exact hr i (List.mem_range.mp hi)
def RLf : List pq := [((8, 34, 5), (0, 111, 0), 0, 9), ((8, 48, 5), (0, 112, 0), 0, 9), ((9, 0, 9), (10, 110, 3), 0, 1), ((8, 34, 9), (0, 111, 4), (-2147483648), 2147483647), ((8, 34, 7), (0, 111, 2), (-2147483648), 2147483647), ((8, 48, 7), (0, 112, 2), (-2147483648), 2147483647), ((5, 82, 1), (0, 114, 0), (-1), 1), ((5, 84, 1), (0, 114, 1), (-1), 1), ((5, 86, 1), (0, 114, 2), (-1), 1), ((5, 88, 1), (0, 114, 3), (-1), 1), ((5, 82, 2), (0, 115, 0), 0, 24), ((5, 84, 2), (0, 115, 1), 0, 24), ((5, 86, 2), (0, 115, 2), 0, 24), ((5, 88, 2), (0, 115, 3), 0, 24)]
def RLg : List pq := VLs
def RL : List pq := RLf ++ RLg
theorem rl_g {h : List pC} (hr : pRel RL h) : pRel RLg h := fun q hq => hr q (List.mem_append_right _ hq)
theorem rl_v {h : List pC} (hr : pRel RL h) : pRel VLs h := rl_g hr
theorem rl_f {h : List pC} (hr : pRel RL h) : pRel RLf h := fun q hq => hr q (List.mem_append_left _ hq)
def CLw (w b : Nat) : List cq := (List.range 9).flatMap (fun (k : Nat) => (List.range 4).map (fun (f : Nat) => ((8, w, 5), ((k : Nat) : Int) + 1, 9, ((6, (w + 5 + k : Nat), f), (0, b, (21 + 6 * k + f : Nat)), -2147483648, 2147483647))))
def CLz : List cq := [((9, 0, 9), 1, 1, ((8, 48, 9), (0, 112, 4), -2147483648, 2147483647))]
def CL : List cq := CLw 34 111 ++ (CLw 48 112 ++ CLz)
/-- what is kept beside: THE TIDE is within its bound -/
def tdB (h : List pC) (a : Nat) : Prop := 0 ≤ (ri h a 7).toInt ∧ (ri h a 7).toInt ≤ 9999
def XK (h : List pC) : Prop := tdB h 34 ∧ tdB h 48
def xkW (W : aW) : Bool := !inW W 34 7 && !inW W 48 7
theorem xk_fr {W : aW} {h h' : List pC} (hx : XK h) (hf : Fr W h h') (hw : xkW W = true) : XK h' := by
  unfold xkW at hw
  rw [Bool.and_eq_true] at hw
  have n1 : inW W 34 7 = false := by simpa using hw.1
  have n2 : inW W 48 7 = false := by simpa using hw.2
  unfold XK tdB
  rw [ri_fr hf n1, ri_fr hf n2]
  exact hx
theorem xk0 : XK h0 := by
  have e1 : ri h0 34 7 = 0 := by decide +kernel
  have e2 : ri h0 48 7 = 0 := by decide +kernel
  unfold XK tdB
  rw [e1, e2]
  decide
/-- the sheets' numbers are within their bounds -/
def VB (h : List pC) : Prop := ∀ u j : Nat, u < 4 → j < 24 → -1000000005 ≤ (ri h (83 + 2 * u) j).toInt ∧ (ri h (83 + 2 * u) j).toInt ≤ 99999
def vbW (W : aW) : Bool := (List.range 4).all (fun u => (List.range 24).all (fun j => !inW W (83 + 2 * u) j))
theorem vb_fr {W : aW} {h h' : List pC} (hx : VB h) (hf : Fr W h h') (hw : vbW W = true) : VB h' := fun u j hu hj => by
  have n0 := List.all_eq_true.mp (List.all_eq_true.mp hw u (List.mem_range.mpr hu)) j (List.mem_range.mpr hj)
  have n1 : inW W (83 + 2 * u) j = false := by simpa using n0
  rw [ri_fr hf n1]
  exact hx u j hu hj
def XJ (h : List pC) : Prop := XK h ∧ VB h
def xjW (W : aW) : Bool := xkW W && vbW W
theorem xj_fr {W : aW} {h h' : List pC} (hx : XJ h) (hf : Fr W h h') (hw : xjW W = true) : XJ h' := by
  unfold xjW at hw
  rw [Bool.and_eq_true] at hw
  exact ⟨xk_fr hx.1 hf hw.1, vb_fr hx.2 hf hw.2⟩
theorem vb0 : VB h0 := fun u j hu hj => by
  have a := show (List.range 4).all (fun u => (List.range 24).all (fun j => decide (ri h0 (83 + 2 * u) j = 0))) = true by decide +kernel
  have e : ri h0 (83 + 2 * u) j = 0 := of_decide_eq_true (List.all_eq_true.mp (List.all_eq_true.mp a u (List.mem_range.mpr hu)) j (List.mem_range.mpr hj))
  rw [e]
  decide +kernel
theorem xj0 : XJ h0 := ⟨xk0, vb0⟩
def RJ (h : List pC) : Prop := pRel RL h ∧ cRel CL h ∧ XJ h
theorem rj0 : RJ h0 := ⟨fun q hq => of_decide_eq_true (List.all_eq_true.mp (show RL.all (fun q => decide (ri h0 q.1.2.1 q.1.2.2 = ri h0 q.2.1.2.1 q.2.1.2.2)) = true by decide +kernel) q hq), fun c hc b1 b2 => of_decide_eq_true (List.all_eq_true.mp (show CL.all (fun c => decide (c.2.1 ≤ (ri h0 c.1.2.1 c.1.2.2).toInt → (ri h0 c.1.2.1 c.1.2.2).toInt ≤ c.2.2.1 → ri h0 c.2.2.2.1.2.1 c.2.2.2.1.2.2 = ri h0 c.2.2.2.2.1.2.1 c.2.2.2.2.1.2.2)) = true by decide +kernel) c hc) b1 b2, xj0⟩
theorem i32_b (v : Int32) : -2147483648 ≤ v.toInt ∧ v.toInt ≤ 2147483647 := ⟨i32_lo v, i32_hi v⟩
theorem args_top : ∀ (xs : List Int32), argsG (xs.map Value.int) (List.replicate xs.length (.inl (-2147483648, 2147483647)))
  | [] => trivial
  | x :: xs => ⟨⟨x, rfl, i32_lo x, i32_hi x⟩, args_top xs⟩
/-- what a public method does, from its contract -/
theorem pub_of {E : pX} {i a : Nat} {c : aK} (hk : KGi E pV1 JT i c) {N : pM} (hN : prog[i]? = some N) (hc : m_code N ≠ []) (xs : List Int32) (h1 : c.1 = .inr (false, [a]) :: List.replicate xs.length (.inl (-2147483648, 2147483647))) (h2 : c.2.1 ≠ none) (h3 : c.2.2.2 ≤ 120) {h : List pC} (hh : HI HT h) (hj : JT h) : ∃ (r : Int32) (h' : List pC), Run prog E pV1 120 N (.ref a :: xs.map Value.int) h (some (.int r), h', 0, 0) ∧ HI HT h' ∧ Fr c.2.2.1 h h' ∧ JT h' := by
  obtain ⟨r, h', q, hr, hh', hf, hj'⟩ := hk N hN 120 h3 (.ref a :: xs.map Value.int) h (by rw [h1]; exact ⟨Or.inr ⟨a, List.mem_singleton.mpr rfl, rfl⟩, args_top xs⟩) hh hj
  obtain ⟨z, hz⟩ : ∃ z, c.2.1 = some z := by
    cases e : c.2.1 with
    | none => exact absurd e h2
    | some z => exact ⟨z, rfl⟩
  rw [hz] at hr
  obtain ⟨v, rfl, -⟩ := (show ∃ v : Int32, r = some (.int v) ∧ z.1 ≤ v.toInt ∧ v.toInt ≤ z.2 from hr)
  rcases q with q | q
  · exact ⟨v, h', q, hh', hf, hj'⟩
  · exact absurd q.1 hc
theorem cobj {h : List pC} (hh : HI HT h) : ∃ o, pobj h 0 = some o ∧ o.1 = 7 := by
  obtain ⟨fs, ho, -⟩ := hi_obj hh (a := 0) rfl
  exact ⟨_, ho, rfl⟩
def k_c_carveF : aK := ([.inr (false, [0]), .inl ((-2147483648), 2147483647), .inl ((-2147483648), 2147483647)], some ((-2147483648), 2147483647), [(35, 35, 0, 15)], 50)
def tb_c_carveF : aTb := fun mi i => none
def kc_c_carveF : List (Nat × aK) := [(48, k_covers), (50, k_sayAt), (44, k_value), (54, k_gainOver), (55, k_loss), (56, k_worth), (49, k_covered), (57, k_joined), (58, k_clashes), (70, k_falsehood34), (71, k_trustOfAll34), (72, k_laidSet34), (73, k_coveredBy34), (77, k_deniers34), (80, k_gainOf34), (78, k_flow34), (75, k_noteClashes), (76, k_anyClash)]
set_option maxRecDepth 100000 in
set_option maxHeartbeats 40000000 in
theorem ck_c_carveF : kchk prog HT kc_c_carveF tb_c_carveF 72 92 k_c_carveF = true := sorry
theorem kg_c_carveF {E : pX} : KGi E pV1 JT 92 k_c_carveF := kgi_of JT_P (by decide) ck_c_carveF (by unfold kc_c_carveF; exact (List.forall_mem_cons.mpr ⟨kg_covers JT_P hands, (List.forall_mem_cons.mpr ⟨kg_sayAt JT_P hands, (List.forall_mem_cons.mpr ⟨kg_value JT_P hands, (List.forall_mem_cons.mpr ⟨kg_gainOver JT_P hands, (List.forall_mem_cons.mpr ⟨kg_loss JT_P hands, (List.forall_mem_cons.mpr ⟨kg_worth JT_P hands, (List.forall_mem_cons.mpr ⟨kg_covered JT_P hands, (List.forall_mem_cons.mpr ⟨kg_joined JT_P hands, (List.forall_mem_cons.mpr ⟨kg_clashes JT_P hands, (List.forall_mem_cons.mpr ⟨kg_falsehood34 JT_P hands, (List.forall_mem_cons.mpr ⟨kg_trustOfAll34 JT_P hands, (List.forall_mem_cons.mpr ⟨kg_laidSet34 JT_P hands, (List.forall_mem_cons.mpr ⟨kg_coveredBy34 JT_P hands, (List.forall_mem_cons.mpr ⟨kg_deniers34 JT_P hands, (List.forall_mem_cons.mpr ⟨kg_gainOf34 JT_P hands, (List.forall_mem_cons.mpr ⟨kg_flow34 JT_P hands, (List.forall_mem_cons.mpr ⟨kg_noteClashes JT_P hands, (List.forall_mem_cons.mpr ⟨kg_anyClash JT_P hands, (fun _ h => absurd h List.not_mem_nil)⟩)⟩)⟩)⟩)⟩)⟩)⟩)⟩)⟩)⟩)⟩)⟩)⟩)⟩)⟩)⟩)⟩)⟩))
def k_r_carveF : aK := ([.inr (false, [110]), .inl ((-2147483648), 2147483647), .inl ((-2147483648), 2147483647)], some ((-2147483648), 2147483647), [(111, 111, 5, 20)], 50)
def tb_r_carveF : aTb := fun mi i => none
def kc_r_carveF : List (Nat × aK) := [(158, k_m_saysAt), (160, k_m_loses), (161, k_m_worth), (163, k_m_covers), (222, k_m_counts), (159, k_m_gains), (147, k_m_manyIn), (175, k_m_falseOf), (178, k_m_joinBy), (180, k_m_doClash), (182, k_m_laidOnes), (183, k_m_coveredBy), (184, k_m_findClashing), (185, k_m_areAtPeace), (188, k_m_otherwiseAt), (193, k_m_allTrust), (190, k_m_goesOn), (191, k_m_goesOnMany)]
set_option maxRecDepth 100000 in
set_option maxHeartbeats 40000000 in
theorem ck_r_carveF : kchk prog HT kc_r_carveF tb_r_carveF 57 171 k_r_carveF = true := sorry
theorem kg_r_carveF {E : pX} : KGi E pV1 JT 171 k_r_carveF := kgi_of JT_P (by decide) ck_r_carveF (by unfold kc_r_carveF; exact (List.forall_mem_cons.mpr ⟨kg_m_saysAt JT_P hands, (List.forall_mem_cons.mpr ⟨kg_m_loses JT_P hands, (List.forall_mem_cons.mpr ⟨kg_m_worth JT_P hands, (List.forall_mem_cons.mpr ⟨kg_m_covers JT_P hands, (List.forall_mem_cons.mpr ⟨kg_m_counts JT_P hands, (List.forall_mem_cons.mpr ⟨kg_m_gains hands, (List.forall_mem_cons.mpr ⟨kg_m_manyIn hands, (List.forall_mem_cons.mpr ⟨kg_m_falseOf JT_P hands, (List.forall_mem_cons.mpr ⟨kg_m_joinBy JT_P hands, (List.forall_mem_cons.mpr ⟨kg_m_doClash JT_P hands, (List.forall_mem_cons.mpr ⟨kg_m_laidOnes JT_P hands, (List.forall_mem_cons.mpr ⟨kg_m_coveredBy JT_P hands, (List.forall_mem_cons.mpr ⟨kg_m_findClashing JT_P hands, (List.forall_mem_cons.mpr ⟨kg_m_areAtPeace JT_P hands, (List.forall_mem_cons.mpr ⟨kg_m_otherwiseAt JT_P hands, (List.forall_mem_cons.mpr ⟨kg_m_allTrust JT_P hands, (List.forall_mem_cons.mpr ⟨kg_m_goesOn JT_P hands, (List.forall_mem_cons.mpr ⟨kg_m_goesOnMany JT_P hands, (fun _ h => absurd h List.not_mem_nil)⟩)⟩)⟩)⟩)⟩)⟩)⟩)⟩)⟩)⟩)⟩)⟩)⟩)⟩)⟩)⟩)⟩)⟩))
def k_c_pourF : aK := ([.inr (false, [0]), .inl ((-2147483648), 2147483647)], some ((-2147483648), 2147483647), [(35, 35, 0, 15)], 50)
def tb_c_pourF : aTb := fun mi i => if mi = 119 ∧ i = 17 then some ([((-2147483648), 2147483647, .inl 3), (0, 2147483647, .inl 4)], [], [5, 6], [(35, 35, 0, 15)], 1, true) else none
def kc_c_pourF : List (Nat × aK) := [(48, k_covers), (50, k_sayAt), (44, k_value), (54, k_gainOver), (55, k_loss), (56, k_worth), (49, k_covered), (57, k_joined), (58, k_clashes), (70, k_falsehood34), (71, k_trustOfAll34), (72, k_laidSet34), (73, k_coveredBy34), (77, k_deniers34), (80, k_gainOf34), (78, k_flow34), (75, k_noteClashes), (76, k_anyClash)]
set_option maxRecDepth 100000 in
set_option maxHeartbeats 40000000 in
theorem ck_c_pourF : kchk prog HT kc_c_pourF tb_c_pourF 122 119 k_c_pourF = true := sorry
theorem kg_c_pourF {E : pX} : KGi E pV1 JT 119 k_c_pourF := kgi_of JT_P (by decide) ck_c_pourF (by unfold kc_c_pourF; exact (List.forall_mem_cons.mpr ⟨kg_covers JT_P hands, (List.forall_mem_cons.mpr ⟨kg_sayAt JT_P hands, (List.forall_mem_cons.mpr ⟨kg_value JT_P hands, (List.forall_mem_cons.mpr ⟨kg_gainOver JT_P hands, (List.forall_mem_cons.mpr ⟨kg_loss JT_P hands, (List.forall_mem_cons.mpr ⟨kg_worth JT_P hands, (List.forall_mem_cons.mpr ⟨kg_covered JT_P hands, (List.forall_mem_cons.mpr ⟨kg_joined JT_P hands, (List.forall_mem_cons.mpr ⟨kg_clashes JT_P hands, (List.forall_mem_cons.mpr ⟨kg_falsehood34 JT_P hands, (List.forall_mem_cons.mpr ⟨kg_trustOfAll34 JT_P hands, (List.forall_mem_cons.mpr ⟨kg_laidSet34 JT_P hands, (List.forall_mem_cons.mpr ⟨kg_coveredBy34 JT_P hands, (List.forall_mem_cons.mpr ⟨kg_deniers34 JT_P hands, (List.forall_mem_cons.mpr ⟨kg_gainOf34 JT_P hands, (List.forall_mem_cons.mpr ⟨kg_flow34 JT_P hands, (List.forall_mem_cons.mpr ⟨kg_noteClashes JT_P hands, (List.forall_mem_cons.mpr ⟨kg_anyClash JT_P hands, (fun _ h => absurd h List.not_mem_nil)⟩)⟩)⟩)⟩)⟩)⟩)⟩)⟩)⟩)⟩)⟩)⟩)⟩)⟩)⟩)⟩)⟩)⟩))
def k_r_pourF : aK := ([.inr (false, [110]), .inl ((-2147483648), 2147483647)], some ((-2147483648), 2147483647), [(111, 111, 5, 20)], 50)
def tb_r_pourF : aTb := fun mi i => if mi = 229 ∧ i = 16 then some ([((-2147483648), 2147483647, .inl 2), (0, 2147483647, .inl 3)], [], [4, 5], [(111, 111, 5, 20)], 1, true) else none
def kc_r_pourF : List (Nat × aK) := [(158, k_m_saysAt), (160, k_m_loses), (161, k_m_worth), (163, k_m_covers), (222, k_m_counts), (159, k_m_gains), (147, k_m_manyIn), (175, k_m_falseOf), (178, k_m_joinBy), (180, k_m_doClash), (182, k_m_laidOnes), (183, k_m_coveredBy), (184, k_m_findClashing), (185, k_m_areAtPeace), (188, k_m_otherwiseAt), (193, k_m_allTrust), (190, k_m_goesOn), (191, k_m_goesOnMany)]
set_option maxRecDepth 100000 in
set_option maxHeartbeats 40000000 in
theorem ck_r_pourF : kchk prog HT kc_r_pourF tb_r_pourF 94 229 k_r_pourF = true := sorry
theorem kg_r_pourF {E : pX} : KGi E pV1 JT 229 k_r_pourF := kgi_of JT_P (by decide) ck_r_pourF (by unfold kc_r_pourF; exact (List.forall_mem_cons.mpr ⟨kg_m_saysAt JT_P hands, (List.forall_mem_cons.mpr ⟨kg_m_loses JT_P hands, (List.forall_mem_cons.mpr ⟨kg_m_worth JT_P hands, (List.forall_mem_cons.mpr ⟨kg_m_covers JT_P hands, (List.forall_mem_cons.mpr ⟨kg_m_counts JT_P hands, (List.forall_mem_cons.mpr ⟨kg_m_gains hands, (List.forall_mem_cons.mpr ⟨kg_m_manyIn hands, (List.forall_mem_cons.mpr ⟨kg_m_falseOf JT_P hands, (List.forall_mem_cons.mpr ⟨kg_m_joinBy JT_P hands, (List.forall_mem_cons.mpr ⟨kg_m_doClash JT_P hands, (List.forall_mem_cons.mpr ⟨kg_m_laidOnes JT_P hands, (List.forall_mem_cons.mpr ⟨kg_m_coveredBy JT_P hands, (List.forall_mem_cons.mpr ⟨kg_m_findClashing JT_P hands, (List.forall_mem_cons.mpr ⟨kg_m_areAtPeace JT_P hands, (List.forall_mem_cons.mpr ⟨kg_m_otherwiseAt JT_P hands, (List.forall_mem_cons.mpr ⟨kg_m_allTrust JT_P hands, (List.forall_mem_cons.mpr ⟨kg_m_goesOn JT_P hands, (List.forall_mem_cons.mpr ⟨kg_m_goesOnMany JT_P hands, (fun _ h => absurd h List.not_mem_nil)⟩)⟩)⟩)⟩)⟩)⟩)⟩)⟩)⟩)⟩)⟩)⟩)⟩)⟩)⟩)⟩)⟩)⟩))
def k_seeAgain34F : aK := ([.inr (false, [34]), .inr (false, [39, 40, 41, 42, 43, 44, 45, 46, 47]), .inl ((-2147483648), 2147483647)], none, [(5, 5, 0, 95), (1, 1, 3, 3), (34, 34, 8, 8), (39, 47, 4, 5)], 24)
def tb_seeAgain34F : aTb := fun mi i => none
def kc_seeAgain34F : List (Nat × aK) := [(48, k_covers), (50, k_sayAt), (44, k_value), (54, k_gainOver), (55, k_loss), (56, k_worth), (49, k_covered), (57, k_joined), (58, k_clashes), (80, k_gainOf34)]
set_option maxRecDepth 100000 in
set_option maxHeartbeats 40000000 in
theorem ck_seeAgain34F : kchk prog HT kc_seeAgain34F tb_seeAgain34F 53 79 k_seeAgain34F = true := sorry
theorem kg_seeAgain34F {E : pX} : KGi E pV1 JT 79 k_seeAgain34F := kgi_of JT_P (by decide) ck_seeAgain34F (by unfold kc_seeAgain34F; exact (List.forall_mem_cons.mpr ⟨kg_covers JT_P hands, (List.forall_mem_cons.mpr ⟨kg_sayAt JT_P hands, (List.forall_mem_cons.mpr ⟨kg_value JT_P hands, (List.forall_mem_cons.mpr ⟨kg_gainOver JT_P hands, (List.forall_mem_cons.mpr ⟨kg_loss JT_P hands, (List.forall_mem_cons.mpr ⟨kg_worth JT_P hands, (List.forall_mem_cons.mpr ⟨kg_covered JT_P hands, (List.forall_mem_cons.mpr ⟨kg_joined JT_P hands, (List.forall_mem_cons.mpr ⟨kg_clashes JT_P hands, (List.forall_mem_cons.mpr ⟨kg_gainOf34 JT_P hands, (fun _ h => absurd h List.not_mem_nil)⟩)⟩)⟩)⟩)⟩)⟩)⟩)⟩)⟩)⟩))
def k_c_markF : aK := ([.inr (false, [0]), .inl ((-2147483648), 2147483647), .inl ((-2147483648), 2147483647), .inl ((-2147483648), 2147483647)], some ((-2147483648), 2147483647), [(83, 83, 0, 23), (85, 85, 0, 23), (87, 87, 0, 23), (89, 89, 0, 23)], 50)
def tb_c_markF : aTb := fun mi i => none
def kc_c_markF : List (Nat × aK) := [(48, k_covers), (50, k_sayAt), (44, k_value), (54, k_gainOver), (55, k_loss), (56, k_worth), (49, k_covered), (57, k_joined), (58, k_clashes), (70, k_falsehood34), (71, k_trustOfAll34), (72, k_laidSet34), (73, k_coveredBy34), (77, k_deniers34), (80, k_gainOf34), (78, k_flow34), (75, k_noteClashes), (76, k_anyClash)]
set_option maxRecDepth 100000 in
set_option maxHeartbeats 40000000 in
theorem ck_c_markF : kchk prog HT kc_c_markF tb_c_markF 94 118 k_c_markF = true := sorry
theorem kg_c_markF {E : pX} : KGi E pV1 JT 118 k_c_markF := kgi_of JT_P (by decide) ck_c_markF (by unfold kc_c_markF; exact (List.forall_mem_cons.mpr ⟨kg_covers JT_P hands, (List.forall_mem_cons.mpr ⟨kg_sayAt JT_P hands, (List.forall_mem_cons.mpr ⟨kg_value JT_P hands, (List.forall_mem_cons.mpr ⟨kg_gainOver JT_P hands, (List.forall_mem_cons.mpr ⟨kg_loss JT_P hands, (List.forall_mem_cons.mpr ⟨kg_worth JT_P hands, (List.forall_mem_cons.mpr ⟨kg_covered JT_P hands, (List.forall_mem_cons.mpr ⟨kg_joined JT_P hands, (List.forall_mem_cons.mpr ⟨kg_clashes JT_P hands, (List.forall_mem_cons.mpr ⟨kg_falsehood34 JT_P hands, (List.forall_mem_cons.mpr ⟨kg_trustOfAll34 JT_P hands, (List.forall_mem_cons.mpr ⟨kg_laidSet34 JT_P hands, (List.forall_mem_cons.mpr ⟨kg_coveredBy34 JT_P hands, (List.forall_mem_cons.mpr ⟨kg_deniers34 JT_P hands, (List.forall_mem_cons.mpr ⟨kg_gainOf34 JT_P hands, (List.forall_mem_cons.mpr ⟨kg_flow34 JT_P hands, (List.forall_mem_cons.mpr ⟨kg_noteClashes JT_P hands, (List.forall_mem_cons.mpr ⟨kg_anyClash JT_P hands, (fun _ h => absurd h List.not_mem_nil)⟩)⟩)⟩)⟩)⟩)⟩)⟩)⟩)⟩)⟩)⟩)⟩)⟩)⟩)⟩)⟩)⟩)⟩))
def k_r_markF : aK := ([.inr (false, [110]), .inl ((-2147483648), 2147483647), .inl ((-2147483648), 2147483647), .inl ((-2147483648), 2147483647)], some ((-2147483648), 2147483647), [(116, 116, 0, 95)], 50)
def tb_r_markF : aTb := fun mi i => none
def kc_r_markF : List (Nat × aK) := [(158, k_m_saysAt), (160, k_m_loses), (161, k_m_worth), (163, k_m_covers), (222, k_m_counts), (159, k_m_gains), (147, k_m_manyIn), (175, k_m_falseOf), (178, k_m_joinBy), (180, k_m_doClash), (182, k_m_laidOnes), (183, k_m_coveredBy), (184, k_m_findClashing), (185, k_m_areAtPeace), (188, k_m_otherwiseAt), (193, k_m_allTrust), (190, k_m_goesOn), (191, k_m_goesOnMany)]
set_option maxRecDepth 100000 in
set_option maxHeartbeats 40000000 in
theorem ck_r_markF : kchk prog HT kc_r_markF tb_r_markF 98 228 k_r_markF = true := sorry
theorem kg_r_markF {E : pX} : KGi E pV1 JT 228 k_r_markF := kgi_of JT_P (by decide) ck_r_markF (by unfold kc_r_markF; exact (List.forall_mem_cons.mpr ⟨kg_m_saysAt JT_P hands, (List.forall_mem_cons.mpr ⟨kg_m_loses JT_P hands, (List.forall_mem_cons.mpr ⟨kg_m_worth JT_P hands, (List.forall_mem_cons.mpr ⟨kg_m_covers JT_P hands, (List.forall_mem_cons.mpr ⟨kg_m_counts JT_P hands, (List.forall_mem_cons.mpr ⟨kg_m_gains hands, (List.forall_mem_cons.mpr ⟨kg_m_manyIn hands, (List.forall_mem_cons.mpr ⟨kg_m_falseOf JT_P hands, (List.forall_mem_cons.mpr ⟨kg_m_joinBy JT_P hands, (List.forall_mem_cons.mpr ⟨kg_m_doClash JT_P hands, (List.forall_mem_cons.mpr ⟨kg_m_laidOnes JT_P hands, (List.forall_mem_cons.mpr ⟨kg_m_coveredBy JT_P hands, (List.forall_mem_cons.mpr ⟨kg_m_findClashing JT_P hands, (List.forall_mem_cons.mpr ⟨kg_m_areAtPeace JT_P hands, (List.forall_mem_cons.mpr ⟨kg_m_otherwiseAt JT_P hands, (List.forall_mem_cons.mpr ⟨kg_m_allTrust JT_P hands, (List.forall_mem_cons.mpr ⟨kg_m_goesOn JT_P hands, (List.forall_mem_cons.mpr ⟨kg_m_goesOnMany JT_P hands, (fun _ h => absurd h List.not_mem_nil)⟩)⟩)⟩)⟩)⟩)⟩)⟩)⟩)⟩)⟩)⟩)⟩)⟩)⟩)⟩)⟩)⟩)⟩))
def k_c_copyF : aK := ([.inr (false, [0]), .inl ((-2147483648), 2147483647), .inl ((-2147483648), 2147483647), .inl ((-2147483648), 2147483647), .inl ((-2147483648), 2147483647), .inl ((-2147483648), 2147483647)], some ((-2147483648), 2147483647), [(83, 83, 0, 23), (85, 85, 0, 23), (87, 87, 0, 23), (89, 89, 0, 23)], 50)
def tb_c_copyF : aTb := fun mi i => none
def kc_c_copyF : List (Nat × aK) := [(48, k_covers), (50, k_sayAt), (44, k_value), (54, k_gainOver), (55, k_loss), (56, k_worth), (49, k_covered), (57, k_joined), (58, k_clashes), (70, k_falsehood34), (71, k_trustOfAll34), (72, k_laidSet34), (73, k_coveredBy34), (77, k_deniers34), (80, k_gainOf34), (78, k_flow34), (75, k_noteClashes), (76, k_anyClash)]
set_option maxRecDepth 100000 in
set_option maxHeartbeats 40000000 in
theorem ck_c_copyF : kchk prog HT kc_c_copyF tb_c_copyF 130 121 k_c_copyF = true := sorry
theorem kg_c_copyF {E : pX} : KGi E pV1 JT 121 k_c_copyF := kgi_of JT_P (by decide) ck_c_copyF (by unfold kc_c_copyF; exact (List.forall_mem_cons.mpr ⟨kg_covers JT_P hands, (List.forall_mem_cons.mpr ⟨kg_sayAt JT_P hands, (List.forall_mem_cons.mpr ⟨kg_value JT_P hands, (List.forall_mem_cons.mpr ⟨kg_gainOver JT_P hands, (List.forall_mem_cons.mpr ⟨kg_loss JT_P hands, (List.forall_mem_cons.mpr ⟨kg_worth JT_P hands, (List.forall_mem_cons.mpr ⟨kg_covered JT_P hands, (List.forall_mem_cons.mpr ⟨kg_joined JT_P hands, (List.forall_mem_cons.mpr ⟨kg_clashes JT_P hands, (List.forall_mem_cons.mpr ⟨kg_falsehood34 JT_P hands, (List.forall_mem_cons.mpr ⟨kg_trustOfAll34 JT_P hands, (List.forall_mem_cons.mpr ⟨kg_laidSet34 JT_P hands, (List.forall_mem_cons.mpr ⟨kg_coveredBy34 JT_P hands, (List.forall_mem_cons.mpr ⟨kg_deniers34 JT_P hands, (List.forall_mem_cons.mpr ⟨kg_gainOf34 JT_P hands, (List.forall_mem_cons.mpr ⟨kg_flow34 JT_P hands, (List.forall_mem_cons.mpr ⟨kg_noteClashes JT_P hands, (List.forall_mem_cons.mpr ⟨kg_anyClash JT_P hands, (fun _ h => absurd h List.not_mem_nil)⟩)⟩)⟩)⟩)⟩)⟩)⟩)⟩)⟩)⟩)⟩)⟩)⟩)⟩)⟩)⟩)⟩)⟩))
def k_c_sayF : aK := ([.inr (false, [39, 40, 41, 42, 43, 44, 45, 46, 47]), .inl ((-2147483648), 2147483647)], some (0, 3), [], 10)
def tb_c_sayF : aTb := fun mi i => none
def kc_c_sayF : List (Nat × aK) := []
set_option maxRecDepth 100000 in
set_option maxHeartbeats 40000000 in
theorem ck_c_sayF : kchk prog HT kc_c_sayF tb_c_sayF 57 50 k_c_sayF = true := sorry
theorem kg_c_sayF {E : pX} : KGi E pV1 JT 50 k_c_sayF := kgi_of JT_P (by decide) ck_c_sayF (by unfold kc_c_sayF; exact (fun _ h => absurd h List.not_mem_nil))
def tp_rubbing0 : aTb := fun mi i => none
def rp_rubbing0 : List pq := [((8, 34, 5), (0, 111, 0), 0, 0)]
set_option maxRecDepth 100000 in
set_option maxHeartbeats 40000000 in
theorem cp_rubbing0 : prchk RL CL rp_rubbing0 [(34, 34, 5, 5), (39, 39, 0, 5), (111, 111, 0, 0), (111, 111, 21, 26)] [] tp_rubbing0 324 86 156 3 [((-2147483648), 2147483647), ((-2147483648), 2147483647), ((-2147483648), 2147483647)] [] = true := sorry
def tp_rubbing1 : aTb := fun mi i => none
def rp_rubbing1 : List pq := [((8, 34, 5), (0, 111, 0), 1, 1)]
set_option maxRecDepth 100000 in
set_option maxHeartbeats 40000000 in
theorem cp_rubbing1 : prchk RL CL rp_rubbing1 [(34, 34, 5, 5), (40, 40, 0, 5), (111, 111, 0, 0), (111, 111, 27, 32)] [] tp_rubbing1 324 86 156 3 [((-2147483648), 2147483647), ((-2147483648), 2147483647), ((-2147483648), 2147483647)] [] = true := sorry
def tp_rubbing2 : aTb := fun mi i => none
def rp_rubbing2 : List pq := [((8, 34, 5), (0, 111, 0), 2, 2)]
set_option maxRecDepth 100000 in
set_option maxHeartbeats 40000000 in
theorem cp_rubbing2 : prchk RL CL rp_rubbing2 [(34, 34, 5, 5), (41, 41, 0, 5), (111, 111, 0, 0), (111, 111, 33, 38)] [] tp_rubbing2 324 86 156 3 [((-2147483648), 2147483647), ((-2147483648), 2147483647), ((-2147483648), 2147483647)] [] = true := sorry
def tp_rubbing3 : aTb := fun mi i => none
def rp_rubbing3 : List pq := [((8, 34, 5), (0, 111, 0), 3, 3)]
set_option maxRecDepth 100000 in
set_option maxHeartbeats 40000000 in
theorem cp_rubbing3 : prchk RL CL rp_rubbing3 [(34, 34, 5, 5), (42, 42, 0, 5), (111, 111, 0, 0), (111, 111, 39, 44)] [] tp_rubbing3 324 86 156 3 [((-2147483648), 2147483647), ((-2147483648), 2147483647), ((-2147483648), 2147483647)] [] = true := sorry
def tp_rubbing4 : aTb := fun mi i => none
def rp_rubbing4 : List pq := [((8, 34, 5), (0, 111, 0), 4, 4)]
set_option maxRecDepth 100000 in
set_option maxHeartbeats 40000000 in
theorem cp_rubbing4 : prchk RL CL rp_rubbing4 [(34, 34, 5, 5), (43, 43, 0, 5), (111, 111, 0, 0), (111, 111, 45, 50)] [] tp_rubbing4 324 86 156 3 [((-2147483648), 2147483647), ((-2147483648), 2147483647), ((-2147483648), 2147483647)] [] = true := sorry
def tp_rubbing5 : aTb := fun mi i => none
def rp_rubbing5 : List pq := [((8, 34, 5), (0, 111, 0), 5, 5)]
set_option maxRecDepth 100000 in
set_option maxHeartbeats 40000000 in
theorem cp_rubbing5 : prchk RL CL rp_rubbing5 [(34, 34, 5, 5), (44, 44, 0, 5), (111, 111, 0, 0), (111, 111, 51, 56)] [] tp_rubbing5 324 86 156 3 [((-2147483648), 2147483647), ((-2147483648), 2147483647), ((-2147483648), 2147483647)] [] = true := sorry
def tp_rubbing6 : aTb := fun mi i => none
def rp_rubbing6 : List pq := [((8, 34, 5), (0, 111, 0), 6, 6)]
set_option maxRecDepth 100000 in
set_option maxHeartbeats 40000000 in
theorem cp_rubbing6 : prchk RL CL rp_rubbing6 [(34, 34, 5, 5), (45, 45, 0, 5), (111, 111, 0, 0), (111, 111, 57, 62)] [] tp_rubbing6 324 86 156 3 [((-2147483648), 2147483647), ((-2147483648), 2147483647), ((-2147483648), 2147483647)] [] = true := sorry
def tp_rubbing7 : aTb := fun mi i => none
def rp_rubbing7 : List pq := [((8, 34, 5), (0, 111, 0), 7, 7)]
set_option maxRecDepth 100000 in
set_option maxHeartbeats 40000000 in
theorem cp_rubbing7 : prchk RL CL rp_rubbing7 [(34, 34, 5, 5), (46, 46, 0, 5), (111, 111, 0, 0), (111, 111, 63, 68)] [] tp_rubbing7 324 86 156 3 [((-2147483648), 2147483647), ((-2147483648), 2147483647), ((-2147483648), 2147483647)] [] = true := sorry
def tp_rubbing8 : aTb := fun mi i => none
def rp_rubbing8 : List pq := [((8, 34, 5), (0, 111, 0), 8, 8)]
set_option maxRecDepth 100000 in
set_option maxHeartbeats 40000000 in
theorem cp_rubbing8 : prchk RL CL rp_rubbing8 [(34, 34, 5, 5), (47, 47, 0, 5), (111, 111, 0, 0), (111, 111, 69, 74)] [] tp_rubbing8 324 86 156 3 [((-2147483648), 2147483647), ((-2147483648), 2147483647), ((-2147483648), 2147483647)] [] = true := sorry
def tp_rubbing9 : aTb := fun mi i => none
def rp_rubbing9 : List pq := [((8, 34, 5), (0, 111, 0), 9, 9)]
set_option maxRecDepth 100000 in
set_option maxHeartbeats 40000000 in
theorem cp_rubbing9 : prchk RL CL rp_rubbing9 [] [] tp_rubbing9 133 86 156 3 [((-2147483648), 2147483647), ((-2147483648), 2147483647), ((-2147483648), 2147483647)] [] = true := sorry
def tp_deall : aTb := fun mi i => none
def rp_deall : List pq := []
set_option maxRecDepth 100000 in
set_option maxHeartbeats 40000000 in
theorem cp_deall : prchk RL CL rp_deall [] [] tp_deall 39 94 173 1 [((-2147483648), 0)] [] = true := sorry
def tp_dealh : aTb := fun mi i => none
def rp_dealh : List pq := []
set_option maxRecDepth 100000 in
set_option maxHeartbeats 40000000 in
theorem cp_dealh : prchk RL CL rp_dealh [] [] tp_dealh 46 94 173 1 [(10, 2147483647)] [] = true := sorry
def tp_turns0n : aTb := fun mi i => none
def rp_turns0n : List pq := [((8, 34, 5), (0, 111, 0), 0, 0)]
set_option maxRecDepth 100000 in
set_option maxHeartbeats 40000000 in
theorem cp_turns0n : podchk RL CL rp_turns0n [] [] tp_turns0n 62 90 168 2 [(0, 0), ((-2147483648), 2147483647)] [] = true := sorry
def tp_turns0y : aTb := fun mi i => none
def rp_turns0y : List pq := [((8, 34, 5), (0, 111, 0), 1, 9), ((6, 39, 0), (0, 111, 21), (-2147483648), 2147483647)]
set_option maxRecDepth 100000 in
set_option maxHeartbeats 40000000 in
theorem cp_turns0y : podchk RL CL rp_turns0y [(39, 39, 0, 0), (111, 111, 21, 21)] [] tp_turns0y 132 90 168 2 [(0, 0), ((-2147483648), 2147483647)] [] = true := sorry
def tp_turns1n : aTb := fun mi i => none
def rp_turns1n : List pq := [((8, 34, 5), (0, 111, 0), 0, 1)]
set_option maxRecDepth 100000 in
set_option maxHeartbeats 40000000 in
theorem cp_turns1n : podchk RL CL rp_turns1n [] [] tp_turns1n 62 90 168 2 [(1, 1), ((-2147483648), 2147483647)] [] = true := sorry
def tp_turns1y : aTb := fun mi i => none
def rp_turns1y : List pq := [((8, 34, 5), (0, 111, 0), 2, 9), ((6, 40, 0), (0, 111, 27), (-2147483648), 2147483647)]
set_option maxRecDepth 100000 in
set_option maxHeartbeats 40000000 in
theorem cp_turns1y : podchk RL CL rp_turns1y [(40, 40, 0, 0), (111, 111, 27, 27)] [] tp_turns1y 132 90 168 2 [(1, 1), ((-2147483648), 2147483647)] [] = true := sorry
def tp_turns2n : aTb := fun mi i => none
def rp_turns2n : List pq := [((8, 34, 5), (0, 111, 0), 0, 2)]
set_option maxRecDepth 100000 in
set_option maxHeartbeats 40000000 in
theorem cp_turns2n : podchk RL CL rp_turns2n [] [] tp_turns2n 62 90 168 2 [(2, 2), ((-2147483648), 2147483647)] [] = true := sorry
def tp_turns2y : aTb := fun mi i => none
def rp_turns2y : List pq := [((8, 34, 5), (0, 111, 0), 3, 9), ((6, 41, 0), (0, 111, 33), (-2147483648), 2147483647)]
set_option maxRecDepth 100000 in
set_option maxHeartbeats 40000000 in
theorem cp_turns2y : podchk RL CL rp_turns2y [(41, 41, 0, 0), (111, 111, 33, 33)] [] tp_turns2y 132 90 168 2 [(2, 2), ((-2147483648), 2147483647)] [] = true := sorry
def tp_turns3n : aTb := fun mi i => none
def rp_turns3n : List pq := [((8, 34, 5), (0, 111, 0), 0, 3)]
set_option maxRecDepth 100000 in
set_option maxHeartbeats 40000000 in
theorem cp_turns3n : podchk RL CL rp_turns3n [] [] tp_turns3n 62 90 168 2 [(3, 3), ((-2147483648), 2147483647)] [] = true := sorry
def tp_turns3y : aTb := fun mi i => none
def rp_turns3y : List pq := [((8, 34, 5), (0, 111, 0), 4, 9), ((6, 42, 0), (0, 111, 39), (-2147483648), 2147483647)]
set_option maxRecDepth 100000 in
set_option maxHeartbeats 40000000 in
theorem cp_turns3y : podchk RL CL rp_turns3y [(42, 42, 0, 0), (111, 111, 39, 39)] [] tp_turns3y 132 90 168 2 [(3, 3), ((-2147483648), 2147483647)] [] = true := sorry
def tp_turns4n : aTb := fun mi i => none
def rp_turns4n : List pq := [((8, 34, 5), (0, 111, 0), 0, 4)]
set_option maxRecDepth 100000 in
set_option maxHeartbeats 40000000 in
theorem cp_turns4n : podchk RL CL rp_turns4n [] [] tp_turns4n 62 90 168 2 [(4, 4), ((-2147483648), 2147483647)] [] = true := sorry
def tp_turns4y : aTb := fun mi i => none
def rp_turns4y : List pq := [((8, 34, 5), (0, 111, 0), 5, 9), ((6, 43, 0), (0, 111, 45), (-2147483648), 2147483647)]
set_option maxRecDepth 100000 in
set_option maxHeartbeats 40000000 in
theorem cp_turns4y : podchk RL CL rp_turns4y [(43, 43, 0, 0), (111, 111, 45, 45)] [] tp_turns4y 132 90 168 2 [(4, 4), ((-2147483648), 2147483647)] [] = true := sorry
def tp_turns5n : aTb := fun mi i => none
def rp_turns5n : List pq := [((8, 34, 5), (0, 111, 0), 0, 5)]
set_option maxRecDepth 100000 in
set_option maxHeartbeats 40000000 in
theorem cp_turns5n : podchk RL CL rp_turns5n [] [] tp_turns5n 62 90 168 2 [(5, 5), ((-2147483648), 2147483647)] [] = true := sorry
def tp_turns5y : aTb := fun mi i => none
def rp_turns5y : List pq := [((8, 34, 5), (0, 111, 0), 6, 9), ((6, 44, 0), (0, 111, 51), (-2147483648), 2147483647)]
set_option maxRecDepth 100000 in
set_option maxHeartbeats 40000000 in
theorem cp_turns5y : podchk RL CL rp_turns5y [(44, 44, 0, 0), (111, 111, 51, 51)] [] tp_turns5y 132 90 168 2 [(5, 5), ((-2147483648), 2147483647)] [] = true := sorry
def tp_turns6n : aTb := fun mi i => none
def rp_turns6n : List pq := [((8, 34, 5), (0, 111, 0), 0, 6)]
set_option maxRecDepth 100000 in
set_option maxHeartbeats 40000000 in
theorem cp_turns6n : podchk RL CL rp_turns6n [] [] tp_turns6n 62 90 168 2 [(6, 6), ((-2147483648), 2147483647)] [] = true := sorry
def tp_turns6y : aTb := fun mi i => none
def rp_turns6y : List pq := [((8, 34, 5), (0, 111, 0), 7, 9), ((6, 45, 0), (0, 111, 57), (-2147483648), 2147483647)]
set_option maxRecDepth 100000 in
set_option maxHeartbeats 40000000 in
theorem cp_turns6y : podchk RL CL rp_turns6y [(45, 45, 0, 0), (111, 111, 57, 57)] [] tp_turns6y 132 90 168 2 [(6, 6), ((-2147483648), 2147483647)] [] = true := sorry
def tp_turns7n : aTb := fun mi i => none
def rp_turns7n : List pq := [((8, 34, 5), (0, 111, 0), 0, 7)]
set_option maxRecDepth 100000 in
set_option maxHeartbeats 40000000 in
theorem cp_turns7n : podchk RL CL rp_turns7n [] [] tp_turns7n 62 90 168 2 [(7, 7), ((-2147483648), 2147483647)] [] = true := sorry
def tp_turns7y : aTb := fun mi i => none
def rp_turns7y : List pq := [((8, 34, 5), (0, 111, 0), 8, 9), ((6, 46, 0), (0, 111, 63), (-2147483648), 2147483647)]
set_option maxRecDepth 100000 in
set_option maxHeartbeats 40000000 in
theorem cp_turns7y : podchk RL CL rp_turns7y [(46, 46, 0, 0), (111, 111, 63, 63)] [] tp_turns7y 132 90 168 2 [(7, 7), ((-2147483648), 2147483647)] [] = true := sorry
def tp_turns8n : aTb := fun mi i => none
def rp_turns8n : List pq := [((8, 34, 5), (0, 111, 0), 0, 8)]
set_option maxRecDepth 100000 in
set_option maxHeartbeats 40000000 in
theorem cp_turns8n : podchk RL CL rp_turns8n [] [] tp_turns8n 62 90 168 2 [(8, 8), ((-2147483648), 2147483647)] [] = true := sorry
def tp_turns8y : aTb := fun mi i => none
def rp_turns8y : List pq := [((8, 34, 5), (0, 111, 0), 9, 9), ((6, 47, 0), (0, 111, 69), (-2147483648), 2147483647)]
set_option maxRecDepth 100000 in
set_option maxHeartbeats 40000000 in
theorem cp_turns8y : podchk RL CL rp_turns8y [(47, 47, 0, 0), (111, 111, 69, 69)] [] tp_turns8y 132 90 168 2 [(8, 8), ((-2147483648), 2147483647)] [] = true := sorry
def tp_turnsl : aTb := fun mi i => none
def rp_turnsl : List pq := []
set_option maxRecDepth 100000 in
set_option maxHeartbeats 40000000 in
theorem cp_turnsl : podchk RL CL rp_turnsl [] [] tp_turnsl 54 90 168 2 [((-2147483648), (-1)), ((-2147483648), 2147483647)] [] = true := sorry
def tp_turnsh : aTb := fun mi i => none
def rp_turnsh : List pq := []
set_option maxRecDepth 100000 in
set_option maxHeartbeats 40000000 in
theorem cp_turnsh : podchk RL CL rp_turnsh [] [] tp_turnsh 62 90 168 2 [(9, 2147483647), ((-2147483648), 2147483647)] [] = true := sorry
def tp_set0n : aTb := fun mi i => none
def rp_set0n : List pq := [((8, 34, 5), (0, 111, 0), 0, 0)]
set_option maxRecDepth 100000 in
set_option maxHeartbeats 40000000 in
theorem cp_set0n : podchk RL CL rp_set0n [] [] tp_set0n 64 91 170 3 [(0, 0), ((-2147483648), 2147483647), ((-2147483648), 2147483647)] [] = true := sorry
def tp_set0y : aTb := fun mi i => none
def rp_set0y : List pq := [((8, 34, 5), (0, 111, 0), 1, 9), ((6, 39, 1), (0, 111, 22), (-2147483648), 2147483647), ((6, 39, 2), (0, 111, 23), 1, 8), ((6, 39, 3), (0, 111, 24), (-2147483648), 2147483647)]
set_option maxRecDepth 100000 in
set_option maxHeartbeats 40000000 in
theorem cp_set0y : podchk RL CL rp_set0y [(39, 39, 1, 5), (111, 111, 22, 26)] [] tp_set0y 202 91 170 3 [(0, 0), ((-2147483648), 2147483647), ((-2147483648), 2147483647)] [] = true := sorry
def tp_set1n : aTb := fun mi i => none
def rp_set1n : List pq := [((8, 34, 5), (0, 111, 0), 0, 1)]
set_option maxRecDepth 100000 in
set_option maxHeartbeats 40000000 in
theorem cp_set1n : podchk RL CL rp_set1n [] [] tp_set1n 64 91 170 3 [(1, 1), ((-2147483648), 2147483647), ((-2147483648), 2147483647)] [] = true := sorry
def tp_set1y : aTb := fun mi i => none
def rp_set1y : List pq := [((8, 34, 5), (0, 111, 0), 2, 9), ((6, 40, 1), (0, 111, 28), (-2147483648), 2147483647), ((6, 40, 2), (0, 111, 29), 1, 8), ((6, 40, 3), (0, 111, 30), (-2147483648), 2147483647)]
set_option maxRecDepth 100000 in
set_option maxHeartbeats 40000000 in
theorem cp_set1y : podchk RL CL rp_set1y [(40, 40, 1, 5), (111, 111, 28, 32)] [] tp_set1y 202 91 170 3 [(1, 1), ((-2147483648), 2147483647), ((-2147483648), 2147483647)] [] = true := sorry
def tp_set2n : aTb := fun mi i => none
def rp_set2n : List pq := [((8, 34, 5), (0, 111, 0), 0, 2)]
set_option maxRecDepth 100000 in
set_option maxHeartbeats 40000000 in
theorem cp_set2n : podchk RL CL rp_set2n [] [] tp_set2n 64 91 170 3 [(2, 2), ((-2147483648), 2147483647), ((-2147483648), 2147483647)] [] = true := sorry
/-! ===== products, further ===== -/
def tp_set2y : aTb := fun mi i => none
def rp_set2y : List pq := [((8, 34, 5), (0, 111, 0), 3, 9), ((6, 41, 1), (0, 111, 34), (-2147483648), 2147483647), ((6, 41, 2), (0, 111, 35), 1, 8), ((6, 41, 3), (0, 111, 36), (-2147483648), 2147483647)]
set_option maxRecDepth 100000 in
set_option maxHeartbeats 40000000 in
theorem cp_set2y : podchk RL CL rp_set2y [(41, 41, 1, 5), (111, 111, 34, 38)] [] tp_set2y 202 91 170 3 [(2, 2), ((-2147483648), 2147483647), ((-2147483648), 2147483647)] [] = true := sorry
def tp_set3n : aTb := fun mi i => none
def rp_set3n : List pq := [((8, 34, 5), (0, 111, 0), 0, 3)]
set_option maxRecDepth 100000 in
set_option maxHeartbeats 40000000 in
theorem cp_set3n : podchk RL CL rp_set3n [] [] tp_set3n 64 91 170 3 [(3, 3), ((-2147483648), 2147483647), ((-2147483648), 2147483647)] [] = true := sorry
def tp_set3y : aTb := fun mi i => none
def rp_set3y : List pq := [((8, 34, 5), (0, 111, 0), 4, 9), ((6, 42, 1), (0, 111, 40), (-2147483648), 2147483647), ((6, 42, 2), (0, 111, 41), 1, 8), ((6, 42, 3), (0, 111, 42), (-2147483648), 2147483647)]
set_option maxRecDepth 100000 in
set_option maxHeartbeats 40000000 in
theorem cp_set3y : podchk RL CL rp_set3y [(42, 42, 1, 5), (111, 111, 40, 44)] [] tp_set3y 202 91 170 3 [(3, 3), ((-2147483648), 2147483647), ((-2147483648), 2147483647)] [] = true := sorry
def tp_set4n : aTb := fun mi i => none
def rp_set4n : List pq := [((8, 34, 5), (0, 111, 0), 0, 4)]
set_option maxRecDepth 100000 in
set_option maxHeartbeats 40000000 in
theorem cp_set4n : podchk RL CL rp_set4n [] [] tp_set4n 64 91 170 3 [(4, 4), ((-2147483648), 2147483647), ((-2147483648), 2147483647)] [] = true := sorry
def tp_set4y : aTb := fun mi i => none
def rp_set4y : List pq := [((8, 34, 5), (0, 111, 0), 5, 9), ((6, 43, 1), (0, 111, 46), (-2147483648), 2147483647), ((6, 43, 2), (0, 111, 47), 1, 8), ((6, 43, 3), (0, 111, 48), (-2147483648), 2147483647)]
set_option maxRecDepth 100000 in
set_option maxHeartbeats 40000000 in
theorem cp_set4y : podchk RL CL rp_set4y [(43, 43, 1, 5), (111, 111, 46, 50)] [] tp_set4y 202 91 170 3 [(4, 4), ((-2147483648), 2147483647), ((-2147483648), 2147483647)] [] = true := sorry
def tp_set5n : aTb := fun mi i => none
def rp_set5n : List pq := [((8, 34, 5), (0, 111, 0), 0, 5)]
set_option maxRecDepth 100000 in
set_option maxHeartbeats 40000000 in
theorem cp_set5n : podchk RL CL rp_set5n [] [] tp_set5n 64 91 170 3 [(5, 5), ((-2147483648), 2147483647), ((-2147483648), 2147483647)] [] = true := sorry
def tp_set5y : aTb := fun mi i => none
def rp_set5y : List pq := [((8, 34, 5), (0, 111, 0), 6, 9), ((6, 44, 1), (0, 111, 52), (-2147483648), 2147483647), ((6, 44, 2), (0, 111, 53), 1, 8), ((6, 44, 3), (0, 111, 54), (-2147483648), 2147483647)]
set_option maxRecDepth 100000 in
set_option maxHeartbeats 40000000 in
theorem cp_set5y : podchk RL CL rp_set5y [(44, 44, 1, 5), (111, 111, 52, 56)] [] tp_set5y 202 91 170 3 [(5, 5), ((-2147483648), 2147483647), ((-2147483648), 2147483647)] [] = true := sorry
def tp_set6n : aTb := fun mi i => none
def rp_set6n : List pq := [((8, 34, 5), (0, 111, 0), 0, 6)]
set_option maxRecDepth 100000 in
set_option maxHeartbeats 40000000 in
theorem cp_set6n : podchk RL CL rp_set6n [] [] tp_set6n 64 91 170 3 [(6, 6), ((-2147483648), 2147483647), ((-2147483648), 2147483647)] [] = true := sorry
def tp_set6y : aTb := fun mi i => none
def rp_set6y : List pq := [((8, 34, 5), (0, 111, 0), 7, 9), ((6, 45, 1), (0, 111, 58), (-2147483648), 2147483647), ((6, 45, 2), (0, 111, 59), 1, 8), ((6, 45, 3), (0, 111, 60), (-2147483648), 2147483647)]
set_option maxRecDepth 100000 in
set_option maxHeartbeats 40000000 in
theorem cp_set6y : podchk RL CL rp_set6y [(45, 45, 1, 5), (111, 111, 58, 62)] [] tp_set6y 202 91 170 3 [(6, 6), ((-2147483648), 2147483647), ((-2147483648), 2147483647)] [] = true := sorry
def tp_set7n : aTb := fun mi i => none
def rp_set7n : List pq := [((8, 34, 5), (0, 111, 0), 0, 7)]
set_option maxRecDepth 100000 in
set_option maxHeartbeats 40000000 in
theorem cp_set7n : podchk RL CL rp_set7n [] [] tp_set7n 64 91 170 3 [(7, 7), ((-2147483648), 2147483647), ((-2147483648), 2147483647)] [] = true := sorry
def tp_set7y : aTb := fun mi i => none
def rp_set7y : List pq := [((8, 34, 5), (0, 111, 0), 8, 9), ((6, 46, 1), (0, 111, 64), (-2147483648), 2147483647), ((6, 46, 2), (0, 111, 65), 1, 8), ((6, 46, 3), (0, 111, 66), (-2147483648), 2147483647)]
set_option maxRecDepth 100000 in
set_option maxHeartbeats 40000000 in
theorem cp_set7y : podchk RL CL rp_set7y [(46, 46, 1, 5), (111, 111, 64, 68)] [] tp_set7y 202 91 170 3 [(7, 7), ((-2147483648), 2147483647), ((-2147483648), 2147483647)] [] = true := sorry
def tp_set8n : aTb := fun mi i => none
def rp_set8n : List pq := [((8, 34, 5), (0, 111, 0), 0, 8)]
set_option maxRecDepth 100000 in
set_option maxHeartbeats 40000000 in
theorem cp_set8n : podchk RL CL rp_set8n [] [] tp_set8n 64 91 170 3 [(8, 8), ((-2147483648), 2147483647), ((-2147483648), 2147483647)] [] = true := sorry
def tp_set8y : aTb := fun mi i => none
def rp_set8y : List pq := [((8, 34, 5), (0, 111, 0), 9, 9), ((6, 47, 1), (0, 111, 70), (-2147483648), 2147483647), ((6, 47, 2), (0, 111, 71), 1, 8), ((6, 47, 3), (0, 111, 72), (-2147483648), 2147483647)]
set_option maxRecDepth 100000 in
set_option maxHeartbeats 40000000 in
theorem cp_set8y : podchk RL CL rp_set8y [(47, 47, 1, 5), (111, 111, 70, 74)] [] tp_set8y 202 91 170 3 [(8, 8), ((-2147483648), 2147483647), ((-2147483648), 2147483647)] [] = true := sorry
def tp_setl : aTb := fun mi i => none
def rp_setl : List pq := []
set_option maxRecDepth 100000 in
set_option maxHeartbeats 40000000 in
theorem cp_setl : podchk RL CL rp_setl [] [] tp_setl 56 91 170 3 [((-2147483648), (-1)), ((-2147483648), 2147483647), ((-2147483648), 2147483647)] [] = true := sorry
def tp_seth : aTb := fun mi i => none
def rp_seth : List pq := []
set_option maxRecDepth 100000 in
set_option maxHeartbeats 40000000 in
theorem cp_seth : podchk RL CL rp_seth [] [] tp_seth 64 91 170 3 [(9, 2147483647), ((-2147483648), 2147483647), ((-2147483648), 2147483647)] [] = true := sorry
def tp_seed : aTb := fun mi i => none
def rp_seed : List pq := [((8, 34, 9), (0, 111, 4), (-2147483648), 2147483647)]
set_option maxRecDepth 100000 in
set_option maxHeartbeats 40000000 in
theorem cp_seed : prchk RL CL rp_seed [(34, 34, 9, 9), (111, 111, 4, 4)] [] tp_seed 40 95 174 1 [((-2147483648), 2147483647)] [] = true := sorry
def tp_tidesl : aTb := fun mi i => none
def rp_tidesl : List pq := []
set_option maxRecDepth 100000 in
set_option maxHeartbeats 40000000 in
theorem cp_tidesl : prchk RL CL rp_tidesl [] [] tp_tidesl 39 103 192 1 [((-2147483648), 0)] [] = true := sorry
def tp_tidesh : aTb := fun mi i => none
def rp_tidesh : List pq := []
set_option maxRecDepth 100000 in
set_option maxHeartbeats 40000000 in
theorem cp_tidesh : prchk RL CL rp_tidesh [] [] tp_tidesh 46 103 192 1 [(101, 2147483647)] [] = true := sorry
def tp_sheet0_0 : aTb := fun mi i => none
def rp_sheet0_0 : List pq := []
set_option maxRecDepth 100000 in
set_option maxHeartbeats 40000000 in
theorem cp_sheet0_0 : prchk RL CL rp_sheet0_0 [] [] tp_sheet0_0 82 117 227 3 [(0, 0), ((-2147483648), (-2)), ((-2147483648), 2147483647)] [] = true := sorry
/-! ===== products, further ===== -/
def tp_sheet0_1 : aTb := fun mi i => none
def rp_sheet0_1 : List pq := [((5, 82, 1), (0, 114, 0), (-1), 1), ((5, 82, 2), (0, 115, 0), 0, 24)]
set_option maxRecDepth 100000 in
set_option maxHeartbeats 40000000 in
theorem cp_sheet0_1 : prchk RL CL rp_sheet0_1 [(82, 82, 1, 2), (83, 83, 0, 23), (114, 114, 0, 0), (115, 115, 0, 0), (116, 116, 0, 23)] [] tp_sheet0_1 695 117 227 3 [(0, 0), ((-1), (-1)), ((-2147483648), 2147483647)] [] = true := sorry
def tp_sheet0_2 : aTb := fun mi i => none
def rp_sheet0_2 : List pq := []
set_option maxRecDepth 100000 in
set_option maxHeartbeats 40000000 in
theorem cp_sheet0_2 : prchk RL CL rp_sheet0_2 [] [] tp_sheet0_2 108 117 227 3 [(0, 0), (0, 0), ((-2147483648), (-1))] [] = true := sorry
def tp_sheet0_3 : aTb := fun mi i => none
def rp_sheet0_3 : List pq := [((5, 82, 1), (0, 114, 0), (-1), 1), ((5, 82, 2), (0, 115, 0), 0, 24)]
set_option maxRecDepth 100000 in
set_option maxHeartbeats 40000000 in
theorem cp_sheet0_3 : prchk RL CL rp_sheet0_3 [(82, 82, 1, 2), (83, 83, 0, 23), (114, 114, 0, 0), (115, 115, 0, 0), (116, 116, 0, 23)] [] tp_sheet0_3 704 117 227 3 [(0, 0), (0, 0), (0, 24)] [] = true := sorry
def tp_sheet0_4 : aTb := fun mi i => none
def rp_sheet0_4 : List pq := []
set_option maxRecDepth 100000 in
set_option maxHeartbeats 40000000 in
theorem cp_sheet0_4 : prchk RL CL rp_sheet0_4 [] [] tp_sheet0_4 102 117 227 3 [(0, 0), (0, 0), (25, 2147483647)] [] = true := sorry
def tp_sheet0_5 : aTb := fun mi i => none
def rp_sheet0_5 : List pq := []
set_option maxRecDepth 100000 in
set_option maxHeartbeats 40000000 in
theorem cp_sheet0_5 : prchk RL CL rp_sheet0_5 [] [] tp_sheet0_5 108 117 227 3 [(0, 0), (1, 1), ((-2147483648), (-1))] [] = true := sorry
def tp_sheet0_6 : aTb := fun mi i => none
def rp_sheet0_6 : List pq := [((5, 82, 1), (0, 114, 0), (-1), 1), ((5, 82, 2), (0, 115, 0), 0, 24)]
set_option maxRecDepth 100000 in
set_option maxHeartbeats 40000000 in
theorem cp_sheet0_6 : prchk RL CL rp_sheet0_6 [(82, 82, 1, 2), (83, 83, 0, 23), (114, 114, 0, 0), (115, 115, 0, 0), (116, 116, 0, 23)] [] tp_sheet0_6 704 117 227 3 [(0, 0), (1, 1), (0, 24)] [] = true := sorry
def tp_sheet0_7 : aTb := fun mi i => none
def rp_sheet0_7 : List pq := []
set_option maxRecDepth 100000 in
set_option maxHeartbeats 40000000 in
theorem cp_sheet0_7 : prchk RL CL rp_sheet0_7 [] [] tp_sheet0_7 102 117 227 3 [(0, 0), (1, 1), (25, 2147483647)] [] = true := sorry
def tp_sheet0_8 : aTb := fun mi i => none
def rp_sheet0_8 : List pq := []
set_option maxRecDepth 100000 in
set_option maxHeartbeats 40000000 in
theorem cp_sheet0_8 : prchk RL CL rp_sheet0_8 [] [] tp_sheet0_8 89 117 227 3 [(0, 0), (2, 2147483647), ((-2147483648), 2147483647)] [] = true := sorry
def tp_sheet1_0 : aTb := fun mi i => none
def rp_sheet1_0 : List pq := []
set_option maxRecDepth 100000 in
set_option maxHeartbeats 40000000 in
theorem cp_sheet1_0 : prchk RL CL rp_sheet1_0 [] [] tp_sheet1_0 82 117 227 3 [(1, 1), ((-2147483648), (-2)), ((-2147483648), 2147483647)] [] = true := sorry
def tp_sheet1_1 : aTb := fun mi i => none
def rp_sheet1_1 : List pq := [((5, 84, 1), (0, 114, 1), (-1), 1), ((5, 84, 2), (0, 115, 1), 0, 24)]
set_option maxRecDepth 100000 in
set_option maxHeartbeats 40000000 in
theorem cp_sheet1_1 : prchk RL CL rp_sheet1_1 [(84, 84, 1, 2), (85, 85, 0, 23), (114, 114, 1, 1), (115, 115, 1, 1), (116, 116, 24, 47)] [] tp_sheet1_1 695 117 227 3 [(1, 1), ((-1), (-1)), ((-2147483648), 2147483647)] [] = true := sorry
def tp_sheet1_2 : aTb := fun mi i => none
def rp_sheet1_2 : List pq := []
set_option maxRecDepth 100000 in
set_option maxHeartbeats 40000000 in
theorem cp_sheet1_2 : prchk RL CL rp_sheet1_2 [] [] tp_sheet1_2 108 117 227 3 [(1, 1), (0, 0), ((-2147483648), (-1))] [] = true := sorry
def tp_sheet1_3 : aTb := fun mi i => none
def rp_sheet1_3 : List pq := [((5, 84, 1), (0, 114, 1), (-1), 1), ((5, 84, 2), (0, 115, 1), 0, 24)]
set_option maxRecDepth 100000 in
set_option maxHeartbeats 40000000 in
theorem cp_sheet1_3 : prchk RL CL rp_sheet1_3 [(84, 84, 1, 2), (85, 85, 0, 23), (114, 114, 1, 1), (115, 115, 1, 1), (116, 116, 24, 47)] [] tp_sheet1_3 704 117 227 3 [(1, 1), (0, 0), (0, 24)] [] = true := sorry
def tp_sheet1_4 : aTb := fun mi i => none
def rp_sheet1_4 : List pq := []
set_option maxRecDepth 100000 in
set_option maxHeartbeats 40000000 in
theorem cp_sheet1_4 : prchk RL CL rp_sheet1_4 [] [] tp_sheet1_4 102 117 227 3 [(1, 1), (0, 0), (25, 2147483647)] [] = true := sorry
def tp_sheet1_5 : aTb := fun mi i => none
def rp_sheet1_5 : List pq := []
set_option maxRecDepth 100000 in
set_option maxHeartbeats 40000000 in
theorem cp_sheet1_5 : prchk RL CL rp_sheet1_5 [] [] tp_sheet1_5 108 117 227 3 [(1, 1), (1, 1), ((-2147483648), (-1))] [] = true := sorry
def tp_sheet1_6 : aTb := fun mi i => none
def rp_sheet1_6 : List pq := [((5, 84, 1), (0, 114, 1), (-1), 1), ((5, 84, 2), (0, 115, 1), 0, 24)]
set_option maxRecDepth 100000 in
set_option maxHeartbeats 40000000 in
theorem cp_sheet1_6 : prchk RL CL rp_sheet1_6 [(84, 84, 1, 2), (85, 85, 0, 23), (114, 114, 1, 1), (115, 115, 1, 1), (116, 116, 24, 47)] [] tp_sheet1_6 704 117 227 3 [(1, 1), (1, 1), (0, 24)] [] = true := sorry
def tp_sheet1_7 : aTb := fun mi i => none
def rp_sheet1_7 : List pq := []
set_option maxRecDepth 100000 in
set_option maxHeartbeats 40000000 in
theorem cp_sheet1_7 : prchk RL CL rp_sheet1_7 [] [] tp_sheet1_7 102 117 227 3 [(1, 1), (1, 1), (25, 2147483647)] [] = true := sorry
def tp_sheet1_8 : aTb := fun mi i => none
def rp_sheet1_8 : List pq := []
set_option maxRecDepth 100000 in
set_option maxHeartbeats 40000000 in
theorem cp_sheet1_8 : prchk RL CL rp_sheet1_8 [] [] tp_sheet1_8 89 117 227 3 [(1, 1), (2, 2147483647), ((-2147483648), 2147483647)] [] = true := sorry
def tp_sheet2_0 : aTb := fun mi i => none
def rp_sheet2_0 : List pq := []
set_option maxRecDepth 100000 in
set_option maxHeartbeats 40000000 in
theorem cp_sheet2_0 : prchk RL CL rp_sheet2_0 [] [] tp_sheet2_0 82 117 227 3 [(2, 2), ((-2147483648), (-2)), ((-2147483648), 2147483647)] [] = true := sorry
def tp_sheet2_1 : aTb := fun mi i => none
def rp_sheet2_1 : List pq := [((5, 86, 1), (0, 114, 2), (-1), 1), ((5, 86, 2), (0, 115, 2), 0, 24)]
set_option maxRecDepth 100000 in
set_option maxHeartbeats 40000000 in
theorem cp_sheet2_1 : prchk RL CL rp_sheet2_1 [(86, 86, 1, 2), (87, 87, 0, 23), (114, 114, 2, 2), (115, 115, 2, 2), (116, 116, 48, 71)] [] tp_sheet2_1 695 117 227 3 [(2, 2), ((-1), (-1)), ((-2147483648), 2147483647)] [] = true := sorry
def tp_sheet2_2 : aTb := fun mi i => none
def rp_sheet2_2 : List pq := []
set_option maxRecDepth 100000 in
set_option maxHeartbeats 40000000 in
theorem cp_sheet2_2 : prchk RL CL rp_sheet2_2 [] [] tp_sheet2_2 108 117 227 3 [(2, 2), (0, 0), ((-2147483648), (-1))] [] = true := sorry
def tp_sheet2_3 : aTb := fun mi i => none
def rp_sheet2_3 : List pq := [((5, 86, 1), (0, 114, 2), (-1), 1), ((5, 86, 2), (0, 115, 2), 0, 24)]
set_option maxRecDepth 100000 in
set_option maxHeartbeats 40000000 in
theorem cp_sheet2_3 : prchk RL CL rp_sheet2_3 [(86, 86, 1, 2), (87, 87, 0, 23), (114, 114, 2, 2), (115, 115, 2, 2), (116, 116, 48, 71)] [] tp_sheet2_3 704 117 227 3 [(2, 2), (0, 0), (0, 24)] [] = true := sorry
def tp_sheet2_4 : aTb := fun mi i => none
def rp_sheet2_4 : List pq := []
set_option maxRecDepth 100000 in
set_option maxHeartbeats 40000000 in
theorem cp_sheet2_4 : prchk RL CL rp_sheet2_4 [] [] tp_sheet2_4 102 117 227 3 [(2, 2), (0, 0), (25, 2147483647)] [] = true := sorry
def tp_sheet2_5 : aTb := fun mi i => none
def rp_sheet2_5 : List pq := []
set_option maxRecDepth 100000 in
set_option maxHeartbeats 40000000 in
theorem cp_sheet2_5 : prchk RL CL rp_sheet2_5 [] [] tp_sheet2_5 108 117 227 3 [(2, 2), (1, 1), ((-2147483648), (-1))] [] = true := sorry
def tp_sheet2_6 : aTb := fun mi i => none
def rp_sheet2_6 : List pq := [((5, 86, 1), (0, 114, 2), (-1), 1), ((5, 86, 2), (0, 115, 2), 0, 24)]
set_option maxRecDepth 100000 in
set_option maxHeartbeats 40000000 in
theorem cp_sheet2_6 : prchk RL CL rp_sheet2_6 [(86, 86, 1, 2), (87, 87, 0, 23), (114, 114, 2, 2), (115, 115, 2, 2), (116, 116, 48, 71)] [] tp_sheet2_6 704 117 227 3 [(2, 2), (1, 1), (0, 24)] [] = true := sorry
def tp_sheet2_7 : aTb := fun mi i => none
def rp_sheet2_7 : List pq := []
set_option maxRecDepth 100000 in
set_option maxHeartbeats 40000000 in
theorem cp_sheet2_7 : prchk RL CL rp_sheet2_7 [] [] tp_sheet2_7 102 117 227 3 [(2, 2), (1, 1), (25, 2147483647)] [] = true := sorry
def tp_sheet2_8 : aTb := fun mi i => none
def rp_sheet2_8 : List pq := []
set_option maxRecDepth 100000 in
set_option maxHeartbeats 40000000 in
theorem cp_sheet2_8 : prchk RL CL rp_sheet2_8 [] [] tp_sheet2_8 89 117 227 3 [(2, 2), (2, 2147483647), ((-2147483648), 2147483647)] [] = true := sorry
def tp_sheet3_0 : aTb := fun mi i => none
def rp_sheet3_0 : List pq := []
set_option maxRecDepth 100000 in
set_option maxHeartbeats 40000000 in
theorem cp_sheet3_0 : prchk RL CL rp_sheet3_0 [] [] tp_sheet3_0 82 117 227 3 [(3, 3), ((-2147483648), (-2)), ((-2147483648), 2147483647)] [] = true := sorry
def tp_sheet3_1 : aTb := fun mi i => none
def rp_sheet3_1 : List pq := [((5, 88, 1), (0, 114, 3), (-1), 1), ((5, 88, 2), (0, 115, 3), 0, 24)]
set_option maxRecDepth 100000 in
set_option maxHeartbeats 40000000 in
theorem cp_sheet3_1 : prchk RL CL rp_sheet3_1 [(88, 88, 1, 2), (89, 89, 0, 23), (114, 114, 3, 3), (115, 115, 3, 3), (116, 116, 72, 95)] [] tp_sheet3_1 695 117 227 3 [(3, 3), ((-1), (-1)), ((-2147483648), 2147483647)] [] = true := sorry
def tp_sheet3_2 : aTb := fun mi i => none
def rp_sheet3_2 : List pq := []
set_option maxRecDepth 100000 in
set_option maxHeartbeats 40000000 in
theorem cp_sheet3_2 : prchk RL CL rp_sheet3_2 [] [] tp_sheet3_2 108 117 227 3 [(3, 3), (0, 0), ((-2147483648), (-1))] [] = true := sorry
def tp_sheet3_3 : aTb := fun mi i => none
def rp_sheet3_3 : List pq := [((5, 88, 1), (0, 114, 3), (-1), 1), ((5, 88, 2), (0, 115, 3), 0, 24)]
set_option maxRecDepth 100000 in
set_option maxHeartbeats 40000000 in
theorem cp_sheet3_3 : prchk RL CL rp_sheet3_3 [(88, 88, 1, 2), (89, 89, 0, 23), (114, 114, 3, 3), (115, 115, 3, 3), (116, 116, 72, 95)] [] tp_sheet3_3 704 117 227 3 [(3, 3), (0, 0), (0, 24)] [] = true := sorry
def tp_sheet3_4 : aTb := fun mi i => none
def rp_sheet3_4 : List pq := []
set_option maxRecDepth 100000 in
set_option maxHeartbeats 40000000 in
theorem cp_sheet3_4 : prchk RL CL rp_sheet3_4 [] [] tp_sheet3_4 102 117 227 3 [(3, 3), (0, 0), (25, 2147483647)] [] = true := sorry
def tp_sheet3_5 : aTb := fun mi i => none
def rp_sheet3_5 : List pq := []
set_option maxRecDepth 100000 in
set_option maxHeartbeats 40000000 in
theorem cp_sheet3_5 : prchk RL CL rp_sheet3_5 [] [] tp_sheet3_5 108 117 227 3 [(3, 3), (1, 1), ((-2147483648), (-1))] [] = true := sorry
def tp_sheet3_6 : aTb := fun mi i => none
def rp_sheet3_6 : List pq := [((5, 88, 1), (0, 114, 3), (-1), 1), ((5, 88, 2), (0, 115, 3), 0, 24)]
set_option maxRecDepth 100000 in
set_option maxHeartbeats 40000000 in
theorem cp_sheet3_6 : prchk RL CL rp_sheet3_6 [(88, 88, 1, 2), (89, 89, 0, 23), (114, 114, 3, 3), (115, 115, 3, 3), (116, 116, 72, 95)] [] tp_sheet3_6 704 117 227 3 [(3, 3), (1, 1), (0, 24)] [] = true := sorry
def tp_sheet3_7 : aTb := fun mi i => none
def rp_sheet3_7 : List pq := []
set_option maxRecDepth 100000 in
set_option maxHeartbeats 40000000 in
theorem cp_sheet3_7 : prchk RL CL rp_sheet3_7 [] [] tp_sheet3_7 102 117 227 3 [(3, 3), (1, 1), (25, 2147483647)] [] = true := sorry
def tp_sheet3_8 : aTb := fun mi i => none
def rp_sheet3_8 : List pq := []
set_option maxRecDepth 100000 in
set_option maxHeartbeats 40000000 in
theorem cp_sheet3_8 : prchk RL CL rp_sheet3_8 [] [] tp_sheet3_8 89 117 227 3 [(3, 3), (2, 2147483647), ((-2147483648), 2147483647)] [] = true := sorry
def tp_sheetl : aTb := fun mi i => none
def rp_sheetl : List pq := []
set_option maxRecDepth 100000 in
set_option maxHeartbeats 40000000 in
theorem cp_sheetl : prchk RL CL rp_sheetl [] [] tp_sheetl 46 117 227 3 [((-2147483648), (-1)), ((-2147483648), 2147483647), ((-2147483648), 2147483647)] [] = true := sorry
def tp_sheeth : aTb := fun mi i => none
def rp_sheeth : List pq := []
set_option maxRecDepth 100000 in
set_option maxHeartbeats 40000000 in
theorem cp_sheeth : prchk RL CL rp_sheeth [] [] tp_sheeth 55 117 227 3 [(4, 2147483647), ((-2147483648), 2147483647), ((-2147483648), 2147483647)] [] = true := sorry
/-- a sheet made anew -/
def svC (a : Nat) : List (Nat × Nat × AV) := (List.range 24).map (fun j => (a, j, cn 0))
theorem svc_m {a j : Nat} (hj : j < 24) : (a, j, cn 0) ∈ svC a := List.mem_map.mpr ⟨j, List.mem_range.mpr hj, rfl⟩
theorem vb_row {h h1 h2 : List pC} {U : Nat} (vb : VB h) (gz : ∀ j : Nat, j < 24 → ri h1 (83 + 2 * U) j = 0) (f1 : Fr [(82 + 2 * U, 82 + 2 * U, 1, 2), (83 + 2 * U, 83 + 2 * U, 0, 23)] h h1) (f2 : Fr [(114, 114, 0, 3), (115, 115, 0, 3), (116, 116, 0, 95)] h1 h2) : VB h2 := fun u j hu hj24 => by
  rw [ri_fr (a := 83 + 2 * u) (i := j) f2 (nin_iff.mpr (by simp only [List.forall_mem_cons]; exact ⟨by omega, by omega, by omega, fun _ h => absurd h List.not_mem_nil⟩))]
  by_cases e : u = U
  · rw [e, gz j hj24]
    decide +kernel
  · rw [ri_fr (a := 83 + 2 * u) (i := j) f1 (nin_iff.mpr (by simp only [List.forall_mem_cons]; exact ⟨by omega, by omega, fun _ h => absurd h List.not_mem_nil⟩))]
    exact vb u j hu hj24
def to_keep0 : aTb := fun mi i => none
def ro_keep0 : List pq := [((8, 34, 5), (0, 111, 0), 0, 0), ((8, 34, 9), (0, 111, 4), (-2147483648), 2147483647), ((8, 34, 7), (0, 111, 2), (-2147483648), 2147483647)]
set_option maxRecDepth 100000 in
set_option maxHeartbeats 40000000 in
theorem ox_keep0 : oxchk ro_keep0 [(48, 48, 5, 9), (49, 49, 0, 15), (52, 52, 0, 2), (53, 61, 0, 5), (0, 0, 9, 9)] [] to_keep0 61 128 0 [] [] (fun _ C _ x => ecV [(48, 9, (1, 1, 0, 2)), (48, 7, (1, 1, 0, 3)), (48, 5, (0, 0, 0, 0)), (0, 9, (0, 1, 1, 0))] (some (0, 0, 0, 0)) C x) = true := sorry
def to_backy0 : aTb := fun mi i => none
def ro_backy0 : List pq := [((8, 48, 5), (0, 112, 0), 0, 0), ((8, 48, 9), (0, 112, 4), (-2147483648), 2147483647), ((8, 48, 7), (0, 112, 2), (-2147483648), 2147483647), ((9, 0, 9), (10, 110, 3), 1, 1)]
set_option maxRecDepth 100000 in
set_option maxHeartbeats 40000000 in
theorem ox_backy0 : oxchk ro_backy0 [(34, 34, 5, 9), (35, 35, 0, 15), (38, 38, 0, 2), (39, 47, 0, 5)] [] to_backy0 61 129 0 [] [] (fun _ C _ x => ecV [(34, 9, (1, 1, 0, 2)), (34, 7, (1, 1, 0, 3)), (34, 5, (0, 0, 0, 0))] (some (0, 0, 0, 0)) C x) = true := sorry
def to_keep1 : aTb := fun mi i => none
def ro_keep1 : List pq := [((8, 34, 5), (0, 111, 0), 1, 1), ((8, 34, 9), (0, 111, 4), (-2147483648), 2147483647), ((8, 34, 7), (0, 111, 2), (-2147483648), 2147483647), ((6, 39, 0), (0, 111, 21), (-2147483648), 2147483647), ((6, 39, 1), (0, 111, 22), (-2147483648), 2147483647), ((6, 39, 2), (0, 111, 23), 1, 8), ((6, 39, 3), (0, 111, 24), (-2147483648), 2147483647)]
set_option maxRecDepth 100000 in
set_option maxHeartbeats 40000000 in
theorem ox_keep1 : oxchk ro_keep1 [(48, 48, 5, 9), (49, 49, 0, 15), (52, 52, 0, 2), (53, 61, 0, 5), (0, 0, 9, 9)] [] to_keep1 139 128 0 [] [] (fun _ C _ x => ecV [(48, 9, (1, 1, 0, 2)), (48, 7, (1, 1, 0, 3)), (53, 0, (1, 1, 0, 4)), (53, 1, (1, 1, 0, 5)), (53, 2, (1, 1, 0, 6)), (53, 3, (1, 1, 0, 7)), (48, 5, (0, 1, 1, 0)), (0, 9, (0, 1, 1, 0))] (some (0, 1, 1, 0)) C x) = true := sorry
def to_backy1 : aTb := fun mi i => none
def ro_backy1 : List pq := [((8, 48, 5), (0, 112, 0), 1, 1), ((8, 48, 9), (0, 112, 4), (-2147483648), 2147483647), ((8, 48, 7), (0, 112, 2), (-2147483648), 2147483647), ((6, 53, 0), (0, 112, 21), (-2147483648), 2147483647), ((6, 53, 1), (0, 112, 22), (-2147483648), 2147483647), ((6, 53, 2), (0, 112, 23), 1, 8), ((6, 53, 3), (0, 112, 24), (-2147483648), 2147483647), ((9, 0, 9), (10, 110, 3), 1, 1)]
set_option maxRecDepth 100000 in
set_option maxHeartbeats 40000000 in
theorem ox_backy1 : oxchk ro_backy1 [(34, 34, 5, 9), (35, 35, 0, 15), (38, 38, 0, 2), (39, 47, 0, 5)] [] to_backy1 139 129 0 [] [] (fun _ C _ x => ecV [(34, 9, (1, 1, 0, 2)), (34, 7, (1, 1, 0, 3)), (39, 0, (1, 1, 0, 4)), (39, 1, (1, 1, 0, 5)), (39, 2, (1, 1, 0, 6)), (39, 3, (1, 1, 0, 7)), (34, 5, (0, 1, 1, 0))] (some (0, 1, 1, 0)) C x) = true := sorry
def to_keep2 : aTb := fun mi i => none
def ro_keep2 : List pq := [((8, 34, 5), (0, 111, 0), 2, 2), ((8, 34, 9), (0, 111, 4), (-2147483648), 2147483647), ((8, 34, 7), (0, 111, 2), (-2147483648), 2147483647), ((6, 39, 0), (0, 111, 21), (-2147483648), 2147483647), ((6, 39, 1), (0, 111, 22), (-2147483648), 2147483647), ((6, 39, 2), (0, 111, 23), 1, 8), ((6, 39, 3), (0, 111, 24), (-2147483648), 2147483647), ((6, 40, 0), (0, 111, 27), (-2147483648), 2147483647), ((6, 40, 1), (0, 111, 28), (-2147483648), 2147483647), ((6, 40, 2), (0, 111, 29), 1, 8), ((6, 40, 3), (0, 111, 30), (-2147483648), 2147483647)]
set_option maxRecDepth 100000 in
set_option maxHeartbeats 40000000 in
theorem ox_keep2 : oxchk ro_keep2 [(48, 48, 5, 9), (49, 49, 0, 15), (52, 52, 0, 2), (53, 61, 0, 5), (0, 0, 9, 9)] [] to_keep2 217 128 0 [] [] (fun _ C _ x => ecV [(48, 9, (1, 1, 0, 2)), (48, 7, (1, 1, 0, 3)), (53, 0, (1, 1, 0, 4)), (53, 1, (1, 1, 0, 5)), (53, 2, (1, 1, 0, 6)), (53, 3, (1, 1, 0, 7)), (54, 0, (1, 1, 0, 8)), (54, 1, (1, 1, 0, 9)), (54, 2, (1, 1, 0, 10)), (54, 3, (1, 1, 0, 11)), (48, 5, (0, 2, 2, 0)), (0, 9, (0, 1, 1, 0))] (some (0, 2, 2, 0)) C x) = true := sorry
def to_backy2 : aTb := fun mi i => none
def ro_backy2 : List pq := [((8, 48, 5), (0, 112, 0), 2, 2), ((8, 48, 9), (0, 112, 4), (-2147483648), 2147483647), ((8, 48, 7), (0, 112, 2), (-2147483648), 2147483647), ((6, 53, 0), (0, 112, 21), (-2147483648), 2147483647), ((6, 53, 1), (0, 112, 22), (-2147483648), 2147483647), ((6, 53, 2), (0, 112, 23), 1, 8), ((6, 53, 3), (0, 112, 24), (-2147483648), 2147483647), ((6, 54, 0), (0, 112, 27), (-2147483648), 2147483647), ((6, 54, 1), (0, 112, 28), (-2147483648), 2147483647), ((6, 54, 2), (0, 112, 29), 1, 8), ((6, 54, 3), (0, 112, 30), (-2147483648), 2147483647), ((9, 0, 9), (10, 110, 3), 1, 1)]
set_option maxRecDepth 100000 in
set_option maxHeartbeats 40000000 in
theorem ox_backy2 : oxchk ro_backy2 [(34, 34, 5, 9), (35, 35, 0, 15), (38, 38, 0, 2), (39, 47, 0, 5)] [] to_backy2 217 129 0 [] [] (fun _ C _ x => ecV [(34, 9, (1, 1, 0, 2)), (34, 7, (1, 1, 0, 3)), (39, 0, (1, 1, 0, 4)), (39, 1, (1, 1, 0, 5)), (39, 2, (1, 1, 0, 6)), (39, 3, (1, 1, 0, 7)), (40, 0, (1, 1, 0, 8)), (40, 1, (1, 1, 0, 9)), (40, 2, (1, 1, 0, 10)), (40, 3, (1, 1, 0, 11)), (34, 5, (0, 2, 2, 0))] (some (0, 2, 2, 0)) C x) = true := sorry
def to_keep3 : aTb := fun mi i => none
def ro_keep3 : List pq := [((8, 34, 5), (0, 111, 0), 3, 3), ((8, 34, 9), (0, 111, 4), (-2147483648), 2147483647), ((8, 34, 7), (0, 111, 2), (-2147483648), 2147483647), ((6, 39, 0), (0, 111, 21), (-2147483648), 2147483647), ((6, 39, 1), (0, 111, 22), (-2147483648), 2147483647), ((6, 39, 2), (0, 111, 23), 1, 8), ((6, 39, 3), (0, 111, 24), (-2147483648), 2147483647), ((6, 40, 0), (0, 111, 27), (-2147483648), 2147483647), ((6, 40, 1), (0, 111, 28), (-2147483648), 2147483647), ((6, 40, 2), (0, 111, 29), 1, 8), ((6, 40, 3), (0, 111, 30), (-2147483648), 2147483647), ((6, 41, 0), (0, 111, 33), (-2147483648), 2147483647), ((6, 41, 1), (0, 111, 34), (-2147483648), 2147483647), ((6, 41, 2), (0, 111, 35), 1, 8), ((6, 41, 3), (0, 111, 36), (-2147483648), 2147483647)]
set_option maxRecDepth 100000 in
set_option maxHeartbeats 40000000 in
theorem ox_keep3 : oxchk ro_keep3 [(48, 48, 5, 9), (49, 49, 0, 15), (52, 52, 0, 2), (53, 61, 0, 5), (0, 0, 9, 9)] [] to_keep3 295 128 0 [] [] (fun _ C _ x => ecV [(48, 9, (1, 1, 0, 2)), (48, 7, (1, 1, 0, 3)), (53, 0, (1, 1, 0, 4)), (53, 1, (1, 1, 0, 5)), (53, 2, (1, 1, 0, 6)), (53, 3, (1, 1, 0, 7)), (54, 0, (1, 1, 0, 8)), (54, 1, (1, 1, 0, 9)), (54, 2, (1, 1, 0, 10)), (54, 3, (1, 1, 0, 11)), (55, 0, (1, 1, 0, 12)), (55, 1, (1, 1, 0, 13)), (55, 2, (1, 1, 0, 14)), (55, 3, (1, 1, 0, 15)), (48, 5, (0, 3, 3, 0)), (0, 9, (0, 1, 1, 0))] (some (0, 3, 3, 0)) C x) = true := sorry
def to_backy3 : aTb := fun mi i => none
def ro_backy3 : List pq := [((8, 48, 5), (0, 112, 0), 3, 3), ((8, 48, 9), (0, 112, 4), (-2147483648), 2147483647), ((8, 48, 7), (0, 112, 2), (-2147483648), 2147483647), ((6, 53, 0), (0, 112, 21), (-2147483648), 2147483647), ((6, 53, 1), (0, 112, 22), (-2147483648), 2147483647), ((6, 53, 2), (0, 112, 23), 1, 8), ((6, 53, 3), (0, 112, 24), (-2147483648), 2147483647), ((6, 54, 0), (0, 112, 27), (-2147483648), 2147483647), ((6, 54, 1), (0, 112, 28), (-2147483648), 2147483647), ((6, 54, 2), (0, 112, 29), 1, 8), ((6, 54, 3), (0, 112, 30), (-2147483648), 2147483647), ((6, 55, 0), (0, 112, 33), (-2147483648), 2147483647), ((6, 55, 1), (0, 112, 34), (-2147483648), 2147483647), ((6, 55, 2), (0, 112, 35), 1, 8), ((6, 55, 3), (0, 112, 36), (-2147483648), 2147483647), ((9, 0, 9), (10, 110, 3), 1, 1)]
set_option maxRecDepth 100000 in
set_option maxHeartbeats 40000000 in
theorem ox_backy3 : oxchk ro_backy3 [(34, 34, 5, 9), (35, 35, 0, 15), (38, 38, 0, 2), (39, 47, 0, 5)] [] to_backy3 295 129 0 [] [] (fun _ C _ x => ecV [(34, 9, (1, 1, 0, 2)), (34, 7, (1, 1, 0, 3)), (39, 0, (1, 1, 0, 4)), (39, 1, (1, 1, 0, 5)), (39, 2, (1, 1, 0, 6)), (39, 3, (1, 1, 0, 7)), (40, 0, (1, 1, 0, 8)), (40, 1, (1, 1, 0, 9)), (40, 2, (1, 1, 0, 10)), (40, 3, (1, 1, 0, 11)), (41, 0, (1, 1, 0, 12)), (41, 1, (1, 1, 0, 13)), (41, 2, (1, 1, 0, 14)), (41, 3, (1, 1, 0, 15)), (34, 5, (0, 3, 3, 0))] (some (0, 3, 3, 0)) C x) = true := sorry
def to_keep4 : aTb := fun mi i => none
def ro_keep4 : List pq := [((8, 34, 5), (0, 111, 0), 4, 4), ((8, 34, 9), (0, 111, 4), (-2147483648), 2147483647), ((8, 34, 7), (0, 111, 2), (-2147483648), 2147483647), ((6, 39, 0), (0, 111, 21), (-2147483648), 2147483647), ((6, 39, 1), (0, 111, 22), (-2147483648), 2147483647), ((6, 39, 2), (0, 111, 23), 1, 8), ((6, 39, 3), (0, 111, 24), (-2147483648), 2147483647), ((6, 40, 0), (0, 111, 27), (-2147483648), 2147483647), ((6, 40, 1), (0, 111, 28), (-2147483648), 2147483647), ((6, 40, 2), (0, 111, 29), 1, 8), ((6, 40, 3), (0, 111, 30), (-2147483648), 2147483647), ((6, 41, 0), (0, 111, 33), (-2147483648), 2147483647), ((6, 41, 1), (0, 111, 34), (-2147483648), 2147483647), ((6, 41, 2), (0, 111, 35), 1, 8), ((6, 41, 3), (0, 111, 36), (-2147483648), 2147483647), ((6, 42, 0), (0, 111, 39), (-2147483648), 2147483647), ((6, 42, 1), (0, 111, 40), (-2147483648), 2147483647), ((6, 42, 2), (0, 111, 41), 1, 8), ((6, 42, 3), (0, 111, 42), (-2147483648), 2147483647)]
set_option maxRecDepth 100000 in
set_option maxHeartbeats 40000000 in
theorem ox_keep4 : oxchk ro_keep4 [(48, 48, 5, 9), (49, 49, 0, 15), (52, 52, 0, 2), (53, 61, 0, 5), (0, 0, 9, 9)] [] to_keep4 373 128 0 [] [] (fun _ C _ x => ecV [(48, 9, (1, 1, 0, 2)), (48, 7, (1, 1, 0, 3)), (53, 0, (1, 1, 0, 4)), (53, 1, (1, 1, 0, 5)), (53, 2, (1, 1, 0, 6)), (53, 3, (1, 1, 0, 7)), (54, 0, (1, 1, 0, 8)), (54, 1, (1, 1, 0, 9)), (54, 2, (1, 1, 0, 10)), (54, 3, (1, 1, 0, 11)), (55, 0, (1, 1, 0, 12)), (55, 1, (1, 1, 0, 13)), (55, 2, (1, 1, 0, 14)), (55, 3, (1, 1, 0, 15)), (56, 0, (1, 1, 0, 16)), (56, 1, (1, 1, 0, 17)), (56, 2, (1, 1, 0, 18)), (56, 3, (1, 1, 0, 19)), (48, 5, (0, 4, 4, 0)), (0, 9, (0, 1, 1, 0))] (some (0, 4, 4, 0)) C x) = true := sorry
def to_backy4 : aTb := fun mi i => none
def ro_backy4 : List pq := [((8, 48, 5), (0, 112, 0), 4, 4), ((8, 48, 9), (0, 112, 4), (-2147483648), 2147483647), ((8, 48, 7), (0, 112, 2), (-2147483648), 2147483647), ((6, 53, 0), (0, 112, 21), (-2147483648), 2147483647), ((6, 53, 1), (0, 112, 22), (-2147483648), 2147483647), ((6, 53, 2), (0, 112, 23), 1, 8), ((6, 53, 3), (0, 112, 24), (-2147483648), 2147483647), ((6, 54, 0), (0, 112, 27), (-2147483648), 2147483647), ((6, 54, 1), (0, 112, 28), (-2147483648), 2147483647), ((6, 54, 2), (0, 112, 29), 1, 8), ((6, 54, 3), (0, 112, 30), (-2147483648), 2147483647), ((6, 55, 0), (0, 112, 33), (-2147483648), 2147483647), ((6, 55, 1), (0, 112, 34), (-2147483648), 2147483647), ((6, 55, 2), (0, 112, 35), 1, 8), ((6, 55, 3), (0, 112, 36), (-2147483648), 2147483647), ((6, 56, 0), (0, 112, 39), (-2147483648), 2147483647), ((6, 56, 1), (0, 112, 40), (-2147483648), 2147483647), ((6, 56, 2), (0, 112, 41), 1, 8), ((6, 56, 3), (0, 112, 42), (-2147483648), 2147483647), ((9, 0, 9), (10, 110, 3), 1, 1)]
set_option maxRecDepth 100000 in
set_option maxHeartbeats 40000000 in
theorem ox_backy4 : oxchk ro_backy4 [(34, 34, 5, 9), (35, 35, 0, 15), (38, 38, 0, 2), (39, 47, 0, 5)] [] to_backy4 373 129 0 [] [] (fun _ C _ x => ecV [(34, 9, (1, 1, 0, 2)), (34, 7, (1, 1, 0, 3)), (39, 0, (1, 1, 0, 4)), (39, 1, (1, 1, 0, 5)), (39, 2, (1, 1, 0, 6)), (39, 3, (1, 1, 0, 7)), (40, 0, (1, 1, 0, 8)), (40, 1, (1, 1, 0, 9)), (40, 2, (1, 1, 0, 10)), (40, 3, (1, 1, 0, 11)), (41, 0, (1, 1, 0, 12)), (41, 1, (1, 1, 0, 13)), (41, 2, (1, 1, 0, 14)), (41, 3, (1, 1, 0, 15)), (42, 0, (1, 1, 0, 16)), (42, 1, (1, 1, 0, 17)), (42, 2, (1, 1, 0, 18)), (42, 3, (1, 1, 0, 19)), (34, 5, (0, 4, 4, 0))] (some (0, 4, 4, 0)) C x) = true := sorry
def to_keep5 : aTb := fun mi i => none
def ro_keep5 : List pq := [((8, 34, 5), (0, 111, 0), 5, 5), ((8, 34, 9), (0, 111, 4), (-2147483648), 2147483647), ((8, 34, 7), (0, 111, 2), (-2147483648), 2147483647), ((6, 39, 0), (0, 111, 21), (-2147483648), 2147483647), ((6, 39, 1), (0, 111, 22), (-2147483648), 2147483647), ((6, 39, 2), (0, 111, 23), 1, 8), ((6, 39, 3), (0, 111, 24), (-2147483648), 2147483647), ((6, 40, 0), (0, 111, 27), (-2147483648), 2147483647), ((6, 40, 1), (0, 111, 28), (-2147483648), 2147483647), ((6, 40, 2), (0, 111, 29), 1, 8), ((6, 40, 3), (0, 111, 30), (-2147483648), 2147483647), ((6, 41, 0), (0, 111, 33), (-2147483648), 2147483647), ((6, 41, 1), (0, 111, 34), (-2147483648), 2147483647), ((6, 41, 2), (0, 111, 35), 1, 8), ((6, 41, 3), (0, 111, 36), (-2147483648), 2147483647), ((6, 42, 0), (0, 111, 39), (-2147483648), 2147483647), ((6, 42, 1), (0, 111, 40), (-2147483648), 2147483647), ((6, 42, 2), (0, 111, 41), 1, 8), ((6, 42, 3), (0, 111, 42), (-2147483648), 2147483647), ((6, 43, 0), (0, 111, 45), (-2147483648), 2147483647), ((6, 43, 1), (0, 111, 46), (-2147483648), 2147483647), ((6, 43, 2), (0, 111, 47), 1, 8), ((6, 43, 3), (0, 111, 48), (-2147483648), 2147483647)]
set_option maxRecDepth 100000 in
set_option maxHeartbeats 40000000 in
theorem ox_keep5 : oxchk ro_keep5 [(48, 48, 5, 9), (49, 49, 0, 15), (52, 52, 0, 2), (53, 61, 0, 5), (0, 0, 9, 9)] [] to_keep5 451 128 0 [] [] (fun _ C _ x => ecV [(48, 9, (1, 1, 0, 2)), (48, 7, (1, 1, 0, 3)), (53, 0, (1, 1, 0, 4)), (53, 1, (1, 1, 0, 5)), (53, 2, (1, 1, 0, 6)), (53, 3, (1, 1, 0, 7)), (54, 0, (1, 1, 0, 8)), (54, 1, (1, 1, 0, 9)), (54, 2, (1, 1, 0, 10)), (54, 3, (1, 1, 0, 11)), (55, 0, (1, 1, 0, 12)), (55, 1, (1, 1, 0, 13)), (55, 2, (1, 1, 0, 14)), (55, 3, (1, 1, 0, 15)), (56, 0, (1, 1, 0, 16)), (56, 1, (1, 1, 0, 17)), (56, 2, (1, 1, 0, 18)), (56, 3, (1, 1, 0, 19)), (57, 0, (1, 1, 0, 20)), (57, 1, (1, 1, 0, 21)), (57, 2, (1, 1, 0, 22)), (57, 3, (1, 1, 0, 23)), (48, 5, (0, 5, 5, 0)), (0, 9, (0, 1, 1, 0))] (some (0, 5, 5, 0)) C x) = true := sorry
def to_backy5 : aTb := fun mi i => none
def ro_backy5 : List pq := [((8, 48, 5), (0, 112, 0), 5, 5), ((8, 48, 9), (0, 112, 4), (-2147483648), 2147483647), ((8, 48, 7), (0, 112, 2), (-2147483648), 2147483647), ((6, 53, 0), (0, 112, 21), (-2147483648), 2147483647), ((6, 53, 1), (0, 112, 22), (-2147483648), 2147483647), ((6, 53, 2), (0, 112, 23), 1, 8), ((6, 53, 3), (0, 112, 24), (-2147483648), 2147483647), ((6, 54, 0), (0, 112, 27), (-2147483648), 2147483647), ((6, 54, 1), (0, 112, 28), (-2147483648), 2147483647), ((6, 54, 2), (0, 112, 29), 1, 8), ((6, 54, 3), (0, 112, 30), (-2147483648), 2147483647), ((6, 55, 0), (0, 112, 33), (-2147483648), 2147483647), ((6, 55, 1), (0, 112, 34), (-2147483648), 2147483647), ((6, 55, 2), (0, 112, 35), 1, 8), ((6, 55, 3), (0, 112, 36), (-2147483648), 2147483647), ((6, 56, 0), (0, 112, 39), (-2147483648), 2147483647), ((6, 56, 1), (0, 112, 40), (-2147483648), 2147483647), ((6, 56, 2), (0, 112, 41), 1, 8), ((6, 56, 3), (0, 112, 42), (-2147483648), 2147483647), ((6, 57, 0), (0, 112, 45), (-2147483648), 2147483647), ((6, 57, 1), (0, 112, 46), (-2147483648), 2147483647), ((6, 57, 2), (0, 112, 47), 1, 8), ((6, 57, 3), (0, 112, 48), (-2147483648), 2147483647), ((9, 0, 9), (10, 110, 3), 1, 1)]
set_option maxRecDepth 100000 in
set_option maxHeartbeats 40000000 in
theorem ox_backy5 : oxchk ro_backy5 [(34, 34, 5, 9), (35, 35, 0, 15), (38, 38, 0, 2), (39, 47, 0, 5)] [] to_backy5 451 129 0 [] [] (fun _ C _ x => ecV [(34, 9, (1, 1, 0, 2)), (34, 7, (1, 1, 0, 3)), (39, 0, (1, 1, 0, 4)), (39, 1, (1, 1, 0, 5)), (39, 2, (1, 1, 0, 6)), (39, 3, (1, 1, 0, 7)), (40, 0, (1, 1, 0, 8)), (40, 1, (1, 1, 0, 9)), (40, 2, (1, 1, 0, 10)), (40, 3, (1, 1, 0, 11)), (41, 0, (1, 1, 0, 12)), (41, 1, (1, 1, 0, 13)), (41, 2, (1, 1, 0, 14)), (41, 3, (1, 1, 0, 15)), (42, 0, (1, 1, 0, 16)), (42, 1, (1, 1, 0, 17)), (42, 2, (1, 1, 0, 18)), (42, 3, (1, 1, 0, 19)), (43, 0, (1, 1, 0, 20)), (43, 1, (1, 1, 0, 21)), (43, 2, (1, 1, 0, 22)), (43, 3, (1, 1, 0, 23)), (34, 5, (0, 5, 5, 0))] (some (0, 5, 5, 0)) C x) = true := sorry
def to_keep6 : aTb := fun mi i => none
def ro_keep6 : List pq := [((8, 34, 5), (0, 111, 0), 6, 6), ((8, 34, 9), (0, 111, 4), (-2147483648), 2147483647), ((8, 34, 7), (0, 111, 2), (-2147483648), 2147483647), ((6, 39, 0), (0, 111, 21), (-2147483648), 2147483647), ((6, 39, 1), (0, 111, 22), (-2147483648), 2147483647), ((6, 39, 2), (0, 111, 23), 1, 8), ((6, 39, 3), (0, 111, 24), (-2147483648), 2147483647), ((6, 40, 0), (0, 111, 27), (-2147483648), 2147483647), ((6, 40, 1), (0, 111, 28), (-2147483648), 2147483647), ((6, 40, 2), (0, 111, 29), 1, 8), ((6, 40, 3), (0, 111, 30), (-2147483648), 2147483647), ((6, 41, 0), (0, 111, 33), (-2147483648), 2147483647), ((6, 41, 1), (0, 111, 34), (-2147483648), 2147483647), ((6, 41, 2), (0, 111, 35), 1, 8), ((6, 41, 3), (0, 111, 36), (-2147483648), 2147483647), ((6, 42, 0), (0, 111, 39), (-2147483648), 2147483647), ((6, 42, 1), (0, 111, 40), (-2147483648), 2147483647), ((6, 42, 2), (0, 111, 41), 1, 8), ((6, 42, 3), (0, 111, 42), (-2147483648), 2147483647), ((6, 43, 0), (0, 111, 45), (-2147483648), 2147483647), ((6, 43, 1), (0, 111, 46), (-2147483648), 2147483647), ((6, 43, 2), (0, 111, 47), 1, 8), ((6, 43, 3), (0, 111, 48), (-2147483648), 2147483647), ((6, 44, 0), (0, 111, 51), (-2147483648), 2147483647), ((6, 44, 1), (0, 111, 52), (-2147483648), 2147483647), ((6, 44, 2), (0, 111, 53), 1, 8), ((6, 44, 3), (0, 111, 54), (-2147483648), 2147483647)]
set_option maxRecDepth 100000 in
set_option maxHeartbeats 40000000 in
theorem ox_keep6 : oxchk ro_keep6 [(48, 48, 5, 9), (49, 49, 0, 15), (52, 52, 0, 2), (53, 61, 0, 5), (0, 0, 9, 9)] [] to_keep6 529 128 0 [] [] (fun _ C _ x => ecV [(48, 9, (1, 1, 0, 2)), (48, 7, (1, 1, 0, 3)), (53, 0, (1, 1, 0, 4)), (53, 1, (1, 1, 0, 5)), (53, 2, (1, 1, 0, 6)), (53, 3, (1, 1, 0, 7)), (54, 0, (1, 1, 0, 8)), (54, 1, (1, 1, 0, 9)), (54, 2, (1, 1, 0, 10)), (54, 3, (1, 1, 0, 11)), (55, 0, (1, 1, 0, 12)), (55, 1, (1, 1, 0, 13)), (55, 2, (1, 1, 0, 14)), (55, 3, (1, 1, 0, 15)), (56, 0, (1, 1, 0, 16)), (56, 1, (1, 1, 0, 17)), (56, 2, (1, 1, 0, 18)), (56, 3, (1, 1, 0, 19)), (57, 0, (1, 1, 0, 20)), (57, 1, (1, 1, 0, 21)), (57, 2, (1, 1, 0, 22)), (57, 3, (1, 1, 0, 23)), (58, 0, (1, 1, 0, 24)), (58, 1, (1, 1, 0, 25)), (58, 2, (1, 1, 0, 26)), (58, 3, (1, 1, 0, 27)), (48, 5, (0, 6, 6, 0)), (0, 9, (0, 1, 1, 0))] (some (0, 6, 6, 0)) C x) = true := sorry
def to_backy6 : aTb := fun mi i => none
def ro_backy6 : List pq := [((8, 48, 5), (0, 112, 0), 6, 6), ((8, 48, 9), (0, 112, 4), (-2147483648), 2147483647), ((8, 48, 7), (0, 112, 2), (-2147483648), 2147483647), ((6, 53, 0), (0, 112, 21), (-2147483648), 2147483647), ((6, 53, 1), (0, 112, 22), (-2147483648), 2147483647), ((6, 53, 2), (0, 112, 23), 1, 8), ((6, 53, 3), (0, 112, 24), (-2147483648), 2147483647), ((6, 54, 0), (0, 112, 27), (-2147483648), 2147483647), ((6, 54, 1), (0, 112, 28), (-2147483648), 2147483647), ((6, 54, 2), (0, 112, 29), 1, 8), ((6, 54, 3), (0, 112, 30), (-2147483648), 2147483647), ((6, 55, 0), (0, 112, 33), (-2147483648), 2147483647), ((6, 55, 1), (0, 112, 34), (-2147483648), 2147483647), ((6, 55, 2), (0, 112, 35), 1, 8), ((6, 55, 3), (0, 112, 36), (-2147483648), 2147483647), ((6, 56, 0), (0, 112, 39), (-2147483648), 2147483647), ((6, 56, 1), (0, 112, 40), (-2147483648), 2147483647), ((6, 56, 2), (0, 112, 41), 1, 8), ((6, 56, 3), (0, 112, 42), (-2147483648), 2147483647), ((6, 57, 0), (0, 112, 45), (-2147483648), 2147483647), ((6, 57, 1), (0, 112, 46), (-2147483648), 2147483647), ((6, 57, 2), (0, 112, 47), 1, 8), ((6, 57, 3), (0, 112, 48), (-2147483648), 2147483647), ((6, 58, 0), (0, 112, 51), (-2147483648), 2147483647), ((6, 58, 1), (0, 112, 52), (-2147483648), 2147483647), ((6, 58, 2), (0, 112, 53), 1, 8), ((6, 58, 3), (0, 112, 54), (-2147483648), 2147483647), ((9, 0, 9), (10, 110, 3), 1, 1)]
set_option maxRecDepth 100000 in
set_option maxHeartbeats 40000000 in
theorem ox_backy6 : oxchk ro_backy6 [(34, 34, 5, 9), (35, 35, 0, 15), (38, 38, 0, 2), (39, 47, 0, 5)] [] to_backy6 529 129 0 [] [] (fun _ C _ x => ecV [(34, 9, (1, 1, 0, 2)), (34, 7, (1, 1, 0, 3)), (39, 0, (1, 1, 0, 4)), (39, 1, (1, 1, 0, 5)), (39, 2, (1, 1, 0, 6)), (39, 3, (1, 1, 0, 7)), (40, 0, (1, 1, 0, 8)), (40, 1, (1, 1, 0, 9)), (40, 2, (1, 1, 0, 10)), (40, 3, (1, 1, 0, 11)), (41, 0, (1, 1, 0, 12)), (41, 1, (1, 1, 0, 13)), (41, 2, (1, 1, 0, 14)), (41, 3, (1, 1, 0, 15)), (42, 0, (1, 1, 0, 16)), (42, 1, (1, 1, 0, 17)), (42, 2, (1, 1, 0, 18)), (42, 3, (1, 1, 0, 19)), (43, 0, (1, 1, 0, 20)), (43, 1, (1, 1, 0, 21)), (43, 2, (1, 1, 0, 22)), (43, 3, (1, 1, 0, 23)), (44, 0, (1, 1, 0, 24)), (44, 1, (1, 1, 0, 25)), (44, 2, (1, 1, 0, 26)), (44, 3, (1, 1, 0, 27)), (34, 5, (0, 6, 6, 0))] (some (0, 6, 6, 0)) C x) = true := sorry
def to_keep7 : aTb := fun mi i => none
def ro_keep7 : List pq := [((8, 34, 5), (0, 111, 0), 7, 7), ((8, 34, 9), (0, 111, 4), (-2147483648), 2147483647), ((8, 34, 7), (0, 111, 2), (-2147483648), 2147483647), ((6, 39, 0), (0, 111, 21), (-2147483648), 2147483647), ((6, 39, 1), (0, 111, 22), (-2147483648), 2147483647), ((6, 39, 2), (0, 111, 23), 1, 8), ((6, 39, 3), (0, 111, 24), (-2147483648), 2147483647), ((6, 40, 0), (0, 111, 27), (-2147483648), 2147483647), ((6, 40, 1), (0, 111, 28), (-2147483648), 2147483647), ((6, 40, 2), (0, 111, 29), 1, 8), ((6, 40, 3), (0, 111, 30), (-2147483648), 2147483647), ((6, 41, 0), (0, 111, 33), (-2147483648), 2147483647), ((6, 41, 1), (0, 111, 34), (-2147483648), 2147483647), ((6, 41, 2), (0, 111, 35), 1, 8), ((6, 41, 3), (0, 111, 36), (-2147483648), 2147483647), ((6, 42, 0), (0, 111, 39), (-2147483648), 2147483647), ((6, 42, 1), (0, 111, 40), (-2147483648), 2147483647), ((6, 42, 2), (0, 111, 41), 1, 8), ((6, 42, 3), (0, 111, 42), (-2147483648), 2147483647), ((6, 43, 0), (0, 111, 45), (-2147483648), 2147483647), ((6, 43, 1), (0, 111, 46), (-2147483648), 2147483647), ((6, 43, 2), (0, 111, 47), 1, 8), ((6, 43, 3), (0, 111, 48), (-2147483648), 2147483647), ((6, 44, 0), (0, 111, 51), (-2147483648), 2147483647), ((6, 44, 1), (0, 111, 52), (-2147483648), 2147483647), ((6, 44, 2), (0, 111, 53), 1, 8), ((6, 44, 3), (0, 111, 54), (-2147483648), 2147483647), ((6, 45, 0), (0, 111, 57), (-2147483648), 2147483647), ((6, 45, 1), (0, 111, 58), (-2147483648), 2147483647), ((6, 45, 2), (0, 111, 59), 1, 8), ((6, 45, 3), (0, 111, 60), (-2147483648), 2147483647)]
set_option maxRecDepth 100000 in
set_option maxHeartbeats 40000000 in
theorem ox_keep7 : oxchk ro_keep7 [(48, 48, 5, 9), (49, 49, 0, 15), (52, 52, 0, 2), (53, 61, 0, 5), (0, 0, 9, 9)] [] to_keep7 607 128 0 [] [] (fun _ C _ x => ecV [(48, 9, (1, 1, 0, 2)), (48, 7, (1, 1, 0, 3)), (53, 0, (1, 1, 0, 4)), (53, 1, (1, 1, 0, 5)), (53, 2, (1, 1, 0, 6)), (53, 3, (1, 1, 0, 7)), (54, 0, (1, 1, 0, 8)), (54, 1, (1, 1, 0, 9)), (54, 2, (1, 1, 0, 10)), (54, 3, (1, 1, 0, 11)), (55, 0, (1, 1, 0, 12)), (55, 1, (1, 1, 0, 13)), (55, 2, (1, 1, 0, 14)), (55, 3, (1, 1, 0, 15)), (56, 0, (1, 1, 0, 16)), (56, 1, (1, 1, 0, 17)), (56, 2, (1, 1, 0, 18)), (56, 3, (1, 1, 0, 19)), (57, 0, (1, 1, 0, 20)), (57, 1, (1, 1, 0, 21)), (57, 2, (1, 1, 0, 22)), (57, 3, (1, 1, 0, 23)), (58, 0, (1, 1, 0, 24)), (58, 1, (1, 1, 0, 25)), (58, 2, (1, 1, 0, 26)), (58, 3, (1, 1, 0, 27)), (59, 0, (1, 1, 0, 28)), (59, 1, (1, 1, 0, 29)), (59, 2, (1, 1, 0, 30)), (59, 3, (1, 1, 0, 31)), (48, 5, (0, 7, 7, 0)), (0, 9, (0, 1, 1, 0))] (some (0, 7, 7, 0)) C x) = true := sorry
def to_backy7 : aTb := fun mi i => none
def ro_backy7 : List pq := [((8, 48, 5), (0, 112, 0), 7, 7), ((8, 48, 9), (0, 112, 4), (-2147483648), 2147483647), ((8, 48, 7), (0, 112, 2), (-2147483648), 2147483647), ((6, 53, 0), (0, 112, 21), (-2147483648), 2147483647), ((6, 53, 1), (0, 112, 22), (-2147483648), 2147483647), ((6, 53, 2), (0, 112, 23), 1, 8), ((6, 53, 3), (0, 112, 24), (-2147483648), 2147483647), ((6, 54, 0), (0, 112, 27), (-2147483648), 2147483647), ((6, 54, 1), (0, 112, 28), (-2147483648), 2147483647), ((6, 54, 2), (0, 112, 29), 1, 8), ((6, 54, 3), (0, 112, 30), (-2147483648), 2147483647), ((6, 55, 0), (0, 112, 33), (-2147483648), 2147483647), ((6, 55, 1), (0, 112, 34), (-2147483648), 2147483647), ((6, 55, 2), (0, 112, 35), 1, 8), ((6, 55, 3), (0, 112, 36), (-2147483648), 2147483647), ((6, 56, 0), (0, 112, 39), (-2147483648), 2147483647), ((6, 56, 1), (0, 112, 40), (-2147483648), 2147483647), ((6, 56, 2), (0, 112, 41), 1, 8), ((6, 56, 3), (0, 112, 42), (-2147483648), 2147483647), ((6, 57, 0), (0, 112, 45), (-2147483648), 2147483647), ((6, 57, 1), (0, 112, 46), (-2147483648), 2147483647), ((6, 57, 2), (0, 112, 47), 1, 8), ((6, 57, 3), (0, 112, 48), (-2147483648), 2147483647), ((6, 58, 0), (0, 112, 51), (-2147483648), 2147483647), ((6, 58, 1), (0, 112, 52), (-2147483648), 2147483647), ((6, 58, 2), (0, 112, 53), 1, 8), ((6, 58, 3), (0, 112, 54), (-2147483648), 2147483647), ((6, 59, 0), (0, 112, 57), (-2147483648), 2147483647), ((6, 59, 1), (0, 112, 58), (-2147483648), 2147483647), ((6, 59, 2), (0, 112, 59), 1, 8), ((6, 59, 3), (0, 112, 60), (-2147483648), 2147483647), ((9, 0, 9), (10, 110, 3), 1, 1)]
set_option maxRecDepth 100000 in
set_option maxHeartbeats 40000000 in
theorem ox_backy7 : oxchk ro_backy7 [(34, 34, 5, 9), (35, 35, 0, 15), (38, 38, 0, 2), (39, 47, 0, 5)] [] to_backy7 607 129 0 [] [] (fun _ C _ x => ecV [(34, 9, (1, 1, 0, 2)), (34, 7, (1, 1, 0, 3)), (39, 0, (1, 1, 0, 4)), (39, 1, (1, 1, 0, 5)), (39, 2, (1, 1, 0, 6)), (39, 3, (1, 1, 0, 7)), (40, 0, (1, 1, 0, 8)), (40, 1, (1, 1, 0, 9)), (40, 2, (1, 1, 0, 10)), (40, 3, (1, 1, 0, 11)), (41, 0, (1, 1, 0, 12)), (41, 1, (1, 1, 0, 13)), (41, 2, (1, 1, 0, 14)), (41, 3, (1, 1, 0, 15)), (42, 0, (1, 1, 0, 16)), (42, 1, (1, 1, 0, 17)), (42, 2, (1, 1, 0, 18)), (42, 3, (1, 1, 0, 19)), (43, 0, (1, 1, 0, 20)), (43, 1, (1, 1, 0, 21)), (43, 2, (1, 1, 0, 22)), (43, 3, (1, 1, 0, 23)), (44, 0, (1, 1, 0, 24)), (44, 1, (1, 1, 0, 25)), (44, 2, (1, 1, 0, 26)), (44, 3, (1, 1, 0, 27)), (45, 0, (1, 1, 0, 28)), (45, 1, (1, 1, 0, 29)), (45, 2, (1, 1, 0, 30)), (45, 3, (1, 1, 0, 31)), (34, 5, (0, 7, 7, 0))] (some (0, 7, 7, 0)) C x) = true := sorry
def to_keep8 : aTb := fun mi i => none
def ro_keep8 : List pq := [((8, 34, 5), (0, 111, 0), 8, 8), ((8, 34, 9), (0, 111, 4), (-2147483648), 2147483647), ((8, 34, 7), (0, 111, 2), (-2147483648), 2147483647), ((6, 39, 0), (0, 111, 21), (-2147483648), 2147483647), ((6, 39, 1), (0, 111, 22), (-2147483648), 2147483647), ((6, 39, 2), (0, 111, 23), 1, 8), ((6, 39, 3), (0, 111, 24), (-2147483648), 2147483647), ((6, 40, 0), (0, 111, 27), (-2147483648), 2147483647), ((6, 40, 1), (0, 111, 28), (-2147483648), 2147483647), ((6, 40, 2), (0, 111, 29), 1, 8), ((6, 40, 3), (0, 111, 30), (-2147483648), 2147483647), ((6, 41, 0), (0, 111, 33), (-2147483648), 2147483647), ((6, 41, 1), (0, 111, 34), (-2147483648), 2147483647), ((6, 41, 2), (0, 111, 35), 1, 8), ((6, 41, 3), (0, 111, 36), (-2147483648), 2147483647), ((6, 42, 0), (0, 111, 39), (-2147483648), 2147483647), ((6, 42, 1), (0, 111, 40), (-2147483648), 2147483647), ((6, 42, 2), (0, 111, 41), 1, 8), ((6, 42, 3), (0, 111, 42), (-2147483648), 2147483647), ((6, 43, 0), (0, 111, 45), (-2147483648), 2147483647), ((6, 43, 1), (0, 111, 46), (-2147483648), 2147483647), ((6, 43, 2), (0, 111, 47), 1, 8), ((6, 43, 3), (0, 111, 48), (-2147483648), 2147483647), ((6, 44, 0), (0, 111, 51), (-2147483648), 2147483647), ((6, 44, 1), (0, 111, 52), (-2147483648), 2147483647), ((6, 44, 2), (0, 111, 53), 1, 8), ((6, 44, 3), (0, 111, 54), (-2147483648), 2147483647), ((6, 45, 0), (0, 111, 57), (-2147483648), 2147483647), ((6, 45, 1), (0, 111, 58), (-2147483648), 2147483647), ((6, 45, 2), (0, 111, 59), 1, 8), ((6, 45, 3), (0, 111, 60), (-2147483648), 2147483647), ((6, 46, 0), (0, 111, 63), (-2147483648), 2147483647), ((6, 46, 1), (0, 111, 64), (-2147483648), 2147483647), ((6, 46, 2), (0, 111, 65), 1, 8), ((6, 46, 3), (0, 111, 66), (-2147483648), 2147483647)]
set_option maxRecDepth 100000 in
set_option maxHeartbeats 40000000 in
theorem ox_keep8 : oxchk ro_keep8 [(48, 48, 5, 9), (49, 49, 0, 15), (52, 52, 0, 2), (53, 61, 0, 5), (0, 0, 9, 9)] [] to_keep8 685 128 0 [] [] (fun _ C _ x => ecV [(48, 9, (1, 1, 0, 2)), (48, 7, (1, 1, 0, 3)), (53, 0, (1, 1, 0, 4)), (53, 1, (1, 1, 0, 5)), (53, 2, (1, 1, 0, 6)), (53, 3, (1, 1, 0, 7)), (54, 0, (1, 1, 0, 8)), (54, 1, (1, 1, 0, 9)), (54, 2, (1, 1, 0, 10)), (54, 3, (1, 1, 0, 11)), (55, 0, (1, 1, 0, 12)), (55, 1, (1, 1, 0, 13)), (55, 2, (1, 1, 0, 14)), (55, 3, (1, 1, 0, 15)), (56, 0, (1, 1, 0, 16)), (56, 1, (1, 1, 0, 17)), (56, 2, (1, 1, 0, 18)), (56, 3, (1, 1, 0, 19)), (57, 0, (1, 1, 0, 20)), (57, 1, (1, 1, 0, 21)), (57, 2, (1, 1, 0, 22)), (57, 3, (1, 1, 0, 23)), (58, 0, (1, 1, 0, 24)), (58, 1, (1, 1, 0, 25)), (58, 2, (1, 1, 0, 26)), (58, 3, (1, 1, 0, 27)), (59, 0, (1, 1, 0, 28)), (59, 1, (1, 1, 0, 29)), (59, 2, (1, 1, 0, 30)), (59, 3, (1, 1, 0, 31)), (60, 0, (1, 1, 0, 32)), (60, 1, (1, 1, 0, 33)), (60, 2, (1, 1, 0, 34)), (60, 3, (1, 1, 0, 35)), (48, 5, (0, 8, 8, 0)), (0, 9, (0, 1, 1, 0))] (some (0, 8, 8, 0)) C x) = true := sorry
def to_backy8 : aTb := fun mi i => none
def ro_backy8 : List pq := [((8, 48, 5), (0, 112, 0), 8, 8), ((8, 48, 9), (0, 112, 4), (-2147483648), 2147483647), ((8, 48, 7), (0, 112, 2), (-2147483648), 2147483647), ((6, 53, 0), (0, 112, 21), (-2147483648), 2147483647), ((6, 53, 1), (0, 112, 22), (-2147483648), 2147483647), ((6, 53, 2), (0, 112, 23), 1, 8), ((6, 53, 3), (0, 112, 24), (-2147483648), 2147483647), ((6, 54, 0), (0, 112, 27), (-2147483648), 2147483647), ((6, 54, 1), (0, 112, 28), (-2147483648), 2147483647), ((6, 54, 2), (0, 112, 29), 1, 8), ((6, 54, 3), (0, 112, 30), (-2147483648), 2147483647), ((6, 55, 0), (0, 112, 33), (-2147483648), 2147483647), ((6, 55, 1), (0, 112, 34), (-2147483648), 2147483647), ((6, 55, 2), (0, 112, 35), 1, 8), ((6, 55, 3), (0, 112, 36), (-2147483648), 2147483647), ((6, 56, 0), (0, 112, 39), (-2147483648), 2147483647), ((6, 56, 1), (0, 112, 40), (-2147483648), 2147483647), ((6, 56, 2), (0, 112, 41), 1, 8), ((6, 56, 3), (0, 112, 42), (-2147483648), 2147483647), ((6, 57, 0), (0, 112, 45), (-2147483648), 2147483647), ((6, 57, 1), (0, 112, 46), (-2147483648), 2147483647), ((6, 57, 2), (0, 112, 47), 1, 8), ((6, 57, 3), (0, 112, 48), (-2147483648), 2147483647), ((6, 58, 0), (0, 112, 51), (-2147483648), 2147483647), ((6, 58, 1), (0, 112, 52), (-2147483648), 2147483647), ((6, 58, 2), (0, 112, 53), 1, 8), ((6, 58, 3), (0, 112, 54), (-2147483648), 2147483647), ((6, 59, 0), (0, 112, 57), (-2147483648), 2147483647), ((6, 59, 1), (0, 112, 58), (-2147483648), 2147483647), ((6, 59, 2), (0, 112, 59), 1, 8), ((6, 59, 3), (0, 112, 60), (-2147483648), 2147483647), ((6, 60, 0), (0, 112, 63), (-2147483648), 2147483647), ((6, 60, 1), (0, 112, 64), (-2147483648), 2147483647), ((6, 60, 2), (0, 112, 65), 1, 8), ((6, 60, 3), (0, 112, 66), (-2147483648), 2147483647), ((9, 0, 9), (10, 110, 3), 1, 1)]
set_option maxRecDepth 100000 in
set_option maxHeartbeats 40000000 in
theorem ox_backy8 : oxchk ro_backy8 [(34, 34, 5, 9), (35, 35, 0, 15), (38, 38, 0, 2), (39, 47, 0, 5)] [] to_backy8 685 129 0 [] [] (fun _ C _ x => ecV [(34, 9, (1, 1, 0, 2)), (34, 7, (1, 1, 0, 3)), (39, 0, (1, 1, 0, 4)), (39, 1, (1, 1, 0, 5)), (39, 2, (1, 1, 0, 6)), (39, 3, (1, 1, 0, 7)), (40, 0, (1, 1, 0, 8)), (40, 1, (1, 1, 0, 9)), (40, 2, (1, 1, 0, 10)), (40, 3, (1, 1, 0, 11)), (41, 0, (1, 1, 0, 12)), (41, 1, (1, 1, 0, 13)), (41, 2, (1, 1, 0, 14)), (41, 3, (1, 1, 0, 15)), (42, 0, (1, 1, 0, 16)), (42, 1, (1, 1, 0, 17)), (42, 2, (1, 1, 0, 18)), (42, 3, (1, 1, 0, 19)), (43, 0, (1, 1, 0, 20)), (43, 1, (1, 1, 0, 21)), (43, 2, (1, 1, 0, 22)), (43, 3, (1, 1, 0, 23)), (44, 0, (1, 1, 0, 24)), (44, 1, (1, 1, 0, 25)), (44, 2, (1, 1, 0, 26)), (44, 3, (1, 1, 0, 27)), (45, 0, (1, 1, 0, 28)), (45, 1, (1, 1, 0, 29)), (45, 2, (1, 1, 0, 30)), (45, 3, (1, 1, 0, 31)), (46, 0, (1, 1, 0, 32)), (46, 1, (1, 1, 0, 33)), (46, 2, (1, 1, 0, 34)), (46, 3, (1, 1, 0, 35)), (34, 5, (0, 8, 8, 0))] (some (0, 8, 8, 0)) C x) = true := sorry
def to_keep9 : aTb := fun mi i => none
def ro_keep9 : List pq := [((8, 34, 5), (0, 111, 0), 9, 9), ((8, 34, 9), (0, 111, 4), (-2147483648), 2147483647), ((8, 34, 7), (0, 111, 2), (-2147483648), 2147483647), ((6, 39, 0), (0, 111, 21), (-2147483648), 2147483647), ((6, 39, 1), (0, 111, 22), (-2147483648), 2147483647), ((6, 39, 2), (0, 111, 23), 1, 8), ((6, 39, 3), (0, 111, 24), (-2147483648), 2147483647), ((6, 40, 0), (0, 111, 27), (-2147483648), 2147483647), ((6, 40, 1), (0, 111, 28), (-2147483648), 2147483647), ((6, 40, 2), (0, 111, 29), 1, 8), ((6, 40, 3), (0, 111, 30), (-2147483648), 2147483647), ((6, 41, 0), (0, 111, 33), (-2147483648), 2147483647), ((6, 41, 1), (0, 111, 34), (-2147483648), 2147483647), ((6, 41, 2), (0, 111, 35), 1, 8), ((6, 41, 3), (0, 111, 36), (-2147483648), 2147483647), ((6, 42, 0), (0, 111, 39), (-2147483648), 2147483647), ((6, 42, 1), (0, 111, 40), (-2147483648), 2147483647), ((6, 42, 2), (0, 111, 41), 1, 8), ((6, 42, 3), (0, 111, 42), (-2147483648), 2147483647), ((6, 43, 0), (0, 111, 45), (-2147483648), 2147483647), ((6, 43, 1), (0, 111, 46), (-2147483648), 2147483647), ((6, 43, 2), (0, 111, 47), 1, 8), ((6, 43, 3), (0, 111, 48), (-2147483648), 2147483647), ((6, 44, 0), (0, 111, 51), (-2147483648), 2147483647), ((6, 44, 1), (0, 111, 52), (-2147483648), 2147483647), ((6, 44, 2), (0, 111, 53), 1, 8), ((6, 44, 3), (0, 111, 54), (-2147483648), 2147483647), ((6, 45, 0), (0, 111, 57), (-2147483648), 2147483647), ((6, 45, 1), (0, 111, 58), (-2147483648), 2147483647), ((6, 45, 2), (0, 111, 59), 1, 8), ((6, 45, 3), (0, 111, 60), (-2147483648), 2147483647), ((6, 46, 0), (0, 111, 63), (-2147483648), 2147483647), ((6, 46, 1), (0, 111, 64), (-2147483648), 2147483647), ((6, 46, 2), (0, 111, 65), 1, 8), ((6, 46, 3), (0, 111, 66), (-2147483648), 2147483647), ((6, 47, 0), (0, 111, 69), (-2147483648), 2147483647), ((6, 47, 1), (0, 111, 70), (-2147483648), 2147483647), ((6, 47, 2), (0, 111, 71), 1, 8), ((6, 47, 3), (0, 111, 72), (-2147483648), 2147483647)]
set_option maxRecDepth 100000 in
set_option maxHeartbeats 40000000 in
theorem ox_keep9 : oxchk ro_keep9 [(48, 48, 5, 9), (49, 49, 0, 15), (52, 52, 0, 2), (53, 61, 0, 5), (0, 0, 9, 9)] [] to_keep9 763 128 0 [] [] (fun _ C _ x => ecV [(48, 9, (1, 1, 0, 2)), (48, 7, (1, 1, 0, 3)), (53, 0, (1, 1, 0, 4)), (53, 1, (1, 1, 0, 5)), (53, 2, (1, 1, 0, 6)), (53, 3, (1, 1, 0, 7)), (54, 0, (1, 1, 0, 8)), (54, 1, (1, 1, 0, 9)), (54, 2, (1, 1, 0, 10)), (54, 3, (1, 1, 0, 11)), (55, 0, (1, 1, 0, 12)), (55, 1, (1, 1, 0, 13)), (55, 2, (1, 1, 0, 14)), (55, 3, (1, 1, 0, 15)), (56, 0, (1, 1, 0, 16)), (56, 1, (1, 1, 0, 17)), (56, 2, (1, 1, 0, 18)), (56, 3, (1, 1, 0, 19)), (57, 0, (1, 1, 0, 20)), (57, 1, (1, 1, 0, 21)), (57, 2, (1, 1, 0, 22)), (57, 3, (1, 1, 0, 23)), (58, 0, (1, 1, 0, 24)), (58, 1, (1, 1, 0, 25)), (58, 2, (1, 1, 0, 26)), (58, 3, (1, 1, 0, 27)), (59, 0, (1, 1, 0, 28)), (59, 1, (1, 1, 0, 29)), (59, 2, (1, 1, 0, 30)), (59, 3, (1, 1, 0, 31)), (60, 0, (1, 1, 0, 32)), (60, 1, (1, 1, 0, 33)), (60, 2, (1, 1, 0, 34)), (60, 3, (1, 1, 0, 35)), (61, 0, (1, 1, 0, 36)), (61, 1, (1, 1, 0, 37)), (61, 2, (1, 1, 0, 38)), (61, 3, (1, 1, 0, 39)), (48, 5, (0, 9, 9, 0)), (0, 9, (0, 1, 1, 0))] (some (0, 9, 9, 0)) C x) = true := sorry
def to_backy9 : aTb := fun mi i => none
def ro_backy9 : List pq := [((8, 48, 5), (0, 112, 0), 9, 9), ((8, 48, 9), (0, 112, 4), (-2147483648), 2147483647), ((8, 48, 7), (0, 112, 2), (-2147483648), 2147483647), ((6, 53, 0), (0, 112, 21), (-2147483648), 2147483647), ((6, 53, 1), (0, 112, 22), (-2147483648), 2147483647), ((6, 53, 2), (0, 112, 23), 1, 8), ((6, 53, 3), (0, 112, 24), (-2147483648), 2147483647), ((6, 54, 0), (0, 112, 27), (-2147483648), 2147483647), ((6, 54, 1), (0, 112, 28), (-2147483648), 2147483647), ((6, 54, 2), (0, 112, 29), 1, 8), ((6, 54, 3), (0, 112, 30), (-2147483648), 2147483647), ((6, 55, 0), (0, 112, 33), (-2147483648), 2147483647), ((6, 55, 1), (0, 112, 34), (-2147483648), 2147483647), ((6, 55, 2), (0, 112, 35), 1, 8), ((6, 55, 3), (0, 112, 36), (-2147483648), 2147483647), ((6, 56, 0), (0, 112, 39), (-2147483648), 2147483647), ((6, 56, 1), (0, 112, 40), (-2147483648), 2147483647), ((6, 56, 2), (0, 112, 41), 1, 8), ((6, 56, 3), (0, 112, 42), (-2147483648), 2147483647), ((6, 57, 0), (0, 112, 45), (-2147483648), 2147483647), ((6, 57, 1), (0, 112, 46), (-2147483648), 2147483647), ((6, 57, 2), (0, 112, 47), 1, 8), ((6, 57, 3), (0, 112, 48), (-2147483648), 2147483647), ((6, 58, 0), (0, 112, 51), (-2147483648), 2147483647), ((6, 58, 1), (0, 112, 52), (-2147483648), 2147483647), ((6, 58, 2), (0, 112, 53), 1, 8), ((6, 58, 3), (0, 112, 54), (-2147483648), 2147483647), ((6, 59, 0), (0, 112, 57), (-2147483648), 2147483647), ((6, 59, 1), (0, 112, 58), (-2147483648), 2147483647), ((6, 59, 2), (0, 112, 59), 1, 8), ((6, 59, 3), (0, 112, 60), (-2147483648), 2147483647), ((6, 60, 0), (0, 112, 63), (-2147483648), 2147483647), ((6, 60, 1), (0, 112, 64), (-2147483648), 2147483647), ((6, 60, 2), (0, 112, 65), 1, 8), ((6, 60, 3), (0, 112, 66), (-2147483648), 2147483647), ((6, 61, 0), (0, 112, 69), (-2147483648), 2147483647), ((6, 61, 1), (0, 112, 70), (-2147483648), 2147483647), ((6, 61, 2), (0, 112, 71), 1, 8), ((6, 61, 3), (0, 112, 72), (-2147483648), 2147483647), ((9, 0, 9), (10, 110, 3), 1, 1)]
set_option maxRecDepth 100000 in
set_option maxHeartbeats 40000000 in
theorem ox_backy9 : oxchk ro_backy9 [(34, 34, 5, 9), (35, 35, 0, 15), (38, 38, 0, 2), (39, 47, 0, 5)] [] to_backy9 763 129 0 [] [] (fun _ C _ x => ecV [(34, 9, (1, 1, 0, 2)), (34, 7, (1, 1, 0, 3)), (39, 0, (1, 1, 0, 4)), (39, 1, (1, 1, 0, 5)), (39, 2, (1, 1, 0, 6)), (39, 3, (1, 1, 0, 7)), (40, 0, (1, 1, 0, 8)), (40, 1, (1, 1, 0, 9)), (40, 2, (1, 1, 0, 10)), (40, 3, (1, 1, 0, 11)), (41, 0, (1, 1, 0, 12)), (41, 1, (1, 1, 0, 13)), (41, 2, (1, 1, 0, 14)), (41, 3, (1, 1, 0, 15)), (42, 0, (1, 1, 0, 16)), (42, 1, (1, 1, 0, 17)), (42, 2, (1, 1, 0, 18)), (42, 3, (1, 1, 0, 19)), (43, 0, (1, 1, 0, 20)), (43, 1, (1, 1, 0, 21)), (43, 2, (1, 1, 0, 22)), (43, 3, (1, 1, 0, 23)), (44, 0, (1, 1, 0, 24)), (44, 1, (1, 1, 0, 25)), (44, 2, (1, 1, 0, 26)), (44, 3, (1, 1, 0, 27)), (45, 0, (1, 1, 0, 28)), (45, 1, (1, 1, 0, 29)), (45, 2, (1, 1, 0, 30)), (45, 3, (1, 1, 0, 31)), (46, 0, (1, 1, 0, 32)), (46, 1, (1, 1, 0, 33)), (46, 2, (1, 1, 0, 34)), (46, 3, (1, 1, 0, 35)), (47, 0, (1, 1, 0, 36)), (47, 1, (1, 1, 0, 37)), (47, 2, (1, 1, 0, 38)), (47, 3, (1, 1, 0, 39)), (34, 5, (0, 9, 9, 0))] (some (0, 9, 9, 0)) C x) = true := sorry
def to_back0 : aTb := fun mi i => none
def ro_back0 : List pq := [((9, 0, 9), (10, 110, 3), 0, 0)]
set_option maxRecDepth 100000 in
set_option maxHeartbeats 40000000 in
theorem ox_back0 : oxchk ro_back0 [] [] to_back0 11 129 0 [] [] (fun _ C _ x => ecV [] (some (0, (-1000000002), (-1000000002), 0)) C x) = true := sorry
def to_sv0_1 : aTb := fun mi i => none
def ro_sv0_1 : List pq := []
set_option maxRecDepth 100000 in
set_option maxHeartbeats 40000000 in
theorem ox_sv0_1 : oxchk ro_sv0_1 [(82, 82, 1, 2), (83, 83, 0, 23)] [] to_sv0_1 284 117 0 [(0, 0), ((-1), (-1)), ((-2147483648), 2147483647)] [] (fun _ C _ x => ecV (svC 83) none C x) = true := sorry
def to_sv0_3 : aTb := fun mi i => none
def ro_sv0_3 : List pq := []
set_option maxRecDepth 100000 in
set_option maxHeartbeats 40000000 in
theorem ox_sv0_3 : oxchk ro_sv0_3 [(82, 82, 1, 2), (83, 83, 0, 23)] [] to_sv0_3 289 117 0 [(0, 0), (0, 0), (0, 24)] [] (fun _ C _ x => ecV (svC 83) none C x) = true := sorry
def to_sv0_6 : aTb := fun mi i => none
def ro_sv0_6 : List pq := []
set_option maxRecDepth 100000 in
set_option maxHeartbeats 40000000 in
theorem ox_sv0_6 : oxchk ro_sv0_6 [(82, 82, 1, 2), (83, 83, 0, 23)] [] to_sv0_6 289 117 0 [(0, 0), (1, 1), (0, 24)] [] (fun _ C _ x => ecV (svC 83) none C x) = true := sorry
def to_sv1_1 : aTb := fun mi i => none
def ro_sv1_1 : List pq := []
set_option maxRecDepth 100000 in
set_option maxHeartbeats 40000000 in
theorem ox_sv1_1 : oxchk ro_sv1_1 [(84, 84, 1, 2), (85, 85, 0, 23)] [] to_sv1_1 284 117 0 [(1, 1), ((-1), (-1)), ((-2147483648), 2147483647)] [] (fun _ C _ x => ecV (svC 85) none C x) = true := sorry
def to_sv1_3 : aTb := fun mi i => none
def ro_sv1_3 : List pq := []
set_option maxRecDepth 100000 in
set_option maxHeartbeats 40000000 in
theorem ox_sv1_3 : oxchk ro_sv1_3 [(84, 84, 1, 2), (85, 85, 0, 23)] [] to_sv1_3 289 117 0 [(1, 1), (0, 0), (0, 24)] [] (fun _ C _ x => ecV (svC 85) none C x) = true := sorry
def to_sv1_6 : aTb := fun mi i => none
def ro_sv1_6 : List pq := []
set_option maxRecDepth 100000 in
set_option maxHeartbeats 40000000 in
theorem ox_sv1_6 : oxchk ro_sv1_6 [(84, 84, 1, 2), (85, 85, 0, 23)] [] to_sv1_6 289 117 0 [(1, 1), (1, 1), (0, 24)] [] (fun _ C _ x => ecV (svC 85) none C x) = true := sorry
def to_sv2_1 : aTb := fun mi i => none
def ro_sv2_1 : List pq := []
set_option maxRecDepth 100000 in
set_option maxHeartbeats 40000000 in
theorem ox_sv2_1 : oxchk ro_sv2_1 [(86, 86, 1, 2), (87, 87, 0, 23)] [] to_sv2_1 284 117 0 [(2, 2), ((-1), (-1)), ((-2147483648), 2147483647)] [] (fun _ C _ x => ecV (svC 87) none C x) = true := sorry
def to_sv2_3 : aTb := fun mi i => none
def ro_sv2_3 : List pq := []
set_option maxRecDepth 100000 in
set_option maxHeartbeats 40000000 in
theorem ox_sv2_3 : oxchk ro_sv2_3 [(86, 86, 1, 2), (87, 87, 0, 23)] [] to_sv2_3 289 117 0 [(2, 2), (0, 0), (0, 24)] [] (fun _ C _ x => ecV (svC 87) none C x) = true := sorry
def to_sv2_6 : aTb := fun mi i => none
def ro_sv2_6 : List pq := []
set_option maxRecDepth 100000 in
set_option maxHeartbeats 40000000 in
theorem ox_sv2_6 : oxchk ro_sv2_6 [(86, 86, 1, 2), (87, 87, 0, 23)] [] to_sv2_6 289 117 0 [(2, 2), (1, 1), (0, 24)] [] (fun _ C _ x => ecV (svC 87) none C x) = true := sorry
def to_sv3_1 : aTb := fun mi i => none
def ro_sv3_1 : List pq := []
set_option maxRecDepth 100000 in
set_option maxHeartbeats 40000000 in
theorem ox_sv3_1 : oxchk ro_sv3_1 [(88, 88, 1, 2), (89, 89, 0, 23)] [] to_sv3_1 284 117 0 [(3, 3), ((-1), (-1)), ((-2147483648), 2147483647)] [] (fun _ C _ x => ecV (svC 89) none C x) = true := sorry
def to_sv3_3 : aTb := fun mi i => none
def ro_sv3_3 : List pq := []
set_option maxRecDepth 100000 in
set_option maxHeartbeats 40000000 in
theorem ox_sv3_3 : oxchk ro_sv3_3 [(88, 88, 1, 2), (89, 89, 0, 23)] [] to_sv3_3 289 117 0 [(3, 3), (0, 0), (0, 24)] [] (fun _ C _ x => ecV (svC 89) none C x) = true := sorry
def to_sv3_6 : aTb := fun mi i => none
def ro_sv3_6 : List pq := []
set_option maxRecDepth 100000 in
set_option maxHeartbeats 40000000 in
theorem ox_sv3_6 : oxchk ro_sv3_6 [(88, 88, 1, 2), (89, 89, 0, 23)] [] to_sv3_6 289 117 0 [(3, 3), (1, 1), (0, 24)] [] (fun _ C _ x => ecV (svC 89) none C x) = true := sorry
/-! ===== tides: how z and THE TIDE go on ===== -/
def dz (v : Int32) : Int32 := v * 1103515245 + 12345
def itF (f : Int32 → Int32) : Nat → Int32 → Int32
  | 0, v => v
  | n + 1, v => itF f n (f v)
theorem itS (f : Int32 → Int32) (n : Nat) (v : Int32) : itF f (n + 1) v = itF f n (f v) := rfl
def dzN (n : Nat) (v : Int32) : Int32 := itF dz n v
theorem dzN0 (v : Int32) : dzN 0 v = v := rfl
theorem dzNs (n : Nat) (v : Int32) : dzN (n + 1) v = dzN n (dz v) := itS dz n v
/-- v is the draw behind s -/
def isDz (Δ : aD) (s v : AV) : Bool := det s && det v && Δ.any (fun f => decide (f.1 = 10) && decide (f.2.2.1 = cn 12345) && decide (f.2.2.2 = v) && det f.2.1 && Δ.any (fun g => decide (g.1 = 12) && decide (g.2.1 = s) && decide (g.2.2.1 = cn 1103515245) && decide (g.2.2.2 = f.2.1)))
theorem isDz_ok {n : Nat} {σ : Nat → Int} {Δ : aD} {s v : AV} {u w : Int32} (hf : fok n σ Δ) (hd : isDz Δ s v = true) (hz : zG n σ u.toInt s) (hw : zG n σ w.toInt v) : w = dz u := by
  unfold isDz at hd
  rw [Bool.and_eq_true, Bool.and_eq_true] at hd
  obtain ⟨⟨d1, d2⟩, h1⟩ := hd
  obtain ⟨f, hfm, h1⟩ := List.any_eq_true.mp h1
  rw [Bool.and_eq_true, Bool.and_eq_true, Bool.and_eq_true, Bool.and_eq_true] at h1
  obtain ⟨⟨⟨⟨f1, f2⟩, f3⟩, d3⟩, h2⟩ := h1
  obtain ⟨g, hgm, h2⟩ := List.any_eq_true.mp h2
  rw [Bool.and_eq_true, Bool.and_eq_true, Bool.and_eq_true] at h2
  obtain ⟨⟨⟨g1, g2⟩, g3⟩, g4⟩ := h2
  have f1 := of_decide_eq_true f1
  have f2 := of_decide_eq_true f2
  have f3 := of_decide_eq_true f3
  have g1 := of_decide_eq_true g1
  have g2 := of_decide_eq_true g2
  have g3 := of_decide_eq_true g3
  have g4 := of_decide_eq_true g4
  have k1 := hf f hfm
  have k2 := hf g hgm
  unfold fcG at k1 k2
  rw [if_neg (by omega)] at k1 k2
  obtain ⟨a, b, a1, a2, a3⟩ := k1
  obtain ⟨p, q, b1, b2, b3⟩ := k2
  rw [f2] at a2
  rw [f1, f3] at a3
  rw [g2] at b1
  rw [g3] at b2
  rw [g1, g4] at b3
  obtain rfl : p = u := Int32.toInt_inj.mp (det_ok d1 b1 hz)
  obtain rfl : q = 1103515245 := Int32.toInt_inj.mp ((zcn b2).trans (by decide))
  obtain rfl : b = 12345 := Int32.toInt_inj.mp ((zcn a2).trans (by decide))
  have b3 : zG n σ (p * 1103515245).toInt f.2.1 := b3
  have a3 : zG n σ (a + 12345).toInt v := a3
  obtain rfl : a = p * 1103515245 := Int32.toInt_inj.mp (det_ok d3 a1 b3)
  exact Int32.toInt_inj.mp (det_ok d2 hw a3)
def tb_fl : aTb := fun mi i => if mi = 78 ∧ i = 12 then some ([(0, 2147483647, .inl 4)], [], [5], [(5, 5, 0, 95), (1, 1, 3, 3), (34, 34, 8, 8), (39, 47, 4, 5)], 0, true) else none
def tb_go : aTb := fun mi i => if mi = 190 ∧ i = 7 then some ([(0, 2147483647, .inl 2)], [], [3, 4], [(125, 125, 0, 127), (126, 126, 0, 99), (111, 111, 3, 3), (111, 111, 25, 26), (111, 111, 31, 32), (111, 111, 37, 38), (111, 111, 43, 44), (111, 111, 49, 50), (111, 111, 55, 56), (111, 111, 61, 62), (111, 111, 67, 68), (111, 111, 73, 74)], 0, true) else none
def kc_fl : List (Nat × aK) := [(48, k_covers), (50, k_sayAt), (44, k_value), (54, k_gainOver), (55, k_loss), (56, k_worth), (49, k_covered), (57, k_joined), (58, k_clashes), (79, k_seeAgain34F)]
def Wfl : aW := [(5, 5, 0, 95), (1, 1, 3, 3), (34, 34, 7, 9), (39, 47, 4, 5)]
def Wgo : aW := [(125, 125, 0, 127), (126, 126, 0, 99), (111, 111, 2, 4), (111, 111, 25, 26), (111, 111, 31, 32), (111, 111, 37, 38), (111, 111, 43, 44), (111, 111, 49, 50), (111, 111, 55, 56), (111, 111, 61, 62), (111, 111, 67, 68), (111, 111, 73, 74)]
def ecFl (S : aS) : Bool := (match S.2.2.2.1 with
  | [a, b, c, d, e, g] => decide (a = rf5 34) && decide (b = (1, 1, 0, 1)) && decide (c = (1, 1, 1, 2)) && !isL d && !isL e && !isL g
  | _ => false) && S.2.2.2.2.isEmpty && (match cfind S.2.1 (rf5 34) (cn 9) with
  | some v => isDz S.2.2.1 (1, 1, 0, 3) v && decide (v.1 ≤ 1)
  | none => false) && decide (cfind S.2.1 (rf5 34) (cn 7) = some (1, 1, 1, 4))
set_option maxRecDepth 100000 in
set_option maxHeartbeats 40000000 in
theorem ck_fl : aex prog HT Wfl kc_fl true tb_fl (fun i' S => decide (i' = 2) && (ctr S.2.2.1 || ecFl S)) oxN 80 true 50 78 mX6_flow 2 [.inl (77777, 77777), .inl (1, 100), .inl (0, 99), .inl (-2147483648, 2147483647), .inl (0, 20000)] [(rf5 34, cn 9, (1, 1, 0, 3)), (rf5 34, cn 7, (1, 1, 0, 4))] [(0, (1, 1, 0, 2), (1, 1, 0, 1), cn 0)] [rf5 34, (1, 1, 0, 1), (1, 1, 0, 2), any7, any7, any7] [] [] [] = true := sorry
def ecGo : aG → aC → aD → Option AV → Bool := fun _ C Δ x => decide (x = none) && (match cfind C (rf5 111) (cn 4) with
  | some v => isDz Δ (1, 1, 0, 1) v && decide (v.1 ≤ 1)
  | none => false) && decide (cfind C (rf5 111) (cn 2) = some (1, 1, 1, 2))
set_option maxRecDepth 100000 in
set_option maxHeartbeats 40000000 in
theorem ck_go : aex prog HT Wgo kc_m_goesOn true tb_go noS (oxC ecGo) 200 false 110 190 mX8_goesOn 0 [.inl (77777, 77777), .inl (-2147483648, 2147483647), .inl (0, 20000)] [(rf5 111, cn 4, (1, 1, 0, 1)), (rf5 111, cn 2, (1, 1, 0, 2))] [] [rf5 110, any7, any7, any7, any7] [] [] [] = true := sorry
def ecCt (S : aS) : Bool := (match S.2.2.2.1, S.2.2.2.2 with
  | [a, b, c], [v, w] => decide (a = rf5 0) && decide (b = (1, 1, 0, 1)) && isI c && decide (w = rf5 34) && isI v && det v && S.2.2.1.any (fun g => decide (g.1 = 22) && decide (g.2.1 = (1, 1, 0, 1)) && decide (g.2.2.1 = (1, -1, 9999, 2)) && decide (g.2.2.2 = v))
  | _, _ => false)
set_option maxRecDepth 100000 in
set_option maxHeartbeats 40000000 in
theorem ck_ct : aex prog HT [] [] true tb0 (fun i' S => decide (i' = 20) && (ctr S.2.2.1 || ecCt S)) oxN 40 false 50 103 mX7_tides 0 [.inl (77777, 77777), .inl (1, 100), .inl (0, 9999)] [(rf5 34, cn 7, (1, 1, 0, 2))] [] [rf5 0, (1, 1, 0, 1), any7] [] [] [] = true := sorry
section TID
variable {E : pX} {h : List pC}
theorem KF : ∀ p ∈ kc_fl, KGi E pV1 JT p.1 p.2 := by unfold kc_fl; exact (List.forall_mem_cons.mpr ⟨kg_covers JT_P hands, (List.forall_mem_cons.mpr ⟨kg_sayAt JT_P hands, (List.forall_mem_cons.mpr ⟨kg_value JT_P hands, (List.forall_mem_cons.mpr ⟨kg_gainOver JT_P hands, (List.forall_mem_cons.mpr ⟨kg_loss JT_P hands, (List.forall_mem_cons.mpr ⟨kg_worth JT_P hands, (List.forall_mem_cons.mpr ⟨kg_covered JT_P hands, (List.forall_mem_cons.mpr ⟨kg_joined JT_P hands, (List.forall_mem_cons.mpr ⟨kg_clashes JT_P hands, (List.forall_mem_cons.mpr ⟨kg_seeAgain34F, (fun _ h => absurd h List.not_mem_nil)⟩)⟩)⟩)⟩)⟩)⟩)⟩)⟩)⟩)⟩)
theorem KM : ∀ p ∈ kc_m_goesOn, KGi E pV1 JT p.1 p.2 := by unfold kc_m_goesOn; exact (List.forall_mem_cons.mpr ⟨kg_m_saysAt JT_P hands, (List.forall_mem_cons.mpr ⟨kg_m_loses JT_P hands, (List.forall_mem_cons.mpr ⟨kg_m_worth JT_P hands, (List.forall_mem_cons.mpr ⟨kg_m_covers JT_P hands, (List.forall_mem_cons.mpr ⟨kg_m_counts JT_P hands, (List.forall_mem_cons.mpr ⟨kg_m_gains hands, (List.forall_mem_cons.mpr ⟨kg_m_manyIn hands, (List.forall_mem_cons.mpr ⟨kg_m_falseOf JT_P hands, (List.forall_mem_cons.mpr ⟨kg_m_joinBy JT_P hands, (List.forall_mem_cons.mpr ⟨kg_m_doClash JT_P hands, (List.forall_mem_cons.mpr ⟨kg_m_laidOnes JT_P hands, (List.forall_mem_cons.mpr ⟨kg_m_coveredBy JT_P hands, (fun _ h => absurd h List.not_mem_nil)⟩)⟩)⟩)⟩)⟩)⟩)⟩)⟩)⟩)⟩)⟩)⟩)
theorem sixL {L : pL} (h : L.length = 6) : ∃ a b c d e f, L = [a, b, c, d, e, f] := by
  match L, h with
  | [a, b, c, d, e, f], _ => exact ⟨a, b, c, d, e, f, rfl⟩
theorem threeL {L : pL} (h : L.length = 3) : ∃ a b c, L = [a, b, c] := by
  match L, h with
  | [a, b, c], _ => exact ⟨a, b, c, rfl⟩
theorem w_ty (hh : HI HT h) {i : Nat} {p : Int × Int} (he : elT HT 8 34 i i = some (.inl p)) : ct h 34 i = some (.int (ri h 34 i)) := (ri_ty hh he).1
theorem flow_l {d : Nat} (hd : 50 ≤ d + 1) {n : Int32} (hn : n.toInt ≤ 100) : ∀ (m : Nat) (i : Int32) (a3 a4 a5 : Option Value) (h : List pC), i.toInt + m = n.toInt → 0 ≤ i.toInt → pcat2 a3 = false → pcat2 a4 = false → pcat2 a5 = false → HI HT h → JT h → 0 ≤ (ri h 34 7).toInt → (ri h 34 7).toInt + m ≤ 20000 → Gl prog E pV1 (fun r h' => r = none ∧ HI HT h' ∧ JT h' ∧ Fr Wfl h h' ∧ ri h' 34 9 = dzN m (ri h 34 9) ∧ (ri h' 34 7).toInt = (ri h 34 7).toInt + m) (d + 1) mX6_flow 2 [some (.ref 34), some (.int n), some (.int i), a3, a4, a5] [] h [] := by
  intro m
  induction m with
  | zero =>
    intro i a3 a4 a5 h h1 h2 c3 c4 c5 hh hj t0 t1
    refine ⟨none, h, ?_, rfl, hh, hj, Fr.rf _ _, rfl, by omega⟩
    refine RA.steps 2 rfl ?_
    refine RA.if2T (x := 40) rfl (decide_eq_true (Int32.le_iff_toInt_le.mpr (by omega))) ?_
    exact RA.ret rfl rfl
  | succ m ih =>
    intro i a3 a4 a5 h g1 g2 c3 c4 c5 hh hj t0 t1
    refine hop (σ0 := fun t => match t with | 0 => 77777 | 1 => n.toInt | 2 => i.toInt | 3 => (ri h 34 9).toInt | _ => (ri h 34 7).toInt) ck_fl KF (by decide) hj hd (by decide) ⟨⟨Nat.le_refl _, agr.rf _ _⟩, fun k e hk => ?_, ?_, ?_, LG.cons (lGr 34) (LG.cons (lGi (by decide) (by show n.toInt = 1 * n.toInt + 0; omega)) (LG.cons (lGi (by decide) (by show i.toInt = 1 * i.toInt + 0; omega)) (LG.cons (lG.any c3) (LG.cons (lG.any c4) (LG.cons (lG.any c5) LGn))))), trivial, hh, Fr.rf _ _⟩ (fun σ S L' st' h1 hec g => ?_)
    · match k, hk with
      | 0, hk => cases hk; exact ⟨Int.le_refl 77777, Int.le_refl 77777⟩
      | 1, hk => cases hk; exact ⟨by show (1 : Int) ≤ n.toInt; omega, hn⟩
      | 2, hk => cases hk; exact ⟨g2, by show i.toInt ≤ 99; omega⟩
      | 3, hk => cases hk; exact ⟨i32_lo _, i32_hi _⟩
      | 4, hk => cases hk; exact ⟨t0, by show (ri h 34 7).toInt ≤ 20000; omega⟩
      | k + 5, hk => simp at hk
    · exact cok.cs ⟨34, 9, _, Or.inl ⟨rfl, rfl⟩, cnZ _, w_ty hh rfl, Nat.le_refl 1, zG.mk (by decide) (by show (ri h 34 9).toInt = 1 * (ri h 34 9).toInt + 0; omega) (by decide)⟩ (cok.cs ⟨34, 7, _, Or.inl ⟨rfl, rfl⟩, cnZ _, w_ty hh rfl, Nat.le_refl 1, zG.mk (by decide) (by show (ri h 34 7).toInt = 1 * (ri h 34 7).toInt + 0; omega) (by decide)⟩ cok.nil)
    · intro f hf
      obtain rfl := List.mem_singleton.mp hf
      exact ⟨i.toInt, n.toInt, zG.mk (by decide) (by show i.toInt = 1 * i.toInt + 0; omega) (by decide), zG.mk (by decide) (by show n.toInt = 1 * n.toInt + 0; omega) (by decide), (show i.toInt < n.toInt by omega)⟩
    · unfold ecFl at hec
      rw [Bool.and_eq_true, Bool.and_eq_true, Bool.and_eq_true] at hec
      obtain ⟨⟨⟨b1, b2⟩, b3⟩, b4⟩ := hec
      obtain ⟨⟨gn, ga⟩, gk, gc, gf, gL, gS_, gh, gF⟩ := g
      split at b1
      · rename_i xa xb xc xd xe xf hA
        rw [hA] at gL
        simp only [Bool.and_eq_true, decide_eq_true_eq, Bool.not_eq_true'] at b1
        obtain ⟨⟨⟨⟨⟨rfl, rfl⟩, rfl⟩, e3⟩, e4⟩, e5⟩ := b1
        obtain ⟨l0, l1, l2, l3, l4, l5, rfl⟩ := sixL gL.1
        obtain ⟨w0, k0, v0⟩ := gL.at (k := 0) rfl (by decide)
        obtain ⟨w1, k1, v1⟩ := gL.at (k := 1) rfl (by decide)
        obtain ⟨w2, k2, v2⟩ := gL.at (k := 2) rfl (by decide)
        have q3 : pcat2 l3 = false := gL.cat2 (k := 3) rfl (of_decide_eq_false e3)
        have q4 : pcat2 l4 = false := gL.cat2 (k := 4) rfl (of_decide_eq_false e4)
        have q5 : pcat2 l5 = false := gL.cat2 (k := 5) rfl (of_decide_eq_false e5)
        obtain rfl : l0 = some w0 := k0
        obtain rfl : l1 = some w1 := k1
        obtain rfl : l2 = some w2 := k2
        obtain ⟨a, rfl, ha | ha⟩ := v0.ref (Or.inl rfl)
        rotate_left
        · exact absurd ha.1 (show ¬ (5 : Nat) = 6 by decide)
        obtain rfl : a = 34 := ha.2
        obtain ⟨u1, rfl, z1⟩ := v1.int (Nat.le_refl 1)
        obtain ⟨u2, rfl, z2⟩ := v2.int (Nat.le_refl 1)
        have y1 := zsy z1
        have y2 := (z2.lin (show ¬ (1 : Nat) % 2 = 0 by decide)).1
        have s1 : σ 1 = n.toInt := ga 1 (by decide)
        have s2 : σ 2 = i.toInt := ga 2 (by decide)
        have s3 : σ 3 = (ri h 34 9).toInt := ga 3 (by decide)
        have s4 : σ 4 = (ri h 34 7).toInt := ga 4 (by decide)
        obtain rfl : u1 = n := Int32.toInt_inj.mp (y1.trans s1)
        have y2 : u2.toInt = i.toInt + 1 := by
          have y2 : u2.toInt = 1 * σ 2 + 1 := y2
          omega
        obtain rfl : st' = [] := by
          have := gS_
          rw [List.isEmpty_iff.mp b2] at this
          exact this.nil_inv
        have t7 : (ri h1 34 7).toInt = (ri h 34 7).toInt + 1 := by
          have y3 := (((ck_ri gc (of_decide_eq_true b4) (Nat.le_refl 1))).lin (show ¬ (1 : Nat) % 2 = 0 by decide)).1
          have y3 : (ri h1 34 7).toInt = 1 * σ 4 + 1 := y3
          omega
        have t9 : ri h1 34 9 = dz (ri h 34 9) := by
          split at b3
          · rename_i v hv
            rw [Bool.and_eq_true] at b3
            exact isDz_ok gf b3.1 (zG.mk (by decide) (by rw [s3]; omega) (Nat.lt_of_lt_of_le (show 3 < 5 by decide) gn)) (ck_ri gc hv (of_decide_eq_true b3.2))
          · cases b3
        refine (ih u2 l3 l4 l5 h1 (by omega) (by omega) q3 q4 q5 gh (JT_P _ _ _ (by decide) gF hj) (by omega) (by omega)).weak (fun r h2 hp => ?_)
        obtain ⟨p1, p2, p3, p4, p5, p6⟩ := hp
        exact ⟨p1, p2, p3, gF.tr p4, by rw [p5, t9, dzNs], by omega⟩
      · cases b1
theorem goes_x {d : Nat} (hd : 110 ≤ d) (hh : HI HT h) (hj : JT h) (t0 : 0 ≤ (ri h 111 2).toInt) (t1 : (ri h 111 2).toInt ≤ 20000) : ∃ h', Run prog E pV1 d mX8_goesOn [.ref 110] h (none, h', 0, 0) ∧ HI HT h' ∧ JT h' ∧ Fr Wgo h h' ∧ ri h' 111 4 = dz (ri h 111 4) ∧ (ri h' 111 2).toInt = (ri h 111 2).toInt + 1 := by
  obtain ⟨f, p1, u1, -⟩ := hi_int hh HT111
  have c4 : ct h 111 4 = some (.int (ri h 111 4)) := by rw [ct_ri p1 (by decide), ← u1 4 (by decide)]
  have c2 : ct h 111 2 = some (.int (ri h 111 2)) := by rw [ct_ri p1 (by decide), ← u1 2 (by decide)]
  obtain ⟨r, h', q1, q2, q3, q4, rfl, q5, q6⟩ := oxH (E := E) (d := d) (N := mX8_goesOn) (as := [.ref 110]) (σ0 := fun t => match t with | 0 => 77777 | 1 => (ri h 111 4).toInt | _ => (ri h 111 2).toInt) (Q := fun r h' => r = none ∧ ri h' 111 4 = dz (ri h 111 4) ∧ (ri h' 111 2).toInt = (ri h 111 2).toInt + 1) ck_go KM (by decide) hj hd ⟨_, _, rfl⟩ (Nat.le_of_ble_eq_true rfl) ⟨⟨Nat.le_refl _, agr.rf _ _⟩, (fun k e hk => by
      match k, hk with
      | 0, hk => cases hk; exact ⟨Int.le_refl 77777, Int.le_refl 77777⟩
      | 1, hk => cases hk; exact ⟨i32_lo _, i32_hi _⟩
      | 2, hk => cases hk; exact ⟨t0, t1⟩
      | k + 3, hk => simp at hk), cok.cs ⟨111, 4, _, Or.inl ⟨rfl, rfl⟩, cnZ _, c4, Nat.le_refl 1, zG.mk (by decide) (by show (ri h 111 4).toInt = 1 * (ri h 111 4).toInt + 0; omega) (by decide)⟩ (cok.cs ⟨111, 2, _, Or.inl ⟨rfl, rfl⟩, cnZ _, c2, Nat.le_refl 1, zG.mk (by decide) (by show (ri h 111 2).toInt = 1 * (ri h 111 2).toInt + 0; omega) (by decide)⟩ cok.nil), (fun e he => by cases he), LG.cons (lGr 110) (LG.cons (lG.any rfl) (LG.cons (lG.any rfl) (LG.cons (lG.any rfl) (LG.cons (lG.any rfl) LGn)))), trivial, hh, Fr.rf _ _⟩ (fun σ Γ C Δ x r h' hec ga gk gc gf hr => by
    unfold ecGo at hec
    rw [Bool.and_eq_true, Bool.and_eq_true] at hec
    obtain ⟨⟨b1, b2⟩, b3⟩ := hec
    obtain rfl := of_decide_eq_true b1
    have s1 : σ 1 = (ri h 111 4).toInt := ga 1 (by decide)
    have s2 : σ 2 = (ri h 111 2).toInt := ga 2 (by decide)
    refine ⟨?_, ?_, ?_⟩
    · cases r with
      | none => rfl
      | some w => exact hr.elim
    · split at b2
      · rename_i v hv
        rw [Bool.and_eq_true] at b2
        have hcv := ck_ri gc hv (of_decide_eq_true b2.2)
        have hb := b2.1
        exact isDz_ok (s := (1, 1, 0, 1)) (u := ri h 111 4) (gf.up (Nat.le_max_left Γ.length 2) (agr.rf _ _)) hb (zG.mk (by decide) (by rw [s1]; omega) (Nat.lt_of_lt_of_le (show 1 < 2 by decide) (Nat.le_max_right _ _))) (hcv.up (Nat.le_max_left Γ.length 2) (agr.rf _ _))
      · cases b2
    · have y3 := ((ck_ri gc (of_decide_eq_true b3) (Nat.le_refl 1)).lin (show ¬ (1 : Nat) % 2 = 0 by decide)).1
      have y3 : (ri h' 111 2).toInt = 1 * σ 2 + 1 := y3
      omega)
  exact ⟨h', q1, q2, q3, q4, q5, q6⟩
theorem tides_l {d : Nat} (hd : 110 ≤ d) {n f0 : Int32} (hn : n.toInt ≤ 100) : ∀ (m : Nat) (k : Int32) (h : List pC), k.toInt + m = n.toInt → 0 ≤ k.toInt → HI HT h → JT h → 0 ≤ (ri h 111 2).toInt → (ri h 111 2).toInt ≤ 9999 → Gl prog E pV1 (fun r h' => ∃ v : Int32, r = some (.int v) ∧ HI HT h' ∧ JT h' ∧ Fr Wgo h h' ∧ ∃ j : Nat, (j : Int) = min (m : Int) (9999 - (ri h 111 2).toInt) ∧ ri h' 111 4 = dzN j (ri h 111 4) ∧ (ri h' 111 2).toInt = (ri h 111 2).toInt + j) (d + 1) mX8_tides 15 [some (.ref 110), some (.int n), some (.int f0), some (.int k)] [] h [] := by
  have fin : ∀ (k : Int32) (h : List pC), HI HT h → JT h → ∃ v : Int32, RA prog E pV1 (d + 1) mX8_tides 28 [some (.ref 110), some (.int n), some (.int f0), some (.int k)] [] h (some (.int v), h, 0, 0) := by
    intro k h hh hj
    obtain ⟨fs, ho, g0, -⟩ := m_ob hh
    obtain ⟨f, p1, -, -⟩ := hi_int hh HT111
    refine ⟨f 3 - f0, ?_⟩
    refine RA.steps 1 rfl ?_
    refine RA.getf rfl ho rfl g0 ?_
    refine RA.steps 1 rfl ?_
    refine RA.iald rfl p1 ⟨by decide, Nat.le_of_ble_eq_true rfl⟩ (w := f 3) rfl ?_
    refine RA.steps (i' := 34) (L' := [some (.ref 110), some (.int n), some (.int f0), some (.int k)]) (st' := [.int (f 3 - f0)]) (h' := h) 2 rfl ?_
    exact RA.ret rfl rfl
  intro m
  induction m with
  | zero =>
    intro k h h1 h2 hh hj t0 t1
    obtain ⟨v, hv⟩ := fin k h hh hj
    refine ⟨some (.int v), h, ?_, v, rfl, hh, hj, Fr.rf _ _, 0, ?_, rfl, ?_⟩
    · refine RA.steps 2 rfl ?_
      exact RA.if2T (x := 28) rfl (decide_eq_true (Int32.le_iff_toInt_le.mpr (by omega))) hv
    · omega
    · omega
  | succ m ih =>
    intro k h h1 h2 hh hj t0 t1
    obtain ⟨fs, ho, g0, -⟩ := m_ob hh
    obtain ⟨f, p1, u1, -⟩ := hi_int hh HT111
    have e2 : f 2 = ri h 111 2 := (u1 2 (by decide)).symm
    have head : ∀ res, RA prog E pV1 (d + 1) mX8_tides 23 [some (.ref 110), some (.int n), some (.int f0), some (.int k)] [.int 9999, .int (ri h 111 2)] h res → RA prog E pV1 (d + 1) mX8_tides 15 [some (.ref 110), some (.int n), some (.int f0), some (.int k)] [] h res := by
      intro res kk
      refine RA.steps 2 rfl ?_
      refine RA.if2F rfl (decide_eq_false (fun q => by have := Int32.le_iff_toInt_le.mp q; omega)) ?_
      refine RA.steps 1 rfl ?_
      refine RA.getf rfl ho rfl g0 ?_
      refine RA.steps 1 rfl ?_
      refine RA.iald rfl p1 ⟨by decide, Nat.le_of_ble_eq_true rfl⟩ e2 ?_
      exact RA.steps 1 rfl kk
    by_cases c9 : (9999 : Int32) ≤ ri h 111 2
    · have c9' : (9999 : Int) ≤ (ri h 111 2).toInt := Int32.le_iff_toInt_le.mp c9
      obtain ⟨v, hv⟩ := fin k h hh hj
      refine ⟨some (.int v), h, head _ (RA.if2T (x := 28) rfl (decide_eq_true c9) hv), v, rfl, hh, hj, Fr.rf _ _, 0, ?_, rfl, ?_⟩
      · omega
      · omega
    · have c9' : ¬ (9999 : Int) ≤ (ri h 111 2).toInt := fun q => c9 (Int32.le_iff_toInt_le.mpr q)
      obtain ⟨h1', r1, b1, b2, b3, b4, b5⟩ := goes_x (E := E) hd hh hj t0 (by omega)
      have hk1 : (k + 1).toInt = k.toInt + 1 := by
        rw [Int32.toInt_add, show (1 : Int32).toInt = 1 by decide]
        rw [Int.bmod_eq_of_le] <;> omega
      refine Gl.via (i' := 15) (L' := [some (.ref 110), some (.int n), some (.int f0), some (.int (k + 1))]) (st' := []) (h1 := h1') (fun res kk => head _ (RA.if2F rfl (decide_eq_false c9) ?_)) ((ih (k + 1) h1' (by omega) (by omega) b1 b2 (by omega) (by omega)).weak (fun r h2 hp => ?_))
      · refine RA.steps 1 rfl ?_
        refine call110 rfl rfl rfl rfl hh rfl (Nat.le_of_ble_eq_true rfl) r1 ?_
        refine RA.iinc rfl rfl rfl rfl ?_
        exact RA.steps 1 rfl kk
      · obtain ⟨v, p1, p2, p3, p4, j, p5, p6, p7⟩ := hp
        refine ⟨v, p1, p2, p3, b3.tr p4, j + 1, ?_, ?_, ?_⟩
        · push_cast
          omega
        · rw [p6, b4, dzNs]
        · push_cast
          omega
theorem tides_r (x : Int32) (hx : 1 ≤ x.toInt ∧ x.toInt ≤ 100) (hh : HI HT h) (hj : JT h) (t0 : 0 ≤ (ri h 111 2).toInt) (t1 : (ri h 111 2).toInt ≤ 9999) : ∃ (v : Int32) (h' : List pC), Run prog E pV1 120 mX8_tides [.ref 110, .int x] h (some (.int v), h', 0, 0) ∧ HI HT h' ∧ JT h' ∧ Fr Wgo h h' ∧ ∃ j : Nat, (j : Int) = min x.toInt (9999 - (ri h 111 2).toInt) ∧ ri h' 111 4 = dzN j (ri h 111 4) ∧ (ri h' 111 2).toInt = (ri h 111 2).toInt + j := by
  obtain ⟨fs, ho, g0, -⟩ := m_ob hh
  obtain ⟨f, p1, u1, -⟩ := hi_int hh HT111
  obtain ⟨r, h', q1, v, rfl, q2, q3, q4, j, q5, q6, q7⟩ := tides_l (E := E) (d := 119) (n := x) (f0 := f 3) (by decide) hx.2 x.toInt.toNat 0 h (by rw [show (0 : Int32).toInt = 0 by decide]; omega) (by decide) hh hj t0 t1
  refine ⟨v, h', ⟨Nat.le_of_ble_eq_true rfl, ⟨_, _, rfl⟩, ?_⟩, q2, q3, q4, j, by rw [q5, Int.toNat_of_nonneg (by omega)], q6, q7⟩
  refine RA.steps (i' := 4) (L' := [some (.ref 110), some (.int x), none, none]) (st' := [.long (Int32.toInt64 100), .long (Int32.toInt64 1), .long x.toInt64]) (h' := h) 4 rfl ?_
  refine RA.call0 (N := mX8_isIn) (as := [.long x.toInt64, .long (Int32.toInt64 1), .long (Int32.toInt64 100)]) (rest := []) rfl rfl rfl (isIn_t ⟨Int32.le_iff_toInt_le.mpr hx.1, Int32.le_iff_toInt_le.mpr hx.2⟩) ?_
  refine RA.if1T rfl rfl ?_
  refine RA.steps 1 rfl ?_
  refine RA.getf rfl ho rfl g0 ?_
  refine RA.steps 1 rfl ?_
  refine RA.iald rfl p1 ⟨by decide, Nat.le_of_ble_eq_true rfl⟩ (w := f 3) rfl ?_
  exact RA.steps 3 rfl q1
theorem tides_c (x : Int32) (hx : 1 ≤ x.toInt ∧ x.toInt ≤ 100) (hh : HI HT h) (hj : JT h) (t0 : 0 ≤ (ri h 34 7).toInt) (t1 : (ri h 34 7).toInt ≤ 9999) : ∃ (v : Int32) (h' : List pC), Run prog E pV1 120 mX7_tides [.ref 0, .int x] h (some (.int v), h', 0, 0) ∧ HI HT h' ∧ JT h' ∧ Fr Wfl h h' ∧ ∃ j : Nat, (j : Int) = min x.toInt (9999 - (ri h 34 7).toInt) ∧ ri h' 34 9 = dzN j (ri h 34 9) ∧ (ri h' 34 7).toInt = (ri h 34 7).toInt + j := by
  have g : Gl prog E pV1 (fun r h' => ∃ v : Int32, r = some (.int v) ∧ HI HT h' ∧ JT h' ∧ Fr Wfl h h' ∧ ∃ j : Nat, (j : Int) = min x.toInt (9999 - (ri h 34 7).toInt) ∧ ri h' 34 9 = dzN j (ri h 34 9) ∧ (ri h' 34 7).toInt = (ri h 34 7).toInt + j) 120 mX7_tides 0 (pent (m_l mX7_tides) [.ref 0, .int x]) [] h [] := by
    refine hop (σ0 := fun t => match t with | 0 => 77777 | 1 => x.toInt | _ => (ri h 34 7).toInt) ck_ct no_kc (by decide) hj (by decide) (by decide) ⟨⟨Nat.le_refl _, agr.rf _ _⟩, fun k e hk => ?_, ?_, (fun e he => by cases he), LG.cons (lGr 0) (LG.cons (lGi (by decide) (by show x.toInt = 1 * x.toInt + 0; omega)) (LG.cons (lG.any rfl) LGn)), trivial, hh, Fr.rf _ _⟩ (fun σ S L' st' h1 hec g => ?_)
    · match k, hk with
      | 0, hk => cases hk; exact ⟨Int.le_refl 77777, Int.le_refl 77777⟩
      | 1, hk => cases hk; exact hx
      | 2, hk => cases hk; exact ⟨t0, t1⟩
      | k + 3, hk => simp at hk
    · exact cok.cs ⟨34, 7, _, Or.inl ⟨rfl, rfl⟩, cnZ _, w_ty hh rfl, Nat.le_refl 1, zG.mk (by decide) (by show (ri h 34 7).toInt = 1 * (ri h 34 7).toInt + 0; omega) (by decide)⟩ cok.nil
    · unfold ecCt at hec
      obtain ⟨⟨-, ga⟩, gk, gc, gf, gL, gS_, gh, gF⟩ := g
      split at hec
      · rename_i xa xb xc v w hA hS
        rw [hA] at gL
        rw [hS] at gS_
        simp only [Bool.and_eq_true, decide_eq_true_eq] at hec
        obtain ⟨⟨⟨⟨⟨⟨rfl, rfl⟩, e3⟩, rfl⟩, e5⟩, e6⟩, e7⟩ := hec
        obtain ⟨l0, l1, l2, rfl⟩ := threeL gL.1
        obtain ⟨w0, k0, v0⟩ := gL.at (k := 0) rfl (by decide)
        have i3 := isI_t e3
        obtain ⟨w2, k2, v2⟩ := gL.at (k := 2) rfl (by omega)
        obtain rfl : l0 = some w0 := k0
        obtain rfl : l2 = some w2 := k2
        obtain ⟨a, rfl, ha | ha⟩ := v0.ref (Or.inl rfl)
        rotate_left
        · exact absurd ha.1 (show ¬ (5 : Nat) = 6 by decide)
        obtain rfl : a = 0 := ha.2
        obtain ⟨f0, rfl, -⟩ := v2.int i3
        obtain ⟨s1, t1', rfl, y1, ys⟩ := gS_.cons_inv
        obtain ⟨s2, t2', rfl, y2, ys2⟩ := ys.cons_inv
        obtain rfl := ys2.nil_inv
        obtain ⟨n', rfl, z1⟩ := y1.int (isI_t e5)
        obtain ⟨a, rfl, ha | ha⟩ := y2.ref (Or.inl rfl)
        rotate_left
        · exact absurd ha.1 (show ¬ (5 : Nat) = 6 by decide)
        obtain rfl : a = 34 := ha.2
        have hj1 : JT h1 := JT_P _ _ _ (by decide) gF hj
        have q1 : σ 1 = x.toInt := ga 1 (by decide)
        have q2 : σ 2 = (ri h 34 7).toInt := ga 2 (by decide)
        have en : n'.toInt = min x.toInt (9999 - (ri h 34 7).toInt) := by
          obtain ⟨gq, hgm, hg2⟩ := List.any_eq_true.mp e7
          simp only [Bool.and_eq_true, decide_eq_true_eq] at hg2
          obtain ⟨⟨⟨c1, c2⟩, c3⟩, c4⟩ := hg2
          have kf := gf gq hgm
          unfold fcG at kf
          rw [if_neg (by omega)] at kf
          obtain ⟨a, b, a1, a2, a3⟩ := kf
          rw [c2] at a1
          rw [c3] at a2
          rw [c1, c4] at a3
          have a1 : a.toInt = 1 * σ 1 + 0 := (a1.lin (show ¬ (1 : Nat) % 2 = 0 by decide)).1
          have a2 : b.toInt = -1 * σ 2 + 9999 := (a2.lin (show ¬ (1 : Nat) % 2 = 0 by decide)).1
          have e := det_ok e6 z1 a3
          have e : n'.toInt = (if b < a then b else a).toInt := e
          rw [e]
          split
          · rename_i hlt
            have := Int32.lt_iff_toInt_lt.mp hlt
            omega
          · rename_i hlt
            have : ¬ b.toInt < a.toInt := fun q => hlt (Int32.lt_iff_toInt_lt.mpr q)
            omega
        have fr9 : ri h1 34 9 = ri h 34 9 := ri_fr gF (by decide)
        have fr7 : ri h1 34 7 = ri h 34 7 := ri_fr gF (by decide)
        obtain ⟨fr, hr, -, rp⟩ : ∃ h2, Run prog E pV1 119 mX6_flow [.ref 34, .int n'] h1 (none, h2, 0, 0) ∧ True ∧ (HI HT h2 ∧ JT h2 ∧ Fr Wfl h1 h2 ∧ ri h2 34 9 = dzN n'.toInt.toNat (ri h1 34 9) ∧ (ri h2 34 7).toInt = (ri h1 34 7).toInt + n'.toInt.toNat) := by
          obtain ⟨r, h2, k1, rfl, k2⟩ := flow_l (E := E) (d := 118) (by decide) (n := n') (by omega) n'.toInt.toNat 0 none none none h1 (by rw [show (0 : Int32).toInt = 0 by decide]; omega) (by decide) rfl rfl rfl gh hj1 (by rw [fr7]; exact t0) (by rw [fr7]; omega)
          exact ⟨h2, ⟨Nat.le_of_ble_eq_true rfl, ⟨_, _, rfl⟩, RA.steps 2 rfl k1⟩, trivial, k2⟩
        obtain ⟨b1, b2, b3, b4, b5⟩ := rp
        obtain ⟨fs0, ho0, hF0⟩ := hi_obj b1 (a := 0) rfl
        obtain ⟨fs4, ho4, hF4⟩ := hi_obj b1 (a := 34) rfl
        obtain ⟨fd, hfd⟩ := hF4.int (k := 8) rfl
        obtain ⟨o1, ho1, hF1⟩ := hi_obj gh (a := 34) rfl
        refine ⟨some (.int (fd - f0)), fr, ?_, fd - f0, rfl, b1, b2, (gF.sub rfl).tr b3, n'.toInt.toNat, by rw [Int.toNat_of_nonneg (by omega), en], by rw [b4, fr9], by rw [b5, fr7]⟩
        refine RA.call0 (N := mX6_flow) (as := [.ref 34, .int n']) (rest := []) rfl rfl (pcallV rfl rfl ho1 rfl rfl (Nat.le_of_ble_eq_true rfl)) hr ?_
        refine RA.steps 1 rfl ?_
        refine RA.getf rfl ho0 rfl (hF0.ref (k := 1) rfl) ?_
        refine RA.getf rfl ho4 rfl hfd ?_
        refine RA.steps (i' := 26) (L' := [some (.ref 0), l1, some (.int f0)]) (st' := [.int (fd - f0)]) (h' := fr) 2 rfl ?_
        exact RA.ret rfl rfl
      · cases hec
  obtain ⟨r, h', q1, v, rfl, q2⟩ := g
  exact ⟨v, h', ⟨Nat.le_of_ble_eq_true rfl, ⟨_, _, rfl⟩, q1⟩, q2⟩
end TID
/-! ===== rules that the texts by hand share ===== -/
section XRA
variable {E : pX} {V : pV} {d i : Nat} {M : pM} {L : pL} {h : List pC} {res : pR} {rest : List Value}
theorem RA.aald {a pc x y w : Nat} {v : Value} {j : Int32} {ts : List Nat} {o : Nat × Nat × (Nat → Option Nat)} (he : (m_code M)[i]? = some (pc, .aaload, x, y, v, ts)) (hc : h[a]? = some (.inr (.inl o))) (hj : 0 ≤ j ∧ j.toNatClampNeg < o.2.1) (hw : o.2.2 j.toNatClampNeg = some w) (k : RA prog E V (d + 1) M (i + 1) L (.ref w :: rest) h res) : RA prog E V (d + 1) M i L (.int j :: .ref a :: rest) h res := by
  have ho : pref h a = some o := by unfold pref; rw [hc]
  refine RA.step0 he rfl rfl ?_ k
  show (match pref h a with
    | some x => if 0 ≤ j ∧ j.toNatClampNeg < x.2.1 then pnx i L (va_rf (x.2.2 j.toNatClampNeg) :: rest) h else none
    | none => none) = _
  rw [ho]
  dsimp only
  rw [if_pos hj, hw]
  rfl
theorem RA.alenR {a pc x y n : Nat} {v : Value} {ts : List Nat} {o : Nat × Nat × (Nat → Option Nat)} (he : (m_code M)[i]? = some (pc, .arraylength, x, y, v, ts)) (hc : h[a]? = some (.inr (.inl o))) (hn : o.2.1 = n) (k : RA prog E V (d + 1) M (i + 1) L (.int (nI n) :: rest) h res) : RA prog E V (d + 1) M i L (.ref a :: rest) h res := by
  subst hn
  refine RA.step0 he rfl rfl ?_ k
  show (match h[a]? with
    | some (.inl x) => pnx i L (.int (Int32.ofNat x.1) :: rest) h
    | some (.inr (.inl x)) => pnx i L (.int (Int32.ofNat x.2.1) :: rest) h
    | _ => none) = _
  rw [hc]
  rfl
theorem RA.alenI {a pc x y n : Nat} {v : Value} {ts : List Nat} {f : Nat → Int32} (he : (m_code M)[i]? = some (pc, .arraylength, x, y, v, ts)) (ho : pint h a = some (n, f)) (k : RA prog E V (d + 1) M (i + 1) L (.int (nI n) :: rest) h res) : RA prog E V (d + 1) M i L (.ref a :: rest) h res := by
  have hc := pint_at ho
  refine RA.step0 he rfl rfl ?_ k
  show (match h[a]? with
    | some (.inl x) => pnx i L (.int (Int32.ofNat x.1) :: rest) h
    | some (.inr (.inl x)) => pnx i L (.int (Int32.ofNat x.2.1) :: rest) h
    | _ => none) = _
  rw [hc]
  rfl
theorem RA.acpy {nn pc y a0 a1 : Nat} {v : Value} {ts : List Nat} {n sp dp : Int32} {x0 x1 : Nat × (Nat → Int32)} (he : (m_code M)[i]? = some (pc, .invokestatic nn, 99999, y, v, ts)) (hP : pcall prog (pc, .invokestatic nn, 99999, y, v, ts) (.int n :: .int dp :: .ref a1 :: .int sp :: .ref a0 :: rest) h = none) (h0 : pint h a0 = some x0) (h1 : pint h a1 = some x1) (hr : pcs rest ≤ 8) (hb : 0 ≤ sp ∧ 0 ≤ dp ∧ 0 ≤ n ∧ sp.toNatClampNeg + n.toNatClampNeg ≤ x0.1 ∧ dp.toNatClampNeg + n.toNatClampNeg ≤ x1.1) (k : RA prog E V (d + 1) M (i + 1) L rest (h.set a1 (.inl (x1.1, va_cpy x0.2 x1.2 sp.toNatClampNeg dp.toNatClampNeg n.toNatClampNeg))) res) : RA prog E V (d + 1) M i L (.int n :: .int dp :: .ref a1 :: .int sp :: .ref a0 :: rest) h res := by
  refine RA.step0 he rfl hP ?_ k
  show (if (99999 : Nat) = 99999 ∧ pcs rest ≤ 8 then (match pint h a0, pint h a1 with
    | some x, some y => if 0 ≤ sp ∧ 0 ≤ dp ∧ 0 ≤ n ∧ sp.toNatClampNeg + n.toNatClampNeg ≤ x.1 ∧ dp.toNatClampNeg + n.toNatClampNeg ≤ y.1 then pnx i L rest (h.set a1 (.inl (y.1, va_cpy x.2 y.2 sp.toNatClampNeg dp.toNatClampNeg n.toNatClampNeg))) else none
    | _, _ => none) else none) = _
  rw [if_pos ⟨rfl, hr⟩, h0, h1]
  dsimp only
  rw [if_pos hb]
  rfl
theorem Run.det {P : List pM} {N : pM} {as : List Value} {r1 r2 : pR} (a : Run P E V d N as h r1) (b : Run P E V d N as h r2) : r1 = r2 := by
  obtain ⟨-, -, f, hf⟩ := a
  obtain ⟨-, -, g, hg⟩ := b
  have e1 := pexec_le (Nat.le_max_left f g) hf
  have e2 := pexec_le (Nat.le_max_right f g) hg
  rw [e1] at e2
  exact Option.some.inj e2
theorem nI_cl {k : Nat} (hk : k < 100000) : 0 ≤ nI k ∧ (nI k).toNatClampNeg = k := nI_lt31 k hk
theorem nIsub {a b : Nat} (hb : b ≤ a) (ha : a < 100000) : nI a - nI b = nI (a - b) := Int32.toInt_inj.mp (by
  rw [Int32.toInt_sub, nI_toInt (by omega), nI_toInt (by omega), nI_toInt (by omega), bm32 (by unfold mI; omega) (by unfold MI; omega)]
  omega)
theorem nIof {x : Int32} (h0 : 0 ≤ x.toInt) (h1 : x.toInt < 100000) : ∃ k : Nat, x = nI k ∧ (k : Int) = x.toInt := ⟨x.toInt.toNat, Int32.toInt_inj.mp (by rw [nI_toInt (by omega)]; omega), by omega⟩
theorem nI1 : nI 1 = 1 := by decide +kernel
theorem ri_setI {a n j : Nat} {f g : Nat → Int32} (hp : pint h a = some (n, f)) (hj : j < n) : ri (h.set a (.inl (n, g))) a j = g j := by
  unfold ri
  rw [ct_ri (pint_set (pint_lt hp)) hj]
theorem ri_setN {a b j : Nat} {c : pC} (hab : ¬ a = b) : ri (h.set a c) b j = ri h b j := by
  unfold ri ct
  rw [List.getElem?_set_ne hab]
end XRA
/-! ===== methods that write nothing leave the cells themselves ===== -/
def nwI (P : List pM) (S : List Nat) (e : pE) : Bool := match e_in e with
  | .putfield _ => false
  | .iastore => false
  | .aastore => false
  | .new _ => false
  | .newarray _ => false
  | .anewarray _ => false
  | .invokestatic _ => decide (¬ e_x e = 99999) && (match P[e_x e]? with
    | some _ => S.contains (e_x e)
    | none => true)
  | .invokevirtual _ => S.contains (e_x e)
  | .invokespecial _ => S.contains (e_x e)
  | _ => true
section NW
variable {P : List pM} {E : pX} {V : pV} {S : List Nat} {e : pE} {i i' : Nat} {L L' : pL} {st st' : List Value} {h h' : List pC} {dk dn : Nat}
theorem pnx_h (hs : pnx i L st h = some (i', L', st', h', dk, dn)) : h' = h ∧ dk = 0 ∧ dn = 0 := by
  unfold pnx at hs
  cases hs
  exact ⟨rfl, rfl, rfl⟩
theorem psto_h {o : Option pL} (hs : psto o i st h = some (i', L', st', h', dk, dn)) : h' = h ∧ dk = 0 ∧ dn = 0 := by
  unfold psto at hs
  split at hs
  · exact pnx_h hs
  · cases hs
theorem some_h {x : Nat} {l : pL} {s : List Value} (hs : some (x, l, s, h, 0, 0) = some (i', L', st', h', dk, dn)) : h' = h ∧ dk = 0 ∧ dn = 0 := by
  cases hs
  exact ⟨rfl, rfl, rfl⟩
theorem pm2_h {f : Int32 → Int32 → Int32} (hs : pm2 f i L st h = some (i', L', st', h', dk, dn)) : h' = h ∧ dk = 0 ∧ dn = 0 := by
  unfold pm2 at hs
  split at hs
  · split at hs
    · exact pnx_h hs
    · cases hs
  · cases hs
theorem pm1_h {f : Int32 → Int32} (hs : pm1 f i L st h = some (i', L', st', h', dk, dn)) : h' = h ∧ dk = 0 ∧ dn = 0 := by
  unfold pm1 at hs
  split at hs
  · split at hs
    · exact pnx_h hs
    · cases hs
  · cases hs
theorem pnats_h (h9 : ¬ e_x e = 99999) (hs : pnats e i L st h = some (i', L', st', h', dk, dn)) : h' = h ∧ dk = 0 ∧ dn = 0 := by
  unfold pnats at hs
  split at hs
  · exact pm2_h hs
  · split at hs
    · exact pm2_h hs
    · split at hs
      · exact pm1_h hs
      · rename_i n0 n1 n2
        exfalso
        unfold pocopy at hs
        split at hs
        · rw [if_neg (fun q => h9 q.1)] at hs
          cases hs
        · cases hs
theorem pstep_nw (hn : nwI P S e = true) (hs : pstep E e i L st h = some (i', L', st', h', dk, dn)) : h' = h ∧ dk = 0 ∧ dn = 0 := by
  unfold pstep at hs
  unfold nwI at hn
  split at hs
  all_goals first
    | (cases hs; done)
    | (rename_i hin; rw [hin] at hn)
  all_goals first
    | exact pnx_h hs
    | exact some_h hs
    | (unfold pldi at hs; split at hs <;> first | exact pnx_h hs | cases hs)
    | (unfold pldl at hs; split at hs <;> first | exact pnx_h hs | cases hs)
    | (unfold plda at hs; split at hs <;> first | exact pnx_h hs | cases hs)
    | (unfold psti at hs; split at hs <;> first | exact psto_h hs | cases hs)
    | (unfold psta at hs; split at hs <;> first | exact psto_h hs | cases hs)
    | (unfold pinc at hs; split at hs <;> first | exact psto_h hs | cases hs)
    | (unfold pbin at hs; split at hs <;> first | exact pnx_h hs | cases hs)
    | (unfold puni at hs; split at hs <;> first | exact pnx_h hs | cases hs)
    | (unfold plbin at hs; split at hs <;> first | exact pnx_h hs | cases hs)
    | (unfold pdiv at hs; split at hs <;> first | (split at hs <;> first | exact pnx_h hs | cases hs) | cases hs)
    | (unfold pdup at hs; split at hs <;> first | (split at hs <;> first | exact pnx_h hs | cases hs) | cases hs)
    | (unfold pdup2 at hs; split at hs <;> first | (split at hs <;> first | exact pnx_h hs | cases hs) | cases hs)
    | (unfold ppop at hs; split at hs <;> first | (split at hs <;> first | exact pnx_h hs | cases hs) | cases hs)
    | (unfold pif1 at hs; split at hs <;> first | exact some_h hs | cases hs)
    | (unfold pif2 at hs; split at hs <;> first | exact some_h hs | cases hs)
    | (unfold pifn at hs; split at hs <;> first | exact some_h hs | exact pnx_h hs | cases hs)
    | (unfold pifnn at hs; split at hs <;> first | exact some_h hs | exact pnx_h hs | cases hs)
    | (unfold pswi at hs; split at hs <;> first | exact some_h hs | cases hs)
    | (unfold pgetf at hs; split at hs <;> first | (split at hs <;> first | (split at hs <;> first | (split at hs <;> first | exact pnx_h hs | cases hs) | cases hs) | cases hs) | cases hs)
    | (unfold piald at hs; split at hs <;> first | (split at hs <;> first | (split at hs <;> first | exact pnx_h hs | cases hs) | cases hs) | cases hs)
    | (unfold paald at hs; split at hs <;> first | (split at hs <;> first | (split at hs <;> first | exact pnx_h hs | cases hs) | cases hs) | cases hs)
    | (unfold palen at hs; split at hs <;> first | (split at hs <;> first | exact pnx_h hs | cases hs) | cases hs)
    | (dsimp only at hn; rw [Bool.and_eq_true] at hn; exact pnats_h (of_decide_eq_true hn.1) hs)
    | (unfold poini at hs; split at hs <;> first | (split at hs <;> first | exact pnx_h hs | cases hs) | cases hs)
    | cases hn
    | cases hs
theorem pcall_nw {N : pM} {as rest : List Value} (hn : nwI P S e = true) (hc : pcall P e st h = some (N, as, rest)) : ∃ k ∈ S, P[k]? = some N := by
  unfold pcall at hc
  unfold nwI at hn
  split at hc
  · rename_i hin
    rw [hin] at hn
    dsimp only at hn
    split at hc
    · rename_i M hM
      split at hc
      · cases hc
        rw [hM, Bool.and_eq_true] at hn
        exact ⟨e_x e, List.contains_iff_mem.mp hn.2, hM⟩
      · cases hc
    · cases hc
  · rename_i hin
    rw [hin] at hn
    dsimp only at hn
    split at hc
    · rename_i M hM
      split at hc
      · split at hc
        · split at hc
          · cases hc
            exact ⟨e_x e, List.contains_iff_mem.mp hn, hM⟩
          · cases hc
        · cases hc
      · cases hc
    · cases hc
  · rename_i hin
    rw [hin] at hn
    dsimp only at hn
    split at hc
    · rename_i M hM
      split at hc
      · split at hc
        · cases hc
          exact ⟨e_x e, List.contains_iff_mem.mp hn, hM⟩
        · cases hc
      · cases hc
    · cases hc
  · cases hc
theorem nw_run (hS : ∀ k ∈ S, ∀ M, P[k]? = some M → (m_code M).all (nwI P S) = true) : ∀ (f d : Nat) (M : pM) (i : Nat) (L : pL) (st : List Value) (h : List pC) (r : Option Value) (h2 : List pC) (k n : Nat), (m_code M).all (nwI P S) = true → pexec P E V f d M i L st h = some (r, h2, k, n) → h2 = h ∧ k = 0 ∧ n = 0 := by
  intro f
  induction f with
  | zero =>
    intro d M i L st h r h2 k n hM hx
    cases hx
  | succ f ih =>
    intro d M i L st h r h2 k n hM hx
    cases d with
    | zero => cases hx
    | succ d =>
      rw [pexec] at hx
      cases he : (m_code M)[i]? with
      | none => rw [he] at hx; cases hx
      | some t =>
        rw [he] at hx
        dsimp only at hx
        have ht : nwI P S t = true := List.all_eq_true.mp hM t (List.mem_of_getElem? he)
        cases hpr : pret M t st with
        | some rr =>
          rw [hpr] at hx
          cases hx
          exact ⟨rfl, rfl, rfl⟩
        | none =>
          rw [hpr] at hx
          dsimp only at hx
          cases hpc : pcall P t st h with
          | some w =>
            obtain ⟨N, as, rest⟩ := w
            rw [hpc] at hx
            dsimp only at hx
            obtain ⟨q, hq, hN⟩ := pcall_nw ht hpc
            have hNc := hS q hq N hN
            cases hcode : m_code N with
            | nil =>
              rw [hcode] at hx
              dsimp only at hx
              split at hx
              · cases hv : V N as h with
                | none => rw [hv] at hx; cases hx
                | some r1 =>
                  rw [hv] at hx
                  exact ih _ _ _ _ _ _ _ _ _ _ hM hx
              · cases hx
            | cons u us =>
              rw [hcode] at hx
              dsimp only at hx
              split at hx
              · cases h1 : pexec P E V f d N 0 (pent (m_l N) as) [] h with
                | none => rw [h1] at hx; cases hx
                | some w =>
                  obtain ⟨r1, g1, k1, n1⟩ := w
                  rw [h1] at hx
                  obtain ⟨rfl, rfl, rfl⟩ := ih _ _ _ _ _ _ _ _ _ _ hNc h1
                  dsimp only at hx
                  cases h3 : pexec P E V f (d + 1) M (i + 1) L (r1.toList ++ rest) g1 with
                  | none => rw [h3] at hx; cases hx
                  | some w =>
                    obtain ⟨r2, g2, k2, n2⟩ := w
                    rw [h3] at hx
                    obtain ⟨rfl, rfl, rfl⟩ := ih _ _ _ _ _ _ _ _ _ _ hM h3
                    cases hx
                    exact ⟨rfl, rfl, rfl⟩
              · cases hx
          | none =>
            rw [hpc] at hx
            dsimp only at hx
            cases hps : pstep E t i L st h with
            | none => rw [hps] at hx; cases hx
            | some w =>
              obtain ⟨i1, L1, st1, g1, dk, dn⟩ := w
              rw [hps] at hx
              obtain ⟨rfl, rfl, rfl⟩ := pstep_nw ht hps
              dsimp only at hx
              cases h3 : pexec P E V f (d + 1) M i1 L1 st1 g1 with
              | none => rw [h3] at hx; cases hx
              | some w =>
                obtain ⟨r2, g2, k2, n2⟩ := w
                rw [h3] at hx
                obtain ⟨rfl, rfl, rfl⟩ := ih _ _ _ _ _ _ _ _ _ _ hM h3
                cases hx
                exact ⟨rfl, rfl, rfl⟩
end NW
def SAY : List Nat := [50, 51, 52, 53, 150, 157, 158]
set_option maxRecDepth 100000 in
theorem say_nw : ∀ k ∈ SAY, ∀ M, prog[k]? = some M → (m_code M).all (nwI prog SAY) = true := by
  have hb : SAY.all (fun k => match prog[k]? with
    | some M => (m_code M).all (nwI prog SAY)
    | none => true) = true := by decide +kernel
  intro k hk M hM
  have h1 := List.all_eq_true.mp hb k hk
  rw [hM] at h1
  exact h1
theorem say_run {E : pX} {k d : Nat} {N : pM} {as : List Value} {h h2 : List pC} {r : Option Value} {a b : Nat} (hk : k ∈ SAY) (hN : prog[k]? = some N) (hr : Run prog E pV1 d N as h (r, h2, a, b)) : h2 = h := by
  obtain ⟨-, -, f, hf⟩ := hr
  exact (nw_run say_nw f _ _ _ _ _ _ _ _ _ _ (say_nw k hk N hN) hf).1
/-- what a rubbing says, on both sides, one behind the other -/
def drS : pM := (m_y mX7_tell, m_b mX7_tell, 4, some .int, 0, 7, [(0, .aload_n 0, 0, 0, .null, []), (0, .iload_n 0, 3, 0, .null, []), (0, .invokevirtual 0, 50, 1, .null, []), (0, .aload_n 1, 1, 0, .null, []), (0, .iload_n 0, 2, 0, .null, []), (0, .iload_n 0, 3, 0, .null, []), (0, .invokevirtual 0, 158, 2, .null, []), (0, .if_icmp .eq 0, 10, 0, .null, []), (0, .iconst 0, 0, 0, .int 0, []), (0, .ireturn, 0, 0, .null, []), (0, .iconst 1, 0, 0, .int 1, []), (0, .ireturn, 0, 0, .null, [])])
def sk (k : Nat) : AV := (1, 1, 0, k)
def aS7 : AV := (6, 0, 0, 7)
def cSay : aC := [(aS7, cn 0, sk 3), (aS7, cn 1, sk 4), (aS7, cn 2, sk 5), (aS7, cn 3, sk 6), (rf5 111, (1, 6, 21, 1), sk 3), (rf5 111, (1, 6, 22, 1), sk 4), (rf5 111, (1, 6, 23, 1), sk 5), (rf5 111, (1, 6, 24, 1), sk 6)]
def gSay : aG := [.inl (77777, 77777), .inl (0, 8), .inl (0, 7), .inl (0, 5), .inl (0, 65535), .inl (1, 8), .inl (0, 1), .inr [39, 40, 41, 42, 43, 44, 45, 46, 47]]
def ecSay (S : aS) : Bool := match S.2.2.2.2 with
  | [y, y'] => decide (y = y') && det y && decide (y.1 ≤ 1)
  | _ => false
set_option maxRecDepth 100000 in
set_option maxHeartbeats 40000000 in
theorem ck_say : aex prog HT [] [] true tb0 (fun i' S => decide (i' = 7) && (ctr S.2.2.1 || ecSay S)) oxN 180 false 110 9998 drS 0 gSay cSay [(0, sk 2, sk 5, cn 0)] [aS7, rf5 110, sk 1, sk 2] [] [] [] = true := sorry
section SAYS
variable {E : pX} {h : List pC}
theorem rub_c (hh : HI HT h) : ∀ k : Nat, k < 9 → ∀ f : Nat, f < 4 → ct h (39 + k) f = some (.int (ri h (39 + k) f)) ∧ (f = 2 → 1 ≤ (ri h (39 + k) 2).toInt ∧ (ri h (39 + k) 2).toInt ≤ 8) := by
  intro k hk f hf
  have hb : (List.range 9).all (fun k => (List.range 4).all (fun f => decide (elT HT 6 (39 + k) f f = some (.inl (if f = 2 then (1, 8) else (-2147483648, 2147483647)))))) = true := by decide +kernel
  have h1 := of_decide_eq_true (List.all_eq_true.mp (List.all_eq_true.mp hb k (List.mem_range.mpr hk)) f (List.mem_range.mpr hf))
  obtain ⟨c1, c2⟩ := ri_ty hh h1
  refine ⟨c1, fun e => ?_⟩
  subst e
  exact c2
def rubB (f : Nat) : Int × Int := match f with
  | 0 => (0, 5)
  | 1 => (0, 65535)
  | 2 => (0, 8)
  | _ => (0, 1)
theorem rub_r (hh : HI HT h) : ∀ k : Nat, k < 9 → ∀ f : Nat, f < 4 → ct h 111 (21 + 6 * k + f) = some (.int (ri h 111 (21 + 6 * k + f))) ∧ (rubB f).1 ≤ (ri h 111 (21 + 6 * k + f)).toInt ∧ (ri h 111 (21 + 6 * k + f)).toInt ≤ (rubB f).2 := by
  intro k hk f hf
  have hb : (List.range 9).all (fun k => (List.range 4).all (fun f => decide (elT HT 0 111 (21 + 6 * k + f) (21 + 6 * k + f) = some (.inl (rubB f))))) = true := by decide +kernel
  have h1 := of_decide_eq_true (List.all_eq_true.mp (List.all_eq_true.mp hb k (List.mem_range.mpr hk)) f (List.mem_range.mpr hf))
  have h2 : elT HT 0 111 ((21 + 6 * k + f : Nat) : Int) ((21 + 6 * k + f : Nat) : Int) = some (.inl (rubB f)) := by
    push_cast
    exact h1
  exact ri_ty hh h2
/-- of one rubbing: kind, raw, size, turned are alike -/
def RubK (h : List pC) (k : Nat) : Prop := ∀ f : Nat, f < 4 → ri h (39 + k) f = ri h 111 (21 + 6 * k + f)
theorem say_both {d k : Nat} {p : Int32} (hd : 109 ≤ d) (hh : HI HT h) (hj : JT h) (hk : k < 9) (hr : RubK h k) (p0 : 0 ≤ p.toInt) (p1 : p.toInt < (ri h (39 + k) 2).toInt) : ∃ v : Int32, Run prog E pV1 d mX4_sayAt [.ref (39 + k), .int p] h (some (.int v), h, 0, 0) ∧ Run prog E pV1 d mX8_saysAt [.ref 110, .int (nI k), .int p] h (some (.int v), h, 0, 0) := by
  have c := rub_c hh k hk
  have r := rub_r hh k hk
  have s8 := (c 2 (by decide)).2 rfl
  have hkI : (nI k).toInt = k := nI_toInt (by omega)
  have g : Gl prog E pV1 (fun r h' => r = some (.int 1)) (d + 1) drS 0 [some (.ref (39 + k)), some (.ref 110), some (.int (nI k)), some (.int p)] [] h [] := by
    refine hop (σ0 := fun t => match t with | 0 => 77777 | 1 => (k : Int) | 2 => p.toInt | 3 => (ri h (39 + k) 0).toInt | 4 => (ri h (39 + k) 1).toInt | 5 => (ri h (39 + k) 2).toInt | 6 => (ri h (39 + k) 3).toInt | _ => ((39 + k : Nat) : Int)) ck_say no_kc (by decide) hj (by omega) (by decide) ⟨⟨Nat.le_refl _, agr.rf _ _⟩, fun m e hm => ?_, ?_, ?_, LG.cons (lG.of rfl (Or.inr ⟨rfl, by show 39 + k = (((39 + k : Nat) : Int)).toNat; omega, by decide⟩)) (LG.cons (lGr 110) (LG.cons (lGi (by decide) (by show (nI k).toInt = 1 * (k : Int) + 0; omega)) (LG.cons (lGi (by decide) (by show p.toInt = 1 * p.toInt + 0; omega)) LGn))), trivial, hh, Fr.rf _ _⟩ (fun σ S L' st' h1 hec g => ?_)
    · match m, hm with
      | 0, hm => cases hm; exact ⟨Int.le_refl 77777, Int.le_refl 77777⟩
      | 1, hm => cases hm; exact ⟨by show (0 : Int) ≤ (k : Int); omega, by show (k : Int) ≤ 8; omega⟩
      | 2, hm => cases hm; exact ⟨p0, by show p.toInt ≤ 7; omega⟩
      | 3, hm => cases hm; have := (r 0 (by decide)).2; rw [← hr 0 (by decide)] at this; exact this
      | 4, hm => cases hm; have := (r 1 (by decide)).2; rw [← hr 1 (by decide)] at this; exact this
      | 5, hm => cases hm; exact s8
      | 6, hm => cases hm; have := (r 3 (by decide)).2; rw [← hr 3 (by decide)] at this; exact this
      | 7, hm => cases hm; exact ⟨39 + k, by simp only [List.mem_cons, List.not_mem_nil, or_false]; omega, rfl⟩
      | m + 8, hm => simp [gSay] at hm
    · have one : ∀ (σ : Nat → Int) (f : Nat) (hf : f < 4) (m : Nat), m < 8 → σ 7 = ((39 + k : Nat) : Int) → σ m = (ri h (39 + k) f).toInt → ckE 8 σ h (aS7, cn (f : Int), sk m) := fun σ f hf m hm h7 hs => ⟨39 + k, f, _, Or.inr ⟨rfl, by show 39 + k = (σ 7).toNat; rw [h7]; omega, (show aS7.2.2.2 < 8 by decide)⟩, cnZ _, (c f hf).1, Nat.le_refl 1, zG.mk (by decide) (by rw [hs]; omega) hm⟩
      have two : ∀ (σ : Nat → Int) (f : Nat) (hf : f < 4) (m : Nat), m < 8 → σ 1 = (k : Int) → σ m = (ri h (39 + k) f).toInt → ckE 8 σ h (rf5 111, (1, 6, 21 + (f : Int), 1), sk m) := fun σ f hf m hm h1 hs => ⟨111, 21 + 6 * k + f, _, Or.inl ⟨rfl, rfl⟩, zG.mk (by decide) (by rw [h1]; push_cast; omega) (by decide), (r f hf).1, Nat.le_refl 1, zG.mk (by decide) (by rw [← hr f hf, hs]; omega) hm⟩
      exact cok.cs (one _ 0 (by decide) 3 (by decide) rfl rfl) (cok.cs (one _ 1 (by decide) 4 (by decide) rfl rfl) (cok.cs (one _ 2 (by decide) 5 (by decide) rfl rfl) (cok.cs (one _ 3 (by decide) 6 (by decide) rfl rfl) (cok.cs (two _ 0 (by decide) 3 (by decide) rfl rfl) (cok.cs (two _ 1 (by decide) 4 (by decide) rfl rfl) (cok.cs (two _ 2 (by decide) 5 (by decide) rfl rfl) (cok.cs (two _ 3 (by decide) 6 (by decide) rfl rfl) cok.nil)))))))
    · intro f hf
      obtain rfl := List.mem_singleton.mp hf
      exact ⟨p.toInt, (ri h (39 + k) 2).toInt, zG.mk (by decide) (by show p.toInt = 1 * p.toInt + 0; omega) (by decide), zG.mk (by decide) (by show (ri h (39 + k) 2).toInt = 1 * (ri h (39 + k) 2).toInt + 0; omega) (by decide), p1⟩
    · unfold ecSay at hec
      have hs1 := g.2.2.2.2.2.1
      split at hec
      · rename_i y y' hst
        rw [hst] at hs1
        rw [Bool.and_eq_true, Bool.and_eq_true] at hec
        obtain ⟨⟨e2, e3⟩, e4⟩ := hec
        obtain rfl := of_decide_eq_true e2
        have e4 := of_decide_eq_true e4
        obtain ⟨w1, t1, rfl, v1, hs2⟩ := hs1.cons_inv
        obtain ⟨w2, t2, rfl, v2, hs3⟩ := hs2.cons_inv
        obtain rfl := hs3.nil_inv
        obtain ⟨u1, rfl, y1⟩ := v1.int e4
        obtain ⟨u2, rfl, y2⟩ := v2.int e4
        obtain rfl : u1 = u2 := Int32.toInt_inj.mp (det_ok e3 y1 y2)
        exact ⟨some (.int 1), h1, RA.if2T (x := 10) rfl (decide_eq_true rfl) (RA.steps (i' := 11) (L' := L') (st' := [.int 1]) (h' := h1) 1 rfl (RA.ret rfl rfl)), rfl⟩
      · cases hec
  obtain ⟨r, h2, hra, rfl⟩ := g
  have s1 := RA.steps_inv (i' := 2) (L' := [some (.ref (39 + k)), some (.ref 110), some (.int (nI k)), some (.int p)]) (st' := [.int p, .ref (39 + k)]) (h' := h) 2 rfl hra
  obtain ⟨r1, h1, q1, s2, -⟩ := RA.callv_inv (rest := []) rfl (N := mX4_sayAt) rfl (List.cons_ne_nil _ _) rfl s1
  rw [List.append_nil] at s2
  obtain rfl := say_run (k := 50) (by decide) rfl q1
  generalize hQ : r1.toList = Q at s2
  have s3 := RA.steps_inv (i' := 6) (L' := [some (.ref (39 + k)), some (.ref 110), some (.int (nI k)), some (.int p)]) (st' := .int p :: .int (nI k) :: .ref 110 :: Q) (h' := h1) 3 rfl s2
  obtain ⟨r2, h3, q2, s4, -⟩ := RA.callv_inv (rest := Q) rfl (N := mX8_saysAt) rfl (List.cons_ne_nil _ _) rfl s3
  obtain rfl := say_run (k := 158) (by decide) rfl q2
  obtain ⟨a, b, rest, e, s5⟩ := RA.if2_inv rfl s4
  obtain ⟨e1, e2, rfl⟩ : r1 = some (.int a) ∧ r2 = some (.int b) ∧ rest = [] := by
    cases r1 with
    | none =>
      subst hQ
      cases r2 with
      | none => cases e
      | some w => cases e
    | some v =>
      subst hQ
      cases r2 with
      | none => cases e
      | some w => cases e; exact ⟨rfl, rfl, rfl⟩
  subst e1
  subst e2
  by_cases hab : a = b
  · subst hab
    exact ⟨a, q1, q2⟩
  · rw [show pc2 .eq a b = false from decide_eq_false hab] at s5
    have s6 := RA.steps_inv (i' := 9) (L' := [some (.ref (39 + k)), some (.ref 110), some (.int (nI k)), some (.int p)]) (st' := [.int 0]) (h' := h3) 1 rfl s5
    have s7 := RA.ret_inv rfl rfl s6
    have e3 := Option.some.inj (Prod.mk.inj s7).1
    exact absurd e3 (by decide)
end SAYS
/-! ===== one rubbing, as both reach it ===== -/
section ONE
variable {E : pX} {h : List pC}
theorem rubs_at (hh : HI HT h) : ∃ x : Nat × Nat × (Nat → Option Nat), h[36]? = some (.inr (.inl x)) ∧ x.2.1 = 9 ∧ ∀ k : Nat, k < 9 → x.2.2 k = some (39 + k) := by
  obtain ⟨c, hc, hy⟩ := hh.2 36 (.inr (.inl (4, 9, fun i => ([39, 40, 41, 42, 43, 44, 45, 46, 47] : List Nat)[i]?))) rfl
  rcases c with x | x | x
  · exact hy.elim
  · obtain ⟨q1, q2, q3⟩ : x.1 = 4 ∧ x.2.1 = 9 ∧ ∀ i : Nat, i < 9 → x.2.2 i = ([39, 40, 41, 42, 43, 44, 45, 46, 47] : List Nat)[i]? := hy
    refine ⟨x, hc, q2, fun k hk => ?_⟩
    rw [q3 k hk]
    match k, hk with
    | 0, _ => rfl
    | 1, _ => rfl
    | 2, _ => rfl
    | 3, _ => rfl
    | 4, _ => rfl
    | 5, _ => rfl
    | 6, _ => rfl
    | 7, _ => rfl
    | 8, _ => rfl
  · exact hy.elim
theorem w_obj (hh : HI HT h) : ∃ fs : List Value, pobj h 34 = some (6, fs) ∧ fs[5]? = some (.int (ri h 34 5)) ∧ fs[1]? = some (.ref 35) ∧ fs[2]? = some (.ref 36) := by
  obtain ⟨fs, ho, hF⟩ := hi_obj hh (a := 34) rfl
  refine ⟨fs, ho, ?_, hF.ref (k := 1) rfl, hF.ref (k := 2) rfl⟩
  have := (ri_ty (k := 8) (a := 34) (i := 5) (p := (0, 9)) hh rfl).1
  unfold ct at this
  rw [pobj_at ho] at this
  exact this
theorem rub_obj (hh : HI HT h) {k : Nat} (hk : k < 9) : ∃ fs : List Value, pobj h (39 + k) = some (4, fs) ∧ ∀ f : Nat, f < 4 → fs[f]? = some (.int (ri h (39 + k) f)) := by
  have hT : ∃ xs, HT[39 + k]? = some (.inr (.inr (4, xs))) := by
    match k, hk with
    | 0, _ => exact ⟨_, rfl⟩
    | 1, _ => exact ⟨_, rfl⟩
    | 2, _ => exact ⟨_, rfl⟩
    | 3, _ => exact ⟨_, rfl⟩
    | 4, _ => exact ⟨_, rfl⟩
    | 5, _ => exact ⟨_, rfl⟩
    | 6, _ => exact ⟨_, rfl⟩
    | 7, _ => exact ⟨_, rfl⟩
    | 8, _ => exact ⟨_, rfl⟩
  obtain ⟨xs, hT⟩ := hT
  obtain ⟨fs, ho, -⟩ := hi_obj hh hT
  refine ⟨fs, ho, fun f hf => ?_⟩
  have := (rub_c hh k hk f hf).1
  unfold ct at this
  rw [pobj_at ho] at this
  exact this
theorem one_x {d k : Nat} (hh : HI HT h) (hk : k < 9) (hm : (k : Int) < (ri h 34 5).toInt) : Run prog E pV1 (d + 1) mX6_one [.ref 34, .int (nI k)] h (some (.ref (39 + k)), h, 0, 0) := by
  obtain ⟨fs, ho, hm5, -, h2⟩ := w_obj hh
  obtain ⟨x, hc, hx9, hx⟩ := rubs_at hh
  have k0 : (0 : Int32) ≤ nI k := (nI_cl (by omega)).1
  have kc : (nI k).toNatClampNeg < x.2.1 := by rw [(nI_cl (by omega)).2, hx9]; exact hk
  have kw : x.2.2 (nI k).toNatClampNeg = some (39 + k) := by rw [(nI_cl (by omega)).2]; exact hx k hk
  have hkI : (nI k).toInt = k := nI_toInt (by omega)
  have km : nI k < ri h 34 5 := Int32.lt_iff_toInt_lt.mpr (by omega)
  have k9 : nI k < nI 9 := nI_lt hk (by decide)
  refine ⟨Nat.le_of_ble_eq_true rfl, ⟨_, _, rfl⟩, ?_⟩
  show RA prog E pV1 (d + 1) mX6_one 0 [some (.ref 34), some (.int (nI k))] [] h (some (.ref (39 + k)), h, 0, 0)
  refine RA.steps (i' := 1) (L' := [some (.ref 34), some (.int (nI k))]) (st' := [.int (nI k)]) (h' := h) 1 rfl ?_
  refine RA.if1F rfl (decide_eq_false (Int32.not_lt.mpr k0)) ?_
  refine RA.steps (i' := 4) (L' := [some (.ref 34), some (.int (nI k))]) (st' := [.ref 34, .int (nI k)]) (h' := h) 2 rfl ?_
  refine RA.getf rfl ho rfl hm5 ?_
  refine RA.if2F rfl (decide_eq_false (Int32.not_le.mpr km)) ?_
  refine RA.steps (i' := 8) (L' := [some (.ref 34), some (.int (nI k))]) (st' := [.ref 34, .int (nI k)]) (h' := h) 2 rfl ?_
  refine RA.getf rfl ho rfl h2 ?_
  refine RA.alenR rfl hc hx9 ?_
  refine RA.if2F rfl (decide_eq_false (Int32.not_le.mpr k9)) ?_
  refine RA.steps (i' := 12) (L' := [some (.ref 34), some (.int (nI k))]) (st' := [.ref 34]) (h' := h) 1 rfl ?_
  refine RA.getf rfl ho rfl h2 ?_
  refine RA.steps (i' := 14) (L' := [some (.ref 34), some (.int (nI k))]) (st' := [.int (nI k), .ref 36]) (h' := h) 1 rfl ?_
  refine RA.aald rfl hc ⟨k0, kc⟩ kw ?_
  refine RA.steps (i' := 17) (L' := [some (.ref 34), some (.int (nI k))]) (st' := [.ref (39 + k)]) (h' := h) 1 rfl ?_
  exact RA.ret rfl rfl
theorem isr_x {d k : Nat} (hh : HI HT h) (hk : k < 9) (hm : (k : Int) < (ri h 111 0).toInt) : Run prog E pV1 (d + 2) mX8_isRubbing [.ref 110, .int (nI k)] h (some (.int 1), h, 0, 0) := by
  obtain ⟨fs, ho, g0, -⟩ := m_ob hh
  obtain ⟨f, p1, u1, -⟩ := hi_int hh HT111
  have e0 : f 0 = ri h 111 0 := (u1 0 (by decide)).symm
  have b := (ri_ty (k := 0) (a := 111) (i := 0) (p := (0, 9)) hh rfl).2
  have hkI : (nI k).toInt = k := nI_toInt (by omega)
  have s1 : (ri h 111 0 - 1).toInt = (ri h 111 0).toInt - 1 := by
    rw [Int32.toInt_sub, show (1 : Int32).toInt = 1 by decide]
    exact bm32 (by unfold mI; omega) (by unfold MI; omega)
  refine ⟨Nat.le_of_ble_eq_true rfl, ⟨_, _, rfl⟩, ?_⟩
  show RA prog E pV1 (d + 2) mX8_isRubbing 0 [some (.ref 110), some (.int (nI k))] [] h (some (.int 1), h, 0, 0)
  refine RA.steps (i' := 4) (L' := [some (.ref 110), some (.int (nI k))]) (st' := [.ref 110, .long (Int32.toInt64 0), .long (nI k).toInt64]) (h' := h) 4 rfl ?_
  refine RA.getf rfl ho rfl g0 ?_
  refine RA.steps 1 rfl ?_
  refine RA.iald rfl p1 ⟨by decide, Nat.le_of_ble_eq_true rfl⟩ e0 ?_
  refine RA.steps (i' := 10) (L' := [some (.ref 110), some (.int (nI k))]) (st' := [.long (ri h 111 0 - 1).toInt64, .long (Int32.toInt64 0), .long (nI k).toInt64]) (h' := h) 3 rfl ?_
  refine RA.call0 (N := mX8_isIn) (as := [.long (nI k).toInt64, .long (Int32.toInt64 0), .long (ri h 111 0 - 1).toInt64]) (rest := []) rfl rfl rfl (isIn_t ⟨Int32.le_iff_toInt_le.mpr (by rw [hkI]; show (0 : Int) ≤ k; omega), Int32.le_iff_toInt_le.mpr (by omega)⟩) ?_
  exact RA.ret rfl rfl
theorem of_x {d k f : Nat} (hh : HI HT h) (hk : k < 9) (hf : f < 6) : Run prog E pV1 (d + 1) mX8_of [.ref 110, .int (nI k), .int (nI f)] h (some (.int (ri h 111 (21 + 6 * k + f))), h, 0, 0) := by
  obtain ⟨fs, ho, g0, -⟩ := m_ob hh
  obtain ⟨g, p1, u1, -⟩ := hi_int hh HT111
  refine ⟨Nat.le_of_ble_eq_true rfl, ⟨_, _, rfl⟩, ?_⟩
  show RA prog E pV1 (d + 1) mX8_of 0 [some (.ref 110), some (.int (nI k)), some (.int (nI f))] [] h (some (.int (ri h 111 (21 + 6 * k + f))), h, 0, 0)
  have e : 21 + 6 * nI k + nI f = nI (21 + 6 * k + f) := by
    have e1 : (6 : Int32) * nI k = nI (6 * k) := by
      match k, hk with
      | 0, _ => rfl
      | 1, _ => rfl
      | 2, _ => rfl
      | 3, _ => rfl
      | 4, _ => rfl
      | 5, _ => rfl
      | 6, _ => rfl
      | 7, _ => rfl
      | 8, _ => rfl
    rw [e1, show (21 : Int32) = nI 21 from rfl, nI_add, nI_add]
  refine RA.steps 1 rfl ?_
  refine RA.getf rfl ho rfl g0 ?_
  refine RA.steps (i' := 9) (L' := [some (.ref 110), some (.int (nI k)), some (.int (nI f))]) (st' := [.int (21 + 6 * nI k + nI f), .ref 111]) (h' := h) 7 rfl ?_
  rw [e]
  obtain ⟨c1, c2⟩ := nI_cl (k := 21 + 6 * k + f) (by omega)
  refine RA.iald rfl p1 ⟨c1, by rw [c2]; show 21 + 6 * k + f < 3075; omega⟩ (show g (nI (21 + 6 * k + f)).toNatClampNeg = ri h 111 (21 + 6 * k + f) by rw [c2]; exact (u1 _ (by omega)).symm) ?_
  exact RA.ret rfl rfl
theorem says_k {k : Nat} (x2 : Int32) (hh : HI HT h) (hj : JT h) (hk : k < 9) (hm : (k : Int) < (ri h 34 5).toInt) (hq : ri h 34 5 = ri h 111 0) (hr : RubK h k) : ∃ v : Int32, Run prog E pV1 120 mX7_says [.ref 0, .int (nI k), .int x2] h (some (.int v), h, 0, 0) ∧ Run prog E pV1 120 mX8_says [.ref 110, .int (nI k), .int x2] h (some (.int v), h, 0, 0) := by
  obtain ⟨fs0, ho0, hF0⟩ := hi_obj hh (a := 0) rfl
  obtain ⟨fs34, ho34, -⟩ := w_obj hh
  obtain ⟨fsr, hor, hfr⟩ := rub_obj hh hk
  have hsz := hfr 2 (by decide)
  obtain ⟨o8, ho8, hc8⟩ := mobj hh
  have s8 := (rub_c hh k hk 2 (by decide)).2 rfl
  have sz : ri h (39 + k) 2 = ri h 111 (21 + 6 * k + 2) := hr 2 (by decide)
  have hm2 : (k : Int) < (ri h 111 0).toInt := by rw [← hq]; exact hm
  have s1 : (ri h (39 + k) 2 - 1).toInt = (ri h (39 + k) 2).toInt - 1 := by
    rw [Int32.toInt_sub, show (1 : Int32).toInt = 1 by decide]
    exact bm32 (by unfold mI; omega) (by unfold MI; omega)
  by_cases c : 0 ≤ x2.toInt ∧ x2.toInt < (ri h (39 + k) 2).toInt
  · obtain ⟨v, sv1, sv2⟩ := say_both (E := E) (d := 119) (by decide) hh hj hk hr c.1 c.2
    have hin : (0 : Int32) ≤ x2 ∧ x2 ≤ ri h (39 + k) 2 - 1 := ⟨Int32.le_iff_toInt_le.mpr c.1, Int32.le_iff_toInt_le.mpr (by omega)⟩
    have hin2 : (0 : Int32) ≤ x2 ∧ x2 ≤ ri h 111 (21 + 6 * k + 2) - 1 := by rw [← sz]; exact hin
    refine ⟨v, ⟨Nat.le_of_ble_eq_true rfl, ⟨_, _, rfl⟩, ?_⟩, ⟨Nat.le_of_ble_eq_true rfl, ⟨_, _, rfl⟩, ?_⟩⟩
    · show RA prog E pV1 120 mX7_says 0 [some (.ref 0), some (.int (nI k)), some (.int x2), none] [] h (some (.int v), h, 0, 0)
      refine RA.steps (i' := 1) (L' := [some (.ref 0), some (.int (nI k)), some (.int x2), none]) (st' := [.ref 0]) (h' := h) 1 rfl ?_
      refine RA.getf rfl ho0 rfl (hF0.ref (k := 1) rfl) ?_
      refine RA.steps (i' := 3) (L' := [some (.ref 0), some (.int (nI k)), some (.int x2), none]) (st' := [.int (nI k), .ref 34]) (h' := h) 1 rfl ?_
      refine RA.call0 (N := mX6_one) (as := [.ref 34, .int (nI k)]) (rest := []) rfl rfl (pcallV rfl rfl ho34 rfl rfl (Nat.le_of_ble_eq_true rfl)) (one_x (d := 118) hh hk hm) ?_
      refine RA.steps (i' := 10) (L' := [some (.ref 0), some (.int (nI k)), some (.int x2), some (.ref (39 + k))]) (st' := [.ref (39 + k), .int 0, .int x2]) (h' := h) 6 rfl ?_
      refine RA.getf rfl hor rfl hsz ?_
      refine RA.steps (i' := 13) (L' := [some (.ref 0), some (.int (nI k)), some (.int x2), some (.ref (39 + k))]) (st' := [.int ((ri h (39 + k) 2) - 1), .int 0, .int x2]) (h' := h) 2 rfl ?_
      refine RA.call0 (N := mX7_within) (as := [.int x2, .int 0, .int ((ri h (39 + k) 2) - 1)]) (rest := []) rfl rfl rfl (within_t hin) ?_
      refine RA.if1F rfl rfl ?_
      refine RA.steps (i' := 17) (L' := [some (.ref 0), some (.int (nI k)), some (.int x2), some (.ref (39 + k))]) (st' := [.int x2, .ref (39 + k)]) (h' := h) 2 rfl ?_
      refine RA.call0 (N := mX4_sayAt) (as := [.ref (39 + k), .int x2]) (rest := []) rfl rfl (pcallV rfl rfl hor rfl rfl (Nat.le_of_ble_eq_true rfl)) sv1 ?_
      refine RA.steps (i' := 20) (L' := [some (.ref 0), some (.int (nI k)), some (.int x2), some (.ref (39 + k))]) (st' := [.int v]) (h' := h) 1 rfl ?_
      exact RA.ret rfl rfl
    · show RA prog E pV1 120 mX8_says 0 [some (.ref 110), some (.int (nI k)), some (.int x2)] [] h (some (.int v), h, 0, 0)
      refine RA.steps (i' := 2) (L' := [some (.ref 110), some (.int (nI k)), some (.int x2)]) (st' := [.int (nI k), .ref 110]) (h' := h) 2 rfl ?_
      refine RA.call0 (N := mX8_isRubbing) (as := [.ref 110, .int (nI k)]) (rest := []) rfl rfl (pcallV rfl rfl ho8 rfl hc8 (Nat.le_of_ble_eq_true rfl)) (isr_x (d := 117) hh hk hm2) ?_
      refine RA.if1F rfl rfl ?_
      refine RA.steps (i' := 10) (L' := [some (.ref 110), some (.int (nI k)), some (.int x2)]) (st' := [.int 2, .int (nI k), .ref 110, .long (Int32.toInt64 0), .long x2.toInt64]) (h' := h) 6 rfl ?_
      refine RA.call0 (N := mX8_of) (as := [.ref 110, .int (nI k), .int 2]) (rest := [.long (Int32.toInt64 0), .long x2.toInt64]) rfl rfl (pcallV rfl rfl ho8 rfl hc8 (Nat.le_of_ble_eq_true rfl)) (of_x (d := 118) (f := 2) hh hk (by decide)) ?_
      refine RA.steps (i' := 14) (L' := [some (.ref 110), some (.int (nI k)), some (.int x2)]) (st' := [.long ((ri h 111 (21 + 6 * k + 2)) - 1).toInt64, .long (Int32.toInt64 0), .long x2.toInt64]) (h' := h) 3 rfl ?_
      refine RA.call0 (N := mX8_isIn) (as := [.long x2.toInt64, .long (Int32.toInt64 0), .long ((ri h 111 (21 + 6 * k + 2)) - 1).toInt64]) (rest := []) rfl rfl rfl (isIn_t hin2) ?_
      refine RA.if1F rfl rfl ?_
      refine RA.steps (i' := 19) (L' := [some (.ref 110), some (.int (nI k)), some (.int x2)]) (st' := [.int x2, .int (nI k), .ref 110]) (h' := h) 3 rfl ?_
      refine RA.call0 (N := mX8_saysAt) (as := [.ref 110, .int (nI k), .int x2]) (rest := []) rfl rfl (pcallV rfl rfl ho8 rfl hc8 (Nat.le_of_ble_eq_true rfl)) sv2 ?_
      refine RA.steps (i' := 22) (L' := [some (.ref 110), some (.int (nI k)), some (.int x2)]) (st' := [.int v]) (h' := h) 1 rfl ?_
      exact RA.ret rfl rfl
  · have hno : ¬ ((0 : Int32) ≤ x2 ∧ x2 ≤ ri h (39 + k) 2 - 1) := fun q => c ⟨Int32.le_iff_toInt_le.mp q.1, by have := Int32.le_iff_toInt_le.mp q.2; omega⟩
    have hno2 : ¬ ((0 : Int32) ≤ x2 ∧ x2 ≤ ri h 111 (21 + 6 * k + 2) - 1) := by rw [← sz]; exact hno
    refine ⟨-1000000001, ⟨Nat.le_of_ble_eq_true rfl, ⟨_, _, rfl⟩, ?_⟩, ⟨Nat.le_of_ble_eq_true rfl, ⟨_, _, rfl⟩, ?_⟩⟩
    · show RA prog E pV1 120 mX7_says 0 [some (.ref 0), some (.int (nI k)), some (.int x2), none] [] h (some (.int (-1000000001)), h, 0, 0)
      refine RA.steps (i' := 1) (L' := [some (.ref 0), some (.int (nI k)), some (.int x2), none]) (st' := [.ref 0]) (h' := h) 1 rfl ?_
      refine RA.getf rfl ho0 rfl (hF0.ref (k := 1) rfl) ?_
      refine RA.steps (i' := 3) (L' := [some (.ref 0), some (.int (nI k)), some (.int x2), none]) (st' := [.int (nI k), .ref 34]) (h' := h) 1 rfl ?_
      refine RA.call0 (N := mX6_one) (as := [.ref 34, .int (nI k)]) (rest := []) rfl rfl (pcallV rfl rfl ho34 rfl rfl (Nat.le_of_ble_eq_true rfl)) (one_x (d := 118) hh hk hm) ?_
      refine RA.steps (i' := 10) (L' := [some (.ref 0), some (.int (nI k)), some (.int x2), some (.ref (39 + k))]) (st' := [.ref (39 + k), .int 0, .int x2]) (h' := h) 6 rfl ?_
      refine RA.getf rfl hor rfl hsz ?_
      refine RA.steps (i' := 13) (L' := [some (.ref 0), some (.int (nI k)), some (.int x2), some (.ref (39 + k))]) (st' := [.int ((ri h (39 + k) 2) - 1), .int 0, .int x2]) (h' := h) 2 rfl ?_
      refine RA.call0 (N := mX7_within) (as := [.int x2, .int 0, .int ((ri h (39 + k) 2) - 1)]) (rest := []) rfl rfl rfl (within_f hno) ?_
      refine RA.if1T rfl rfl ?_
      refine RA.steps (i' := 20) (L' := [some (.ref 0), some (.int (nI k)), some (.int x2), some (.ref (39 + k))]) (st' := [.int (-1000000001)]) (h' := h) 1 rfl ?_
      exact RA.ret rfl rfl
    · show RA prog E pV1 120 mX8_says 0 [some (.ref 110), some (.int (nI k)), some (.int x2)] [] h (some (.int (-1000000001)), h, 0, 0)
      refine RA.steps (i' := 2) (L' := [some (.ref 110), some (.int (nI k)), some (.int x2)]) (st' := [.int (nI k), .ref 110]) (h' := h) 2 rfl ?_
      refine RA.call0 (N := mX8_isRubbing) (as := [.ref 110, .int (nI k)]) (rest := []) rfl rfl (pcallV rfl rfl ho8 rfl hc8 (Nat.le_of_ble_eq_true rfl)) (isr_x (d := 117) hh hk hm2) ?_
      refine RA.if1F rfl rfl ?_
      refine RA.steps (i' := 10) (L' := [some (.ref 110), some (.int (nI k)), some (.int x2)]) (st' := [.int 2, .int (nI k), .ref 110, .long (Int32.toInt64 0), .long x2.toInt64]) (h' := h) 6 rfl ?_
      refine RA.call0 (N := mX8_of) (as := [.ref 110, .int (nI k), .int 2]) (rest := [.long (Int32.toInt64 0), .long x2.toInt64]) rfl rfl (pcallV rfl rfl ho8 rfl hc8 (Nat.le_of_ble_eq_true rfl)) (of_x (d := 118) (f := 2) hh hk (by decide)) ?_
      refine RA.steps (i' := 14) (L' := [some (.ref 110), some (.int (nI k)), some (.int x2)]) (st' := [.long ((ri h 111 (21 + 6 * k + 2)) - 1).toInt64, .long (Int32.toInt64 0), .long x2.toInt64]) (h' := h) 3 rfl ?_
      refine RA.call0 (N := mX8_isIn) (as := [.long x2.toInt64, .long (Int32.toInt64 0), .long ((ri h 111 (21 + 6 * k + 2)) - 1).toInt64]) (rest := []) rfl rfl rfl (isIn_f hno2) ?_
      refine RA.if1T rfl rfl ?_
      refine RA.steps (i' := 22) (L' := [some (.ref 110), some (.int (nI k)), some (.int x2)]) (st' := [.int (-1000000001)]) (h' := h) 1 rfl ?_
      exact RA.ret rfl rfl
end ONE
/-! ===== a rubbing by its number, or none ===== -/
section NON
variable {E : pX} {h : List pC}
/-- no rubbing of that number -/
def NoR (h : List pC) (x : Int32) : Prop := x.toInt < 0 ∨ (ri h 34 5).toInt ≤ x.toInt
theorem one_n {d : Nat} {x : Int32} (hh : HI HT h) (hn : NoR h x) : Run prog E pV1 (d + 1) mX6_one [.ref 34, .int x] h (some .null, h, 0, 0) := by
  obtain ⟨fs, ho, hm5, -, -⟩ := w_obj hh
  refine ⟨Nat.le_of_ble_eq_true rfl, ⟨_, _, rfl⟩, ?_⟩
  show RA prog E pV1 (d + 1) mX6_one 0 [some (.ref 34), some (.int x)] [] h (some .null, h, 0, 0)
  refine RA.steps (i' := 1) (L' := [some (.ref 34), some (.int x)]) (st' := [.int x]) (h' := h) 1 rfl ?_
  by_cases c : x < 0
  · refine RA.if1T rfl (decide_eq_true c) ?_
    refine RA.steps (i' := 17) (L' := [some (.ref 34), some (.int x)]) (st' := [.null]) (h' := h) 1 rfl ?_
    exact RA.ret rfl rfl
  have c' : ¬ x.toInt < 0 := fun q => c (Int32.lt_iff_toInt_lt.mpr q)
  have hx : ri h 34 5 ≤ x := Int32.le_iff_toInt_le.mpr (by unfold NoR at hn; omega)
  refine RA.if1F rfl (decide_eq_false c) ?_
  refine RA.steps (i' := 4) (L' := [some (.ref 34), some (.int x)]) (st' := [.ref 34, .int x]) (h' := h) 2 rfl ?_
  refine RA.getf rfl ho rfl hm5 ?_
  refine RA.if2T rfl (decide_eq_true hx) ?_
  refine RA.steps (i' := 17) (L' := [some (.ref 34), some (.int x)]) (st' := [.null]) (h' := h) 1 rfl ?_
  exact RA.ret rfl rfl
theorem isr_n {d : Nat} {x : Int32} (hh : HI HT h) (hq : ri h 34 5 = ri h 111 0) (hn : NoR h x) : Run prog E pV1 (d + 2) mX8_isRubbing [.ref 110, .int x] h (some (.int 0), h, 0, 0) := by
  obtain ⟨fs, ho, g0, -⟩ := m_ob hh
  obtain ⟨f, p1, u1, -⟩ := hi_int hh HT111
  have e0 : f 0 = ri h 111 0 := (u1 0 (by decide)).symm
  have b := (ri_ty (k := 0) (a := 111) (i := 0) (p := (0, 9)) hh rfl).2
  have s1 : (ri h 111 0 - 1).toInt = (ri h 111 0).toInt - 1 := by
    rw [Int32.toInt_sub, show (1 : Int32).toInt = 1 by decide]
    exact bm32 (by unfold mI; omega) (by unfold MI; omega)
  refine ⟨Nat.le_of_ble_eq_true rfl, ⟨_, _, rfl⟩, ?_⟩
  show RA prog E pV1 (d + 2) mX8_isRubbing 0 [some (.ref 110), some (.int x)] [] h (some (.int 0), h, 0, 0)
  refine RA.steps (i' := 4) (L' := [some (.ref 110), some (.int x)]) (st' := [.ref 110, .long (Int32.toInt64 0), .long x.toInt64]) (h' := h) 4 rfl ?_
  refine RA.getf rfl ho rfl g0 ?_
  refine RA.steps 1 rfl ?_
  refine RA.iald rfl p1 ⟨by decide, Nat.le_of_ble_eq_true rfl⟩ e0 ?_
  refine RA.steps (i' := 10) (L' := [some (.ref 110), some (.int x)]) (st' := [.long (ri h 111 0 - 1).toInt64, .long (Int32.toInt64 0), .long x.toInt64]) (h' := h) 3 rfl ?_
  refine RA.call0 (N := mX8_isIn) (as := [.long x.toInt64, .long (Int32.toInt64 0), .long (ri h 111 0 - 1).toInt64]) (rest := []) rfl rfl rfl (isIn_f (fun q => ?_)) ?_
  · have q1 : (0 : Int) ≤ x.toInt := Int32.le_iff_toInt_le.mp q.1
    have q2 := Int32.le_iff_toInt_le.mp q.2
    unfold NoR at hn
    rw [hq] at hn
    omega
  · exact RA.ret rfl rfl
theorem rub_dec (x : Int32) (hh : HI HT h) : (∃ k : Nat, k < 9 ∧ x = nI k ∧ (k : Int) < (ri h 34 5).toInt) ∨ NoR h x := by
  have b := (ri_ty (k := 8) (a := 34) (i := 5) (p := (0, 9)) hh rfl).2
  dsimp only at b
  by_cases c : x.toInt < 0
  · exact Or.inr (Or.inl c)
  by_cases c2 : (ri h 34 5).toInt ≤ x.toInt
  · exact Or.inr (Or.inr c2)
  obtain ⟨k, rfl, hk⟩ := nIof (x := x) (by omega) (by omega)
  exact Or.inl ⟨k, by omega, rfl, by omega⟩
/-- what it says, place by place, on both sides -/
def SayF (E : pX) (h : List pC) (k sz : Nat) (S : Nat → Int32) : Prop := ∀ p : Nat, p < sz → Run prog E pV1 118 mX4_sayAt [.ref (39 + k), .int (nI p)] h (some (.int (S p)), h, 0, 0) ∧ Run prog E pV1 118 mX8_saysAt [.ref 110, .int (nI k), .int (nI p)] h (some (.int (S p)), h, 0, 0)
theorem say_fn {k sz : Nat} (hh : HI HT h) (hj : JT h) (hk : k < 9) (hr : RubK h k) (hs : (ri h (39 + k) 2).toInt = sz) : ∃ S, SayF E h k sz S := by
  have H : ∀ p : Nat, ∃ v : Int32, p < sz → Run prog E pV1 118 mX4_sayAt [.ref (39 + k), .int (nI p)] h (some (.int v), h, 0, 0) ∧ Run prog E pV1 118 mX8_saysAt [.ref 110, .int (nI k), .int (nI p)] h (some (.int v), h, 0, 0) := fun p => by
    by_cases c : p < sz
    · have s8 := (rub_c hh k hk 2 (by decide)).2 rfl
      obtain ⟨v, q1, q2⟩ := say_both (E := E) (d := 118) (p := nI p) (by decide) hh hj hk hr (by rw [nI_toInt (by omega)]; omega) (by rw [nI_toInt (by omega)]; omega)
      exact ⟨v, fun _ => ⟨q1, q2⟩⟩
    · exact ⟨0, fun q => absurd q c⟩
  exact ⟨fun p => Classical.choose (H p), fun p hp => Classical.choose_spec (H p) hp⟩
theorem of_z {d k z : Nat} (hh : HI HT h) (hk : k < 9) (hz : ri h 111 (21 + 6 * k + 2) = nI z) : Run prog E pV1 (d + 1) mX8_of [.ref 110, .int (nI k), .int 2] h (some (.int (nI z)), h, 0, 0) := by
  rw [← hz]
  exact of_x (f := 2) hh hk (by decide)
/-- its size -/
theorem rub_sz {k : Nat} (hh : HI HT h) (hk : k < 9) : ∃ sz : Nat, 1 ≤ sz ∧ sz ≤ 8 ∧ ri h (39 + k) 2 = nI sz := by
  have s8 := (rub_c hh k hk 2 (by decide)).2 rfl
  obtain ⟨sz, e, hs⟩ := nIof (x := ri h (39 + k) 2) (by omega) (by omega)
  exact ⟨sz, by omega, by omega, e⟩
end NON
/-! ===== sheets: what they hold, exactly ===== -/
section VLX
variable {E : pX} {h : List pC}
theorem rows_at (hh : HI HT h) : ∃ x : Nat × Nat × (Nat → Option Nat), h[79]? = some (.inr (.inl x)) ∧ x.2.1 = 4 ∧ ∀ k : Nat, k < 4 → x.2.2 k = some (82 + 2 * k) := by
  obtain ⟨c, hc, hy⟩ := hh.2 79 (.inr (.inl (3, 4, fun i => ([82, 84, 86, 88] : List Nat)[i]?))) rfl
  rcases c with x | x | x
  · exact hy.elim
  · obtain ⟨q1, q2, q3⟩ : x.1 = 3 ∧ x.2.1 = 4 ∧ ∀ i : Nat, i < 4 → x.2.2 i = ([82, 84, 86, 88] : List Nat)[i]? := hy
    refine ⟨x, hc, q2, fun k hk => ?_⟩
    rw [q3 k hk]
    match k, hk with
    | 0, _ => rfl
    | 1, _ => rfl
    | 2, _ => rfl
    | 3, _ => rfl
  · exact hy.elim
theorem rowOf_x {d u : Nat} (hh : HI HT h) (hu : u < 4) : Run prog E pV1 (d + 1) mX7_rowOf [.ref 0, .int (nI u)] h (some (.ref (82 + 2 * u)), h, 0, 0) := by
  obtain ⟨fs, ho, hF⟩ := hi_obj hh (a := 0) rfl
  obtain ⟨x, hc, hx4, hx⟩ := rows_at hh
  refine ⟨Nat.le_of_ble_eq_true rfl, ⟨_, _, rfl⟩, ?_⟩
  show RA prog E pV1 (d + 1) mX7_rowOf 0 [some (.ref 0), some (.int (nI u))] [] h (some (.ref (82 + 2 * u)), h, 0, 0)
  refine RA.steps (i' := 1) (L' := [some (.ref 0), some (.int (nI u))]) (st' := [.int (nI u)]) (h' := h) 1 rfl ?_
  refine RA.if1F rfl (decide_eq_false (Int32.not_lt.mpr (nI_cl (by omega)).1)) ?_
  refine RA.steps (i' := 4) (L' := [some (.ref 0), some (.int (nI u))]) (st' := [.ref 0, .int (nI u)]) (h' := h) 2 rfl ?_
  refine RA.getf rfl ho rfl (hF.ref (k := 5) rfl) ?_
  refine RA.alenR rfl hc hx4 ?_
  refine RA.if2F rfl (decide_eq_false (Int32.not_le.mpr (nI_lt hu (by decide)))) ?_
  refine RA.steps (i' := 8) (L' := [some (.ref 0), some (.int (nI u))]) (st' := [.ref 0]) (h' := h) 1 rfl ?_
  refine RA.getf rfl ho rfl (hF.ref (k := 5) rfl) ?_
  refine RA.steps (i' := 10) (L' := [some (.ref 0), some (.int (nI u))]) (st' := [.int (nI u), .ref 79]) (h' := h) 1 rfl ?_
  refine RA.aald rfl hc ⟨(nI_cl (by omega)).1, by rw [(nI_cl (by omega)).2, hx4]; exact hu⟩ (by rw [(nI_cl (by omega)).2]; exact hx u hu) ?_
  refine RA.steps (i' := 13) (L' := [some (.ref 0), some (.int (nI u))]) (st' := [.ref (82 + 2 * u)]) (h' := h) 1 rfl ?_
  exact RA.ret rfl rfl
theorem rowOf_n {d : Nat} {x : Int32} (hh : HI HT h) (hn : x.toInt < 0 ∨ 4 ≤ x.toInt) : Run prog E pV1 (d + 1) mX7_rowOf [.ref 0, .int x] h (some .null, h, 0, 0) := by
  obtain ⟨fs, ho, hF⟩ := hi_obj hh (a := 0) rfl
  obtain ⟨xx, hc, hx4, -⟩ := rows_at hh
  refine ⟨Nat.le_of_ble_eq_true rfl, ⟨_, _, rfl⟩, ?_⟩
  show RA prog E pV1 (d + 1) mX7_rowOf 0 [some (.ref 0), some (.int x)] [] h (some .null, h, 0, 0)
  by_cases c : x < 0
  · skip
    refine RA.steps (i' := 1) (L' := [some (.ref 0), some (.int x)]) (st' := [.int x]) (h' := h) 1 rfl ?_
    refine RA.if1T rfl (decide_eq_true c) ?_
    refine RA.steps (i' := 13) (L' := [some (.ref 0), some (.int x)]) (st' := [.null]) (h' := h) 1 rfl ?_
    exact RA.ret rfl rfl
  · have c' : ¬ x.toInt < 0 := fun q => c (Int32.lt_iff_toInt_lt.mpr q)
    have hx5 : nI 4 ≤ x := Int32.le_iff_toInt_le.mpr (by rw [nI_toInt (by decide)]; omega)
    refine RA.steps (i' := 1) (L' := [some (.ref 0), some (.int x)]) (st' := [.int x]) (h' := h) 1 rfl ?_
    refine RA.if1F rfl (decide_eq_false c) ?_
    refine RA.steps (i' := 4) (L' := [some (.ref 0), some (.int x)]) (st' := [.ref 0, .int x]) (h' := h) 2 rfl ?_
    refine RA.getf rfl ho rfl (hF.ref (k := 5) rfl) ?_
    refine RA.alenR rfl hc hx4 ?_
    refine RA.if2T rfl (decide_eq_true hx5) ?_
    refine RA.steps (i' := 13) (L' := [some (.ref 0), some (.int x)]) (st' := [.null]) (h' := h) 1 rfl ?_
    exact RA.ret rfl rfl
theorem row_obj (hh : HI HT h) : ∀ u : Nat, u < 4 → ∃ fs : List Value, pobj h (82 + 2 * u) = some (3, fs) ∧ fs[0]? = some (.ref (83 + 2 * u)) ∧ fs[1]? = some (.int (ri h (82 + 2 * u) 1)) ∧ fs[2]? = some (.int (ri h (82 + 2 * u) 2)) := by
  have one : ∀ (a b : Nat) (xs : List AV), HT[a]? = some (.inr (.inr (3, xs))) → xs[0]? = some (5, 0, 0, b) → elT HT 5 a 1 1 = some (.inl (-2147483648, 2147483647)) → elT HT 5 a 2 2 = some (.inl (-2147483648, 2147483647)) → ∃ fs : List Value, pobj h a = some (3, fs) ∧ fs[0]? = some (.ref b) ∧ fs[1]? = some (.int (ri h a 1)) ∧ fs[2]? = some (.int (ri h a 2)) := fun a b xs h1 h2 h3 h4 => by
    obtain ⟨fs, ho, hF⟩ := hi_obj hh h1
    have c1 := (ri_ty hh h3).1
    have c2 := (ri_ty hh h4).1
    unfold ct at c1 c2
    rw [pobj_at ho] at c1 c2
    exact ⟨fs, ho, hF.ref (k := 0) h2, c1, c2⟩
  intro u hu
  match u, hu with
  | 0, _ => exact one 82 83 _ rfl rfl rfl rfl
  | 1, _ => exact one 84 85 _ rfl rfl rfl rfl
  | 2, _ => exact one 86 87 _ rfl rfl rfl rfl
  | 3, _ => exact one 88 89 _ rfl rfl rfl rfl
theorem vals_at (hh : HI HT h) : ∀ u : Nat, u < 4 → ∃ f : Nat → Int32, pint h (83 + 2 * u) = some (24, f) ∧ ∀ j : Nat, j < 24 → ri h (83 + 2 * u) j = f j := by
  have one : ∀ a : Nat, HT[a]? = some (.inl (24, [])) → ∃ f : Nat → Int32, pint h a = some (24, f) ∧ ∀ j : Nat, j < 24 → ri h a j = f j := fun a h1 => by
    obtain ⟨f, p, u, -⟩ := hi_int hh h1
    exact ⟨f, p, u⟩
  intro u hu
  match u, hu with
  | 0, _ => exact one 83 rfl
  | 1, _ => exact one 85 rfl
  | 2, _ => exact one 87 rfl
  | 3, _ => exact one 89 rfl
/-- the numbers of the sheets are alike -/
def RV (h : List pC) : Prop := ∀ u j : Nat, u < 4 → j < 24 → ri h (83 + 2 * u) j = ri h 116 (24 * u + j)
/-- so are their sorts, and how many places they have -/
def RSS (h : List pC) : Prop := ∀ u : Nat, u < 4 → ri h (82 + 2 * u) 1 = ri h 114 u ∧ ri h (82 + 2 * u) 2 = ri h 115 u
theorem rows_ty (hh : HI HT h) : ∀ u : Nat, u < 4 → (-1 ≤ (ri h 114 u).toInt ∧ (ri h 114 u).toInt ≤ 1) ∧ 0 ≤ (ri h 115 u).toInt ∧ (ri h 115 u).toInt ≤ 24 := by
  intro u hu
  match u, hu with
  | 0, _ => exact ⟨(ri_ty (k := 0) (p := (-1, 1)) hh rfl).2, (ri_ty (k := 0) (p := (0, 24)) hh rfl).2⟩
  | 1, _ => exact ⟨(ri_ty (k := 0) (p := (-1, 1)) hh rfl).2, (ri_ty (k := 0) (p := (0, 24)) hh rfl).2⟩
  | 2, _ => exact ⟨(ri_ty (k := 0) (p := (-1, 1)) hh rfl).2, (ri_ty (k := 0) (p := (0, 24)) hh rfl).2⟩
  | 3, _ => exact ⟨(ri_ty (k := 0) (p := (-1, 1)) hh rfl).2, (ri_ty (k := 0) (p := (0, 24)) hh rfl).2⟩
theorem isMis_t {d u : Nat} (hh : HI HT h) (hu : u < 4) (c : ri h (82 + 2 * u) 1 = -1) : Run prog E pV1 (d + 1) mX3_isMissing [.ref (82 + 2 * u)] h (some (.int 1), h, 0, 0) := by
  obtain ⟨fs, ho, -, h1, -⟩ := row_obj hh u hu
  refine ⟨Nat.le_of_ble_eq_true rfl, ⟨_, _, rfl⟩, ?_⟩
  show RA prog E pV1 (d + 1) mX3_isMissing 0 [some (.ref (82 + 2 * u))] [] h (some (.int 1), h, 0, 0)
  refine RA.steps (i' := 1) (L' := [some (.ref (82 + 2 * u))]) (st' := [.ref (82 + 2 * u)]) (h' := h) 1 rfl ?_
  refine RA.getf rfl ho rfl h1 ?_
  refine RA.steps (i' := 3) (L' := [some (.ref (82 + 2 * u))]) (st' := [.int (-1), .int (ri h (82 + 2 * u) 1)]) (h' := h) 1 rfl ?_
  refine RA.if2F rfl (decide_eq_false (fun q => q c)) ?_
  refine RA.steps (i' := 7) (L' := [some (.ref (82 + 2 * u))]) (st' := [.int 1]) (h' := h) 2 rfl ?_
  exact RA.ret rfl rfl
theorem isMis_f {d u : Nat} (hh : HI HT h) (hu : u < 4) (c : ¬ ri h (82 + 2 * u) 1 = -1) : Run prog E pV1 (d + 1) mX3_isMissing [.ref (82 + 2 * u)] h (some (.int 0), h, 0, 0) := by
  obtain ⟨fs, ho, -, h1, -⟩ := row_obj hh u hu
  refine ⟨Nat.le_of_ble_eq_true rfl, ⟨_, _, rfl⟩, ?_⟩
  show RA prog E pV1 (d + 1) mX3_isMissing 0 [some (.ref (82 + 2 * u))] [] h (some (.int 0), h, 0, 0)
  refine RA.steps (i' := 1) (L' := [some (.ref (82 + 2 * u))]) (st' := [.ref (82 + 2 * u)]) (h' := h) 1 rfl ?_
  refine RA.getf rfl ho rfl h1 ?_
  refine RA.steps (i' := 3) (L' := [some (.ref (82 + 2 * u))]) (st' := [.int (-1), .int (ri h (82 + 2 * u) 1)]) (h' := h) 1 rfl ?_
  refine RA.if2T rfl (decide_eq_true c) ?_
  refine RA.steps (i' := 7) (L' := [some (.ref (82 + 2 * u))]) (st' := [.int 0]) (h' := h) 1 rfl ?_
  exact RA.ret rfl rfl
theorem has_t {d u : Nat} {x : Int32} (hh : HI HT h) (hu : u < 4) (b0 : 0 ≤ x) (b1 : x < ri h (82 + 2 * u) 2) : Run prog E pV1 (d + 1) mX3_has [.ref (82 + 2 * u), .int x] h (some (.int 1), h, 0, 0) := by
  obtain ⟨fs, ho, -, -, h2⟩ := row_obj hh u hu
  refine ⟨Nat.le_of_ble_eq_true rfl, ⟨_, _, rfl⟩, ?_⟩
  show RA prog E pV1 (d + 1) mX3_has 0 [some (.ref (82 + 2 * u)), some (.int x)] [] h (some (.int 1), h, 0, 0)
  refine RA.steps (i' := 1) (L' := [some (.ref (82 + 2 * u)), some (.int x)]) (st' := [.int x]) (h' := h) 1 rfl ?_
  refine RA.if1F rfl (decide_eq_false (Int32.not_lt.mpr b0)) ?_
  refine RA.steps (i' := 4) (L' := [some (.ref (82 + 2 * u)), some (.int x)]) (st' := [.ref (82 + 2 * u), .int x]) (h' := h) 2 rfl ?_
  refine RA.getf rfl ho rfl h2 ?_
  refine RA.if2F rfl (decide_eq_false (Int32.not_le.mpr b1)) ?_
  refine RA.steps (i' := 9) (L' := [some (.ref (82 + 2 * u)), some (.int x)]) (st' := [.int 1]) (h' := h) 2 rfl ?_
  exact RA.ret rfl rfl
theorem has_f {d u : Nat} {x : Int32} (hh : HI HT h) (hu : u < 4) (hn : ¬ (0 ≤ x ∧ x < ri h (82 + 2 * u) 2)) : Run prog E pV1 (d + 1) mX3_has [.ref (82 + 2 * u), .int x] h (some (.int 0), h, 0, 0) := by
  obtain ⟨fs, ho, -, -, h2⟩ := row_obj hh u hu
  refine ⟨Nat.le_of_ble_eq_true rfl, ⟨_, _, rfl⟩, ?_⟩
  show RA prog E pV1 (d + 1) mX3_has 0 [some (.ref (82 + 2 * u)), some (.int x)] [] h (some (.int 0), h, 0, 0)
  by_cases c : x < 0
  · skip
    refine RA.steps (i' := 1) (L' := [some (.ref (82 + 2 * u)), some (.int x)]) (st' := [.int x]) (h' := h) 1 rfl ?_
    refine RA.if1T rfl (decide_eq_true c) ?_
    refine RA.steps (i' := 9) (L' := [some (.ref (82 + 2 * u)), some (.int x)]) (st' := [.int 0]) (h' := h) 1 rfl ?_
    exact RA.ret rfl rfl
  · have hx5 : ri h (82 + 2 * u) 2 ≤ x := Int32.not_lt.mp (fun q => hn ⟨Int32.not_lt.mp c, q⟩)
    refine RA.steps (i' := 1) (L' := [some (.ref (82 + 2 * u)), some (.int x)]) (st' := [.int x]) (h' := h) 1 rfl ?_
    refine RA.if1F rfl (decide_eq_false c) ?_
    refine RA.steps (i' := 4) (L' := [some (.ref (82 + 2 * u)), some (.int x)]) (st' := [.ref (82 + 2 * u), .int x]) (h' := h) 2 rfl ?_
    refine RA.getf rfl ho rfl h2 ?_
    refine RA.if2T rfl (decide_eq_true hx5) ?_
    refine RA.steps (i' := 9) (L' := [some (.ref (82 + 2 * u)), some (.int x)]) (st' := [.int 0]) (h' := h) 1 rfl ?_
    exact RA.ret rfl rfl
theorem put_x {d u p : Nat} {w : Int32} {f : Nat → Int32} (hh : HI HT h) (hu : u < 4) (hp24 : p < 24) (hp : pint h (83 + 2 * u) = some (24, f)) (b0 : (0 : Int32) ≤ nI p) (b1 : nI p < ri h (82 + 2 * u) 2) : Run prog E pV1 (d + 2) mX3_put [.ref (82 + 2 * u), .int (nI p), .int w] h (none, h.set (83 + 2 * u) (.inl (24, va_up f p w)), 0, 0) := by
  obtain ⟨fs, ho, h0, -, h2⟩ := row_obj hh u hu
  have e : (nI p).toNatClampNeg = p := (nI_cl (by omega)).2
  refine ⟨Nat.le_of_ble_eq_true rfl, ⟨_, _, rfl⟩, ?_⟩
  show RA prog E pV1 (d + 2) mX3_put 0 [some (.ref (82 + 2 * u)), some (.int (nI p)), some (.int w)] [] h (none, h.set (83 + 2 * u) (.inl (24, va_up f p w)), 0, 0)
  rw [show va_up f p w = va_up f (nI p).toNatClampNeg w by rw [e]]
  refine RA.steps (i' := 2) (L' := [some (.ref (82 + 2 * u)), some (.int (nI p)), some (.int w)]) (st' := [.int (nI p), .ref (82 + 2 * u)]) (h' := h) 2 rfl ?_
  refine RA.call0 (N := mX3_has) (as := [.ref (82 + 2 * u), .int (nI p)]) (rest := []) rfl rfl (pcallV rfl rfl ho rfl rfl (Nat.le_of_ble_eq_true rfl)) (has_t (d := d) hh hu b0 b1) ?_
  refine RA.if1F rfl rfl ?_
  refine RA.steps (i' := 6) (L' := [some (.ref (82 + 2 * u)), some (.int (nI p)), some (.int w)]) (st' := [.ref (82 + 2 * u), .int (nI p)]) (h' := h) 2 rfl ?_
  refine RA.getf rfl ho rfl h0 ?_
  refine RA.alenI rfl hp ?_
  refine RA.if2F rfl (decide_eq_false (Int32.not_le.mpr (nI_lt hp24 (by decide)))) ?_
  refine RA.steps (i' := 10) (L' := [some (.ref (82 + 2 * u)), some (.int (nI p)), some (.int w)]) (st' := [.ref (82 + 2 * u)]) (h' := h) 1 rfl ?_
  refine RA.getf rfl ho rfl h0 ?_
  refine RA.steps (i' := 13) (L' := [some (.ref (82 + 2 * u)), some (.int (nI p)), some (.int w)]) (st' := [.int w, .int (nI p), .ref (83 + 2 * u)]) (h' := h) 2 rfl ?_
  refine RA.iast rfl hp ⟨(nI_cl (by omega)).1, by rw [(nI_cl (by omega)).2]; exact hp24⟩ ?_
  exact RA.ret rfl rfl
theorem isSh_t {d : Nat} {x : Int32} (H : (0 : Int32) ≤ x ∧ x ≤ 3) : Run prog E pV1 (d + 2) mX8_isSheet [.int x] h (some (.int 1), h, 0, 0) := by
  refine ⟨Nat.le_of_ble_eq_true rfl, ⟨_, _, rfl⟩, ?_⟩
  show RA prog E pV1 (d + 2) mX8_isSheet 0 [some (.int x)] [] h (some (.int 1), h, 0, 0)
  refine RA.steps (i' := 4) (L' := [some (.int x)]) (st' := [.long (Int32.toInt64 3), .long (Int32.toInt64 0), .long x.toInt64]) (h' := h) 4 rfl ?_
  refine RA.call0 (N := mX8_isIn) (as := [.long x.toInt64, .long (Int32.toInt64 0), .long (Int32.toInt64 3)]) (rest := []) rfl rfl rfl (isIn_t H) ?_
  exact RA.ret rfl rfl
theorem isSh_f {d : Nat} {x : Int32} (H : ¬ ((0 : Int32) ≤ x ∧ x ≤ 3)) : Run prog E pV1 (d + 2) mX8_isSheet [.int x] h (some (.int 0), h, 0, 0) := by
  refine ⟨Nat.le_of_ble_eq_true rfl, ⟨_, _, rfl⟩, ?_⟩
  show RA prog E pV1 (d + 2) mX8_isSheet 0 [some (.int x)] [] h (some (.int 0), h, 0, 0)
  refine RA.steps (i' := 4) (L' := [some (.int x)]) (st' := [.long (Int32.toInt64 3), .long (Int32.toInt64 0), .long x.toInt64]) (h' := h) 4 rfl ?_
  refine RA.call0 (N := mX8_isIn) (as := [.long x.toInt64, .long (Int32.toInt64 0), .long (Int32.toInt64 3)]) (rest := []) rfl rfl rfl (isIn_f H) ?_
  exact RA.ret rfl rfl
theorem sh16 (x : Int32) : (x <<< ((16 : Int32) &&& 31)) >>> ((16 : Int32) &&& 31) = x.toInt16.toInt32 := by
  have h16 : (((16 : Int32) &&& 31).toBitVec.smod 32).toNat = 16 := by decide
  refine Int32.toBitVec_inj.mp ?_
  show (x.toBitVec <<< (((16 : Int32) &&& 31).toBitVec.smod 32).toNat).sshiftRight (((16 : Int32) &&& 31).toBitVec.smod 32).toNat = (x.toBitVec.signExtend 16).signExtend 32
  rw [h16]
  refine BitVec.eq_of_getLsbD_eq_iff.mpr (fun i hi => ?_)
  simp only [BitVec.getLsbD_sshiftRight, BitVec.getLsbD_signExtend, BitVec.msb_eq_getLsbD_last, BitVec.getLsbD_shiftLeft]
  by_cases c : i < 16
  · have c2 : 16 + i < 32 := by omega
    have c3 : ¬ 32 ≤ i := by omega
    have c4 : ¬ 16 + i < 16 := by omega
    simp [c, c2, c3, c4, hi]
  · have c2 : ¬ 16 + i < 32 := by omega
    have c3 : ¬ 32 ≤ i := by omega
    simp [c, c2, c3, hi]

def atV (V : Nat → Int32) (l x : Nat) : Int32 := if x < l then V x else -1000000005
theorem has_c1 {d a x l : Nat} {fs : List Value} (ho : pobj h a = some (3, fs)) (r2 : fs[2]? = some (.int (nI l))) (hx : x < 24) (hc : x < l ∧ l ≤ 24) : Run prog E pV1 (d + 1) mX3_has [.ref a, .int (nI x)] h (some (.int 1), h, 0, 0) := by
  refine ⟨Nat.le_of_ble_eq_true rfl, ⟨_, _, rfl⟩, ?_⟩
  show RA prog E pV1 (d + 1) mX3_has 0 [some (.ref a), some (.int (nI x))] [] h (some (.int 1), h, 0, 0)
  refine RA.steps (i' := 1) (L' := [some (.ref a), some (.int (nI x))]) (st' := [.int (nI x)]) (h' := h) 1 rfl ?_
  refine RA.if1F rfl (decide_eq_false (Int32.not_lt.mpr (nI_cl (by omega)).1)) ?_
  refine RA.steps (i' := 4) (L' := [some (.ref a), some (.int (nI x))]) (st' := [.ref a, .int (nI x)]) (h' := h) 2 rfl ?_
  refine RA.getf rfl ho rfl r2 ?_
  refine RA.if2F rfl (decide_eq_false (Int32.not_le.mpr (nI_lt hc.1 (by omega)))) ?_
  refine RA.steps (i' := 9) (L' := [some (.ref a), some (.int (nI x))]) (st' := [.int 1]) (h' := h) 2 rfl ?_
  exact RA.ret rfl rfl
theorem has_c0 {d a x l : Nat} {fs : List Value} (ho : pobj h a = some (3, fs)) (r2 : fs[2]? = some (.int (nI l))) (hx : x < 24) (hc : l ≤ x) : Run prog E pV1 (d + 1) mX3_has [.ref a, .int (nI x)] h (some (.int 0), h, 0, 0) := by
  refine ⟨Nat.le_of_ble_eq_true rfl, ⟨_, _, rfl⟩, ?_⟩
  show RA prog E pV1 (d + 1) mX3_has 0 [some (.ref a), some (.int (nI x))] [] h (some (.int 0), h, 0, 0)
  refine RA.steps (i' := 1) (L' := [some (.ref a), some (.int (nI x))]) (st' := [.int (nI x)]) (h' := h) 1 rfl ?_
  refine RA.if1F rfl (decide_eq_false (Int32.not_lt.mpr (nI_cl (by omega)).1)) ?_
  refine RA.steps (i' := 4) (L' := [some (.ref a), some (.int (nI x))]) (st' := [.ref a, .int (nI x)]) (h' := h) 2 rfl ?_
  refine RA.getf rfl ho rfl r2 ?_
  refine RA.if2T rfl (decide_eq_true (nI_le hc (by omega))) ?_
  refine RA.steps (i' := 9) (L' := [some (.ref a), some (.int (nI x))]) (st' := [.int 0]) (h' := h) 1 rfl ?_
  exact RA.ret rfl rfl
theorem at_x {d a b x l : Nat} {V : Nat → Int32} {fs : List Value} (ho : pobj h a = some (3, fs)) (r0 : fs[0]? = some (.ref b)) (r2 : fs[2]? = some (.int (nI l))) (hx : x < 24 ∧ l ≤ 24) (hp : pint h b = some (24, V)) : Run prog E pV1 (d + 2) mX3_at [.ref a, .int (nI x)] h (some (.int (atV V l x)), h, 0, 0) := by
  obtain ⟨hx, hl⟩ := hx
  refine ⟨Nat.le_of_ble_eq_true rfl, ⟨_, _, rfl⟩, ?_⟩
  show RA prog E pV1 (d + 2) mX3_at 0 [some (.ref a), some (.int (nI x))] [] h (some (.int (atV V l x)), h, 0, 0)
  unfold atV
  by_cases hc : x < l
  · rw [if_pos hc]
    have hc : x < l ∧ l ≤ 24 := ⟨hc, hl⟩
    refine RA.steps (i' := 2) (L' := [some (.ref a), some (.int (nI x))]) (st' := [.int (nI x), .ref a]) (h' := h) 2 rfl ?_
    refine RA.call0 (N := mX3_has) (as := [.ref a, .int (nI x)]) (rest := []) rfl rfl (pcallV rfl rfl ho rfl rfl (Nat.le_of_ble_eq_true rfl)) (has_c1 (d := d) ho r2 hx hc) ?_
    refine RA.if1F rfl rfl ?_
    refine RA.steps (i' := 6) (L' := [some (.ref a), some (.int (nI x))]) (st' := [.ref a, .int (nI x)]) (h' := h) 2 rfl ?_
    refine RA.getf rfl ho rfl r0 ?_
    refine RA.alenI rfl hp ?_
    refine RA.if2F rfl (decide_eq_false (Int32.not_le.mpr (nI_lt hx (by decide)))) ?_
    refine RA.steps (i' := 10) (L' := [some (.ref a), some (.int (nI x))]) (st' := [.ref a]) (h' := h) 1 rfl ?_
    refine RA.getf rfl ho rfl r0 ?_
    refine RA.steps (i' := 12) (L' := [some (.ref a), some (.int (nI x))]) (st' := [.int (nI x), .ref b]) (h' := h) 1 rfl ?_
    refine RA.iald rfl hp ⟨(nI_cl (by omega)).1, by rw [(nI_cl (by omega)).2]; exact hx⟩ (by rw [(nI_cl (by omega)).2]) ?_
    refine RA.steps (i' := 15) (L' := [some (.ref a), some (.int (nI x))]) (st' := [.int (V x)]) (h' := h) 1 rfl ?_
    exact RA.ret rfl rfl
  · rw [if_neg hc]
    have hc : l ≤ x := by omega
    refine RA.steps (i' := 2) (L' := [some (.ref a), some (.int (nI x))]) (st' := [.int (nI x), .ref a]) (h' := h) 2 rfl ?_
    refine RA.call0 (N := mX3_has) (as := [.ref a, .int (nI x)]) (rest := []) rfl rfl (pcallV rfl rfl ho rfl rfl (Nat.le_of_ble_eq_true rfl)) (has_c0 (d := d) ho r2 hx hc) ?_
    refine RA.if1T rfl rfl ?_
    refine RA.steps (i' := 15) (L' := [some (.ref a), some (.int (nI x))]) (st' := [.int (-1000000005)]) (h' := h) 1 rfl ?_
    exact RA.ret rfl rfl
def WMc : aW := [(83, 83, 0, 23), (85, 85, 0, 23), (87, 87, 0, 23), (89, 89, 0, 23)]
def WMr : aW := [(116, 116, 0, 95)]
/-- what both calls of a method leave: of the sheets' numbers that they stay alike -/
def TwoV (E : pX) (M1 M2 : pM) (as1 as2 : List Value) (h : List pC) (W1 W2 : aW) : Prop := ∃ (r : Int32) (h1 h2 : List pC), Run prog E pV1 120 M1 as1 h (some (.int r), h1, 0, 0) ∧ Run prog E pV1 120 M2 as2 h1 (some (.int r), h2, 0, 0) ∧ HI HT h1 ∧ HI HT h2 ∧ JT h2 ∧ Fr W1 h h1 ∧ Fr W2 h1 h2 ∧ RV h2 ∧ (VB h → VB h2)
theorem i16_b (x : Int32) : -1000000005 ≤ (x.toInt16.toInt32).toInt ∧ (x.toInt16.toInt32).toInt ≤ 99999 := by
  have e : (x.toInt16.toInt32).toInt = x.toInt16.toInt := Int16.toInt_toInt32 _
  have a := Int16.le_toInt x.toInt16
  have b := Int16.toInt_lt x.toInt16
  rw [e]
  omega
theorem w_b {w : Int32} (hw : (-99999 : Int32) ≤ w ∧ w ≤ 99999) : -1000000005 ≤ w.toInt ∧ w.toInt ≤ 99999 := by
  have a := Int32.le_iff_toInt_le.mp hw.1
  have b := Int32.le_iff_toInt_le.mp hw.2
  rw [show (-99999 : Int32).toInt = -99999 by decide +kernel] at a
  rw [show (99999 : Int32).toInt = 99999 by decide +kernel] at b
  omega
theorem mark_same {x1 x2 x3 v : Int32} (hh : HI HT h) (hj : JT h) (hv : RV h) (q1 : Run prog E pV1 120 mX7_mark [.ref 0, .int x1, .int x2, .int x3] h (some (.int v), h, 0, 0)) (q2 : Run prog E pV1 120 mX8_mark [.ref 110, .int x1, .int x2, .int x3] h (some (.int v), h, 0, 0)) : TwoV E mX7_mark mX8_mark [.ref 0, .int x1, .int x2, .int x3] [.ref 110, .int x1, .int x2, .int x3] h WMc WMr := ⟨v, h, h, q1, q2, hh, hh, hj, Fr.rf _ _, Fr.rf _ _, hv, fun q => q⟩
theorem eAdr {u p : Nat} (hu : u < 4) : (24 * nI u + nI p : Int32) = nI (24 * u + p) := by
  rw [show (24 : Int32) = nI 24 by decide +kernel, nI_mul, nI_add]
/-- a number is put: what it is on both sides -/
theorem mark_put {x3 w : Int32} {u p : Nat} {f : Nat → Int32} (hh : HI HT h) (hj : JT h) (hv : RV h) (hu : u < 4) (hp24 : p < 24) (hp : pint h (83 + 2 * u) = some (24, f)) (hwb : -1000000005 ≤ w.toInt ∧ w.toInt ≤ 99999) (q1 : Run prog E pV1 120 mX7_mark [.ref 0, .int (nI u), .int (nI p), .int x3] h (some (.int 1), h.set (83 + 2 * u) (.inl (24, va_up f p w)), 0, 0))
    (q2 : ∀ (h1 : List pC) (g : Nat → Int32), HI HT h1 → ri h1 114 u = ri h 114 u → ri h1 115 u = ri h 115 u → pint h1 116 = some (96, g) → Run prog E pV1 120 mX8_mark [.ref 110, .int (nI u), .int (nI p), .int x3] h1 (some (.int 1), h1.set 116 (.inl (96, va_up g (24 * u + p) w)), 0, 0)) : TwoV E mX7_mark mX8_mark [.ref 0, .int (nI u), .int (nI p), .int x3] [.ref 110, .int (nI u), .int (nI p), .int x3] h WMc WMr := by
  obtain ⟨r1, h1, k1, hh1, f1, hj1⟩ := pub_of (E := E) (a := 0) (kg_c_markF) (N := mX7_mark) rfl (List.cons_ne_nil _ _) [nI u, nI p, x3] rfl (fun q => by cases q) (Nat.le_of_ble_eq_true rfl) hh hj
  have e1 := Run.det q1 k1
  obtain rfl : h.set (83 + 2 * u) (.inl (24, va_up f p w)) = h1 := (Prod.mk.inj (Prod.mk.inj e1).2).1
  have f1' : Fr WMc h (h.set (83 + 2 * u) (.inl (24, va_up f p w))) := f1
  obtain ⟨g, pg, ug, -⟩ := hi_int (a := 116) (n := 96) (sg := []) hh1 rfl
  have k2 := q2 _ g hh1 (ri_fr f1' (nin_iff.mpr (by simp only [WMc, List.forall_mem_cons]; exact ⟨by omega, by omega, by omega, by omega, fun _ h => absurd h List.not_mem_nil⟩))) (ri_fr f1' (nin_iff.mpr (by simp only [WMc, List.forall_mem_cons]; exact ⟨by omega, by omega, by omega, by omega, fun _ h => absurd h List.not_mem_nil⟩))) pg
  obtain ⟨r2, h2, k3, hh2, f2, hj2⟩ := pub_of (E := E) (a := 110) (kg_r_markF) (N := mX8_mark) rfl (List.cons_ne_nil _ _) [nI u, nI p, x3] rfl (fun q => by cases q) (Nat.le_of_ble_eq_true rfl) hh1 hj1
  have e2 := Run.det k2 k3
  obtain rfl : (h.set (83 + 2 * u) (.inl (24, va_up f p w))).set 116 (.inl (96, va_up g (24 * u + p) w)) = h2 := (Prod.mk.inj (Prod.mk.inj e2).2).1
  have hvb : VB h → VB ((h.set (83 + 2 * u) (.inl (24, va_up f p w))).set 116 (.inl (96, va_up g (24 * u + p) w))) := fun vb v j hv4 hj24 => by
    have l1 : ri ((h.set (83 + 2 * u) (.inl (24, va_up f p w))).set 116 (.inl (96, va_up g (24 * u + p) w))) (83 + 2 * v) j = ri (h.set (83 + 2 * u) (.inl (24, va_up f p w))) (83 + 2 * v) j := ri_setN (by omega)
    rw [l1]
    by_cases e : v = u
    · rw [e, ri_setI hp hj24]
      by_cases ej : j = p
      · rw [ej, va_up_self]
        exact hwb
      · rw [va_up_ne f w ej]
        obtain ⟨fv, pv, uv⟩ := vals_at hh u hu
        have ef : fv = f := (Prod.mk.inj (Option.some.inj (pv.symm.trans hp))).2
        rw [← ef, ← uv j hj24]
        exact vb u j hu hj24
    · rw [ri_setN (show ¬ 83 + 2 * u = 83 + 2 * v by omega)]
      exact vb v j hv4 hj24
  refine ⟨1, _, _, q1, k2, hh1, hh2, hj2, f1', f2, fun v j hv4 hj24 => ?_, hvb⟩
  obtain ⟨fv, pv, uv⟩ := vals_at hh v hv4
  have l2 : ri ((h.set (83 + 2 * u) (.inl (24, va_up f p w))).set 116 (.inl (96, va_up g (24 * u + p) w))) 116 (24 * v + j) = va_up g (24 * u + p) w (24 * v + j) := ri_setI pg (by omega)
  have l1 : ri ((h.set (83 + 2 * u) (.inl (24, va_up f p w))).set 116 (.inl (96, va_up g (24 * u + p) w))) (83 + 2 * v) j = ri (h.set (83 + 2 * u) (.inl (24, va_up f p w))) (83 + 2 * v) j := ri_setN (by omega)
  have g0 : g (24 * v + j) = ri h 116 (24 * v + j) := by
    rw [← ug (24 * v + j) (by omega)]
    exact ri_setN (by omega)
  rw [l1, l2]
  by_cases e : v = u
  · subst e
    rw [ri_setI hp hj24]
    by_cases ej : j = p
    · subst ej
      rw [va_up_self, va_up_self]
    · rw [va_up_ne f w ej, va_up_ne g w (show 24 * v + j ≠ 24 * v + p by omega), g0, ← hv v j hu hj24]
      obtain rfl : fv = f := by
        have := pv.symm.trans hp
        exact (Prod.mk.inj (Option.some.inj this)).2
      exact (uv j hj24).symm
  · rw [ri_setN (show ¬ 83 + 2 * u = 83 + 2 * v by omega), va_up_ne g w (show 24 * v + j ≠ 24 * u + p by omega), g0]
    exact hv v j hv4 hj24

theorem mark_both (x1 x2 x3 : Int32) (hh : HI HT h) (hj : JT h) (hs : RSS h) (hv : RV h) : TwoV E mX7_mark mX8_mark [.ref 0, .int x1, .int x2, .int x3] [.ref 110, .int x1, .int x2, .int x3] h WMc WMr := by
  have t0 : (0 : Int32).toInt = 0 := by decide
  have t3 : (3 : Int32).toInt = 3 := by decide
  obtain ⟨fs0, ho0, hF0⟩ := hi_obj hh (a := 0) rfl
  obtain ⟨fs8, ho8, hF8⟩ := hi_obj hh (a := 110) rfl
  obtain ⟨gS_, pS, uS, -⟩ := hi_int (a := 114) (n := 4) (sg := [(0, 3, -1, 1)]) hh rfl
  obtain ⟨gZ_, pZ, uZ, -⟩ := hi_int (a := 115) (n := 4) (sg := [(0, 3, 0, 24)]) hh rfl
  by_cases hn : x1.toInt < 0 ∨ 4 ≤ x1.toInt
  · have hs3 : ¬ ((0 : Int32) ≤ x1 ∧ x1 ≤ 3) := fun q => by
      have q1 := Int32.le_iff_toInt_le.mp q.1
      have q2 := Int32.le_iff_toInt_le.mp q.2
      omega
    refine mark_same hh hj hv (v := -1000000001) ⟨Nat.le_of_ble_eq_true rfl, ⟨_, _, rfl⟩, ?_⟩ ⟨Nat.le_of_ble_eq_true rfl, ⟨_, _, rfl⟩, ?_⟩
    · show RA prog E pV1 120 mX7_mark 0 [some (.ref 0), some (.int x1), some (.int x2), some (.int x3), none] [] h (some (.int (-1000000001)), h, 0, 0)
      refine RA.steps (i' := 2) (L' := [some (.ref 0), some (.int x1), some (.int x2), some (.int x3), none]) (st' := [.int x1, .ref 0]) (h' := h) 2 rfl ?_
      refine RA.call0 (N := mX7_rowOf) (as := [.ref 0, .int x1]) (rest := []) rfl rfl (pcallV rfl rfl ho0 rfl rfl (Nat.le_of_ble_eq_true rfl)) (rowOf_n (d := 118) hh hn) ?_
      refine RA.steps (i' := 7) (L' := [some (.ref 0), some (.int x1), some (.int x2), some (.int x3), some (.null)]) (st' := [.int (-1000000001)]) (h' := h) 4 rfl ?_
      exact RA.ret rfl rfl
    · show RA prog E pV1 120 mX8_mark 0 [some (.ref 110), some (.int x1), some (.int x2), some (.int x3)] [] h (some (.int (-1000000001)), h, 0, 0)
      refine RA.steps (i' := 1) (L' := [some (.ref 110), some (.int x1), some (.int x2), some (.int x3)]) (st' := [.int x1]) (h' := h) 1 rfl ?_
      refine RA.call0 (N := mX8_isSheet) (as := [.int x1]) (rest := []) rfl rfl rfl (isSh_f (d := 117) hs3) ?_
      refine RA.if1F rfl rfl ?_
      refine RA.steps (i' := 4) (L' := [some (.ref 110), some (.int x1), some (.int x2), some (.int x3)]) (st' := [.int (-1000000001)]) (h' := h) 1 rfl ?_
      exact RA.ret rfl rfl
  obtain ⟨u, rfl, hu0⟩ := nIof (x := x1) (by omega) (by omega)
  have hu : u < 4 := by omega
  have hs3 : (0 : Int32) ≤ nI u ∧ nI u ≤ 3 := ⟨(nI_cl (by omega)).1, Int32.le_iff_toInt_le.mpr (by omega)⟩
  obtain ⟨es, ez⟩ := hs u hu
  obtain ⟨⟨s0, s1⟩, z0, z24⟩ := rows_ty hh u hu
  obtain ⟨fsr, hor, h0, h1, h2⟩ := row_obj hh u hu
  have bS : 0 ≤ nI u ∧ (nI u).toNatClampNeg < 4 := ⟨(nI_cl (by omega)).1, by rw [(nI_cl (by omega)).2]; exact hu⟩
  have eS : gS_ (nI u).toNatClampNeg = ri h 114 u := by rw [(nI_cl (by omega)).2]; exact (uS u hu).symm
  have eZ : gZ_ (nI u).toNatClampNeg = ri h 115 u := by rw [(nI_cl (by omega)).2]; exact (uZ u hu).symm
  by_cases hm : ri h (82 + 2 * u) 1 = -1
  · have gS : ¬ (0 : Int32) ≤ ri h 114 u := by rw [← es, hm]; decide
    refine mark_same hh hj hv (v := -1000000011) ⟨Nat.le_of_ble_eq_true rfl, ⟨_, _, rfl⟩, ?_⟩ ⟨Nat.le_of_ble_eq_true rfl, ⟨_, _, rfl⟩, ?_⟩
    · show RA prog E pV1 120 mX7_mark 0 [some (.ref 0), some (.int (nI u)), some (.int x2), some (.int x3), none] [] h (some (.int (-1000000011)), h, 0, 0)
      refine RA.steps (i' := 2) (L' := [some (.ref 0), some (.int (nI u)), some (.int x2), some (.int x3), none]) (st' := [.int (nI u), .ref 0]) (h' := h) 2 rfl ?_
      refine RA.call0 (N := mX7_rowOf) (as := [.ref 0, .int (nI u)]) (rest := []) rfl rfl (pcallV rfl rfl ho0 rfl rfl (Nat.le_of_ble_eq_true rfl)) (rowOf_x (d := 118) hh hu) ?_
      refine RA.steps (i' := 9) (L' := [some (.ref 0), some (.int (nI u)), some (.int x2), some (.int x3), some (.ref (82 + 2 * u))]) (st' := [.ref (82 + 2 * u)]) (h' := h) 4 rfl ?_
      refine RA.call0 (N := mX3_isMissing) (as := [.ref (82 + 2 * u)]) (rest := []) rfl rfl (pcallV rfl rfl hor rfl rfl (Nat.le_of_ble_eq_true rfl)) (isMis_t (d := 118) hh hu hm) ?_
      refine RA.if1F rfl rfl ?_
      refine RA.steps (i' := 12) (L' := [some (.ref 0), some (.int (nI u)), some (.int x2), some (.int x3), some (.ref (82 + 2 * u))]) (st' := [.int (-1000000011)]) (h' := h) 1 rfl ?_
      exact RA.ret rfl rfl
    · show RA prog E pV1 120 mX8_mark 0 [some (.ref 110), some (.int (nI u)), some (.int x2), some (.int x3)] [] h (some (.int (-1000000011)), h, 0, 0)
      refine RA.steps (i' := 1) (L' := [some (.ref 110), some (.int (nI u)), some (.int x2), some (.int x3)]) (st' := [.int (nI u)]) (h' := h) 1 rfl ?_
      refine RA.call0 (N := mX8_isSheet) (as := [.int (nI u)]) (rest := []) rfl rfl rfl (isSh_t (d := 117) hs3) ?_
      refine RA.if1T rfl rfl ?_
      refine RA.steps (i' := 6) (L' := [some (.ref 110), some (.int (nI u)), some (.int x2), some (.int x3)]) (st' := [.ref 110]) (h' := h) 1 rfl ?_
      refine RA.getf rfl ho8 rfl (hF8.ref (k := 4) rfl) ?_
      refine RA.steps (i' := 8) (L' := [some (.ref 110), some (.int (nI u)), some (.int x2), some (.int x3)]) (st' := [.int (nI u), .ref 114]) (h' := h) 1 rfl ?_
      refine RA.iald rfl pS bS eS ?_
      refine RA.if1F rfl (decide_eq_false gS) ?_
      refine RA.steps (i' := 11) (L' := [some (.ref 110), some (.int (nI u)), some (.int x2), some (.int x3)]) (st' := [.int (-1000000011)]) (h' := h) 1 rfl ?_
      exact RA.ret rfl rfl
  have gS : (0 : Int32) ≤ ri h 114 u := Int32.le_iff_toInt_le.mpr (by
    have : ¬ (ri h 114 u).toInt = -1 := fun q => hm (by rw [es]; exact Int32.toInt_inj.mp (q.trans (by decide)))
    omega)
  have z1 : (ri h 115 u - 1).toInt = (ri h 115 u).toInt - 1 := by
    rw [Int32.toInt_sub, show (1 : Int32).toInt = 1 by decide]
    exact bm32 (by unfold mI; omega) (by unfold MI; omega)
  by_cases hb : 0 ≤ x2 ∧ x2 < ri h (82 + 2 * u) 2
  rotate_left
  · have hi : ¬ ((0 : Int32) ≤ x2 ∧ x2 ≤ ri h 115 u - 1) := fun q => hb ⟨q.1, by
      have q2 := Int32.le_iff_toInt_le.mp q.2
      rw [ez]
      exact Int32.lt_iff_toInt_lt.mpr (by omega)⟩
    refine mark_same hh hj hv (v := -1000000013) ⟨Nat.le_of_ble_eq_true rfl, ⟨_, _, rfl⟩, ?_⟩ ⟨Nat.le_of_ble_eq_true rfl, ⟨_, _, rfl⟩, ?_⟩
    · show RA prog E pV1 120 mX7_mark 0 [some (.ref 0), some (.int (nI u)), some (.int x2), some (.int x3), none] [] h (some (.int (-1000000013)), h, 0, 0)
      refine RA.steps (i' := 2) (L' := [some (.ref 0), some (.int (nI u)), some (.int x2), some (.int x3), none]) (st' := [.int (nI u), .ref 0]) (h' := h) 2 rfl ?_
      refine RA.call0 (N := mX7_rowOf) (as := [.ref 0, .int (nI u)]) (rest := []) rfl rfl (pcallV rfl rfl ho0 rfl rfl (Nat.le_of_ble_eq_true rfl)) (rowOf_x (d := 118) hh hu) ?_
      refine RA.steps (i' := 9) (L' := [some (.ref 0), some (.int (nI u)), some (.int x2), some (.int x3), some (.ref (82 + 2 * u))]) (st' := [.ref (82 + 2 * u)]) (h' := h) 4 rfl ?_
      refine RA.call0 (N := mX3_isMissing) (as := [.ref (82 + 2 * u)]) (rest := []) rfl rfl (pcallV rfl rfl hor rfl rfl (Nat.le_of_ble_eq_true rfl)) (isMis_f (d := 118) hh hu hm) ?_
      refine RA.if1T rfl rfl ?_
      refine RA.steps (i' := 15) (L' := [some (.ref 0), some (.int (nI u)), some (.int x2), some (.int x3), some (.ref (82 + 2 * u))]) (st' := [.int x2, .ref (82 + 2 * u)]) (h' := h) 2 rfl ?_
      refine RA.call0 (N := mX3_has) (as := [.ref (82 + 2 * u), .int x2]) (rest := []) rfl rfl (pcallV rfl rfl hor rfl rfl (Nat.le_of_ble_eq_true rfl)) (has_f (d := 118) hh hu hb) ?_
      refine RA.if1F rfl rfl ?_
      refine RA.steps (i' := 18) (L' := [some (.ref 0), some (.int (nI u)), some (.int x2), some (.int x3), some (.ref (82 + 2 * u))]) (st' := [.int (-1000000013)]) (h' := h) 1 rfl ?_
      exact RA.ret rfl rfl
    · show RA prog E pV1 120 mX8_mark 0 [some (.ref 110), some (.int (nI u)), some (.int x2), some (.int x3)] [] h (some (.int (-1000000013)), h, 0, 0)
      refine RA.steps (i' := 1) (L' := [some (.ref 110), some (.int (nI u)), some (.int x2), some (.int x3)]) (st' := [.int (nI u)]) (h' := h) 1 rfl ?_
      refine RA.call0 (N := mX8_isSheet) (as := [.int (nI u)]) (rest := []) rfl rfl rfl (isSh_t (d := 117) hs3) ?_
      refine RA.if1T rfl rfl ?_
      refine RA.steps (i' := 6) (L' := [some (.ref 110), some (.int (nI u)), some (.int x2), some (.int x3)]) (st' := [.ref 110]) (h' := h) 1 rfl ?_
      refine RA.getf rfl ho8 rfl (hF8.ref (k := 4) rfl) ?_
      refine RA.steps (i' := 8) (L' := [some (.ref 110), some (.int (nI u)), some (.int x2), some (.int x3)]) (st' := [.int (nI u), .ref 114]) (h' := h) 1 rfl ?_
      refine RA.iald rfl pS bS eS ?_
      refine RA.if1T rfl (decide_eq_true gS) ?_
      refine RA.steps (i' := 16) (L' := [some (.ref 110), some (.int (nI u)), some (.int x2), some (.int x3)]) (st' := [.ref 110, .long (Int32.toInt64 0), .long x2.toInt64]) (h' := h) 4 rfl ?_
      refine RA.getf rfl ho8 rfl (hF8.ref (k := 5) rfl) ?_
      refine RA.steps (i' := 18) (L' := [some (.ref 110), some (.int (nI u)), some (.int x2), some (.int x3)]) (st' := [.int (nI u), .ref 115, .long (Int32.toInt64 0), .long x2.toInt64]) (h' := h) 1 rfl ?_
      refine RA.iald rfl pZ bS eZ ?_
      refine RA.steps (i' := 22) (L' := [some (.ref 110), some (.int (nI u)), some (.int x2), some (.int x3)]) (st' := [.long ((ri h 115 u) - 1).toInt64, .long (Int32.toInt64 0), .long x2.toInt64]) (h' := h) 3 rfl ?_
      refine RA.call0 (N := mX8_isIn) (as := [.long x2.toInt64, .long (Int32.toInt64 0), .long ((ri h 115 u) - 1).toInt64]) (rest := []) rfl rfl rfl (isIn_f hi) ?_
      refine RA.if1F rfl rfl ?_
      refine RA.steps (i' := 25) (L' := [some (.ref 110), some (.int (nI u)), some (.int x2), some (.int x3)]) (st' := [.int (-1000000013)]) (h' := h) 1 rfl ?_
      exact RA.ret rfl rfl
  have b1 := Int32.le_iff_toInt_le.mp hb.1
  have b2 := Int32.lt_iff_toInt_lt.mp hb.2
  rw [ez] at b2
  obtain ⟨p, rfl, hp0⟩ := nIof (x := x2) (by omega) (by omega)
  have hp24 : p < 24 := by omega
  obtain ⟨f, hp, -⟩ := vals_at hh u hu
  have hi : (0 : Int32) ≤ nI p ∧ nI p ≤ ri h 115 u - 1 := ⟨hb.1, Int32.le_iff_toInt_le.mpr (by omega)⟩
  by_cases hz : ri h 114 u = 0
  · have hz2 : ri h (82 + 2 * u) 1 = 0 := es.trans hz
    by_cases hn3 : x3 = -1000000005
    · skip
      refine mark_same hh hj hv (v := -1000000012) ⟨Nat.le_of_ble_eq_true rfl, ⟨_, _, rfl⟩, ?_⟩ ⟨Nat.le_of_ble_eq_true rfl, ⟨_, _, rfl⟩, ?_⟩
      · show RA prog E pV1 120 mX7_mark 0 [some (.ref 0), some (.int (nI u)), some (.int (nI p)), some (.int x3), none] [] h (some (.int (-1000000012)), h, 0, 0)
        refine RA.steps (i' := 2) (L' := [some (.ref 0), some (.int (nI u)), some (.int (nI p)), some (.int x3), none]) (st' := [.int (nI u), .ref 0]) (h' := h) 2 rfl ?_
        refine RA.call0 (N := mX7_rowOf) (as := [.ref 0, .int (nI u)]) (rest := []) rfl rfl (pcallV rfl rfl ho0 rfl rfl (Nat.le_of_ble_eq_true rfl)) (rowOf_x (d := 118) hh hu) ?_
        refine RA.steps (i' := 9) (L' := [some (.ref 0), some (.int (nI u)), some (.int (nI p)), some (.int x3), some (.ref (82 + 2 * u))]) (st' := [.ref (82 + 2 * u)]) (h' := h) 4 rfl ?_
        refine RA.call0 (N := mX3_isMissing) (as := [.ref (82 + 2 * u)]) (rest := []) rfl rfl (pcallV rfl rfl hor rfl rfl (Nat.le_of_ble_eq_true rfl)) (isMis_f (d := 118) hh hu hm) ?_
        refine RA.if1T rfl rfl ?_
        refine RA.steps (i' := 15) (L' := [some (.ref 0), some (.int (nI u)), some (.int (nI p)), some (.int x3), some (.ref (82 + 2 * u))]) (st' := [.int (nI p), .ref (82 + 2 * u)]) (h' := h) 2 rfl ?_
        refine RA.call0 (N := mX3_has) (as := [.ref (82 + 2 * u), .int (nI p)]) (rest := []) rfl rfl (pcallV rfl rfl hor rfl rfl (Nat.le_of_ble_eq_true rfl)) (has_t (d := 118) hh hu hb.1 hb.2) ?_
        refine RA.if1T rfl rfl ?_
        refine RA.steps (i' := 20) (L' := [some (.ref 0), some (.int (nI u)), some (.int (nI p)), some (.int x3), some (.ref (82 + 2 * u))]) (st' := [.ref (82 + 2 * u)]) (h' := h) 1 rfl ?_
        refine RA.getf rfl hor rfl h1 ?_
        refine RA.if1F rfl (decide_eq_false (fun q => q hz2)) ?_
        refine RA.steps (i' := 24) (L' := [some (.ref 0), some (.int (nI u)), some (.int (nI p)), some (.int x3), some (.ref (82 + 2 * u))]) (st' := [.int (-1000000005), .int x3]) (h' := h) 2 rfl ?_
        refine RA.if2F rfl (decide_eq_false (fun q => q hn3)) ?_
        refine RA.steps (i' := 26) (L' := [some (.ref 0), some (.int (nI u)), some (.int (nI p)), some (.int x3), some (.ref (82 + 2 * u))]) (st' := [.int (-1000000012)]) (h' := h) 1 rfl ?_
        exact RA.ret rfl rfl
      · show RA prog E pV1 120 mX8_mark 0 [some (.ref 110), some (.int (nI u)), some (.int (nI p)), some (.int x3)] [] h (some (.int (-1000000012)), h, 0, 0)
        refine RA.steps (i' := 1) (L' := [some (.ref 110), some (.int (nI u)), some (.int (nI p)), some (.int x3)]) (st' := [.int (nI u)]) (h' := h) 1 rfl ?_
        refine RA.call0 (N := mX8_isSheet) (as := [.int (nI u)]) (rest := []) rfl rfl rfl (isSh_t (d := 117) hs3) ?_
        refine RA.if1T rfl rfl ?_
        refine RA.steps (i' := 6) (L' := [some (.ref 110), some (.int (nI u)), some (.int (nI p)), some (.int x3)]) (st' := [.ref 110]) (h' := h) 1 rfl ?_
        refine RA.getf rfl ho8 rfl (hF8.ref (k := 4) rfl) ?_
        refine RA.steps (i' := 8) (L' := [some (.ref 110), some (.int (nI u)), some (.int (nI p)), some (.int x3)]) (st' := [.int (nI u), .ref 114]) (h' := h) 1 rfl ?_
        refine RA.iald rfl pS bS eS ?_
        refine RA.if1T rfl (decide_eq_true gS) ?_
        refine RA.steps (i' := 16) (L' := [some (.ref 110), some (.int (nI u)), some (.int (nI p)), some (.int x3)]) (st' := [.ref 110, .long (Int32.toInt64 0), .long (nI p).toInt64]) (h' := h) 4 rfl ?_
        refine RA.getf rfl ho8 rfl (hF8.ref (k := 5) rfl) ?_
        refine RA.steps (i' := 18) (L' := [some (.ref 110), some (.int (nI u)), some (.int (nI p)), some (.int x3)]) (st' := [.int (nI u), .ref 115, .long (Int32.toInt64 0), .long (nI p).toInt64]) (h' := h) 1 rfl ?_
        refine RA.iald rfl pZ bS eZ ?_
        refine RA.steps (i' := 22) (L' := [some (.ref 110), some (.int (nI u)), some (.int (nI p)), some (.int x3)]) (st' := [.long ((ri h 115 u) - 1).toInt64, .long (Int32.toInt64 0), .long (nI p).toInt64]) (h' := h) 3 rfl ?_
        refine RA.call0 (N := mX8_isIn) (as := [.long (nI p).toInt64, .long (Int32.toInt64 0), .long ((ri h 115 u) - 1).toInt64]) (rest := []) rfl rfl rfl (isIn_t hi) ?_
        refine RA.if1T rfl rfl ?_
        refine RA.steps (i' := 27) (L' := [some (.ref 110), some (.int (nI u)), some (.int (nI p)), some (.int x3)]) (st' := [.ref 110]) (h' := h) 1 rfl ?_
        refine RA.getf rfl ho8 rfl (hF8.ref (k := 4) rfl) ?_
        refine RA.steps (i' := 29) (L' := [some (.ref 110), some (.int (nI u)), some (.int (nI p)), some (.int x3)]) (st' := [.int (nI u), .ref 114]) (h' := h) 1 rfl ?_
        refine RA.iald rfl pS bS eS ?_
        refine RA.if1F rfl (decide_eq_false (fun q => q hz)) ?_
        refine RA.steps (i' := 33) (L' := [some (.ref 110), some (.int (nI u)), some (.int (nI p)), some (.int x3)]) (st' := [.int (-1000000005), .int x3]) (h' := h) 2 rfl ?_
        refine RA.if2F rfl (decide_eq_false (fun q => q hn3)) ?_
        refine RA.steps (i' := 35) (L' := [some (.ref 110), some (.int (nI u)), some (.int (nI p)), some (.int x3)]) (st' := [.int (-1000000012)]) (h' := h) 1 rfl ?_
        exact RA.ret rfl rfl
    · skip
      refine mark_put hh hj hv hu hp24 hp (w := x3.toInt16.toInt32) (hwb := i16_b x3) ⟨Nat.le_of_ble_eq_true rfl, ⟨_, _, rfl⟩, ?_⟩ (fun h1 g hh1 e14 e15 pg => ⟨Nat.le_of_ble_eq_true rfl, ⟨_, _, rfl⟩, ?_⟩)
      · show RA prog E pV1 120 mX7_mark 0 [some (.ref 0), some (.int (nI u)), some (.int (nI p)), some (.int x3), none] [] h (some (.int 1), (h.set (83 + 2 * u) (.inl (24, va_up f p x3.toInt16.toInt32))), 0, 0)
        refine RA.steps (i' := 2) (L' := [some (.ref 0), some (.int (nI u)), some (.int (nI p)), some (.int x3), none]) (st' := [.int (nI u), .ref 0]) (h' := h) 2 rfl ?_
        refine RA.call0 (N := mX7_rowOf) (as := [.ref 0, .int (nI u)]) (rest := []) rfl rfl (pcallV rfl rfl ho0 rfl rfl (Nat.le_of_ble_eq_true rfl)) (rowOf_x (d := 118) hh hu) ?_
        refine RA.steps (i' := 9) (L' := [some (.ref 0), some (.int (nI u)), some (.int (nI p)), some (.int x3), some (.ref (82 + 2 * u))]) (st' := [.ref (82 + 2 * u)]) (h' := h) 4 rfl ?_
        refine RA.call0 (N := mX3_isMissing) (as := [.ref (82 + 2 * u)]) (rest := []) rfl rfl (pcallV rfl rfl hor rfl rfl (Nat.le_of_ble_eq_true rfl)) (isMis_f (d := 118) hh hu hm) ?_
        refine RA.if1T rfl rfl ?_
        refine RA.steps (i' := 15) (L' := [some (.ref 0), some (.int (nI u)), some (.int (nI p)), some (.int x3), some (.ref (82 + 2 * u))]) (st' := [.int (nI p), .ref (82 + 2 * u)]) (h' := h) 2 rfl ?_
        refine RA.call0 (N := mX3_has) (as := [.ref (82 + 2 * u), .int (nI p)]) (rest := []) rfl rfl (pcallV rfl rfl hor rfl rfl (Nat.le_of_ble_eq_true rfl)) (has_t (d := 118) hh hu hb.1 hb.2) ?_
        refine RA.if1T rfl rfl ?_
        refine RA.steps (i' := 20) (L' := [some (.ref 0), some (.int (nI u)), some (.int (nI p)), some (.int x3), some (.ref (82 + 2 * u))]) (st' := [.ref (82 + 2 * u)]) (h' := h) 1 rfl ?_
        refine RA.getf rfl hor rfl h1 ?_
        refine RA.if1F rfl (decide_eq_false (fun q => q hz2)) ?_
        refine RA.steps (i' := 24) (L' := [some (.ref 0), some (.int (nI u)), some (.int (nI p)), some (.int x3), some (.ref (82 + 2 * u))]) (st' := [.int (-1000000005), .int x3]) (h' := h) 2 rfl ?_
        refine RA.if2T rfl (decide_eq_true hn3) ?_
        refine RA.steps (i' := 31) (L' := [some (.ref 0), some (.int (nI u)), some (.int (nI p)), some (.int x3), some (.ref (82 + 2 * u))]) (st' := [.int (x3.toInt16.toInt32), .int (nI p), .ref (82 + 2 * u)]) (h' := h) 4 rfl ?_
        refine RA.call0 (N := mX3_put) (as := [.ref (82 + 2 * u), .int (nI p), .int (x3.toInt16.toInt32)]) (rest := []) rfl rfl (pcallV rfl rfl hor rfl rfl (Nat.le_of_ble_eq_true rfl)) (put_x (d := 117) hh hu hp24 hp hb.1 hb.2) ?_
        refine RA.steps (i' := 33) (L' := [some (.ref 0), some (.int (nI u)), some (.int (nI p)), some (.int x3), some (.ref (82 + 2 * u))]) (st' := [.int 1]) (h' := (h.set (83 + 2 * u) (.inl (24, va_up f p x3.toInt16.toInt32)))) 1 rfl ?_
        exact RA.ret rfl rfl
      · obtain ⟨fs8, ho8, hF8⟩ := hi_obj hh1 (a := 110) rfl
        obtain ⟨gS_, pS, uS, -⟩ := hi_int (a := 114) (n := 4) (sg := [(0, 3, -1, 1)]) hh1 rfl
        obtain ⟨gZ_, pZ, uZ, -⟩ := hi_int (a := 115) (n := 4) (sg := [(0, 3, 0, 24)]) hh1 rfl
        have eS : gS_ (nI u).toNatClampNeg = ri h 114 u := by rw [(nI_cl (by omega)).2, ← uS u hu, e14]
        have eZ : gZ_ (nI u).toNatClampNeg = ri h 115 u := by rw [(nI_cl (by omega)).2, ← uZ u hu, e15]
        show RA prog E pV1 120 mX8_mark 0 [some (.ref 110), some (.int (nI u)), some (.int (nI p)), some (.int x3)] [] h1 (some (.int 1), h1.set 116 (.inl (96, va_up g (24 * u + p) x3.toInt16.toInt32)), 0, 0)
        rw [show va_up g (24 * u + p) x3.toInt16.toInt32 = va_up g (nI (24 * u + p)).toNatClampNeg x3.toInt16.toInt32 by rw [(nI_cl (by omega)).2]]
        refine RA.steps (i' := 1) (L' := [some (.ref 110), some (.int (nI u)), some (.int (nI p)), some (.int x3)]) (st' := [.int (nI u)]) (h' := h1) 1 rfl ?_
        refine RA.call0 (N := mX8_isSheet) (as := [.int (nI u)]) (rest := []) rfl rfl rfl (isSh_t (d := 117) hs3) ?_
        refine RA.if1T rfl rfl ?_
        refine RA.steps (i' := 6) (L' := [some (.ref 110), some (.int (nI u)), some (.int (nI p)), some (.int x3)]) (st' := [.ref 110]) (h' := h1) 1 rfl ?_
        refine RA.getf rfl ho8 rfl (hF8.ref (k := 4) rfl) ?_
        refine RA.steps (i' := 8) (L' := [some (.ref 110), some (.int (nI u)), some (.int (nI p)), some (.int x3)]) (st' := [.int (nI u), .ref 114]) (h' := h1) 1 rfl ?_
        refine RA.iald rfl pS bS eS ?_
        refine RA.if1T rfl (decide_eq_true gS) ?_
        refine RA.steps (i' := 16) (L' := [some (.ref 110), some (.int (nI u)), some (.int (nI p)), some (.int x3)]) (st' := [.ref 110, .long (Int32.toInt64 0), .long (nI p).toInt64]) (h' := h1) 4 rfl ?_
        refine RA.getf rfl ho8 rfl (hF8.ref (k := 5) rfl) ?_
        refine RA.steps (i' := 18) (L' := [some (.ref 110), some (.int (nI u)), some (.int (nI p)), some (.int x3)]) (st' := [.int (nI u), .ref 115, .long (Int32.toInt64 0), .long (nI p).toInt64]) (h' := h1) 1 rfl ?_
        refine RA.iald rfl pZ bS eZ ?_
        refine RA.steps (i' := 22) (L' := [some (.ref 110), some (.int (nI u)), some (.int (nI p)), some (.int x3)]) (st' := [.long ((ri h 115 u) - 1).toInt64, .long (Int32.toInt64 0), .long (nI p).toInt64]) (h' := h1) 3 rfl ?_
        refine RA.call0 (N := mX8_isIn) (as := [.long (nI p).toInt64, .long (Int32.toInt64 0), .long ((ri h 115 u) - 1).toInt64]) (rest := []) rfl rfl rfl (isIn_t hi) ?_
        refine RA.if1T rfl rfl ?_
        refine RA.steps (i' := 27) (L' := [some (.ref 110), some (.int (nI u)), some (.int (nI p)), some (.int x3)]) (st' := [.ref 110]) (h' := h1) 1 rfl ?_
        refine RA.getf rfl ho8 rfl (hF8.ref (k := 4) rfl) ?_
        refine RA.steps (i' := 29) (L' := [some (.ref 110), some (.int (nI u)), some (.int (nI p)), some (.int x3)]) (st' := [.int (nI u), .ref 114]) (h' := h1) 1 rfl ?_
        refine RA.iald rfl pS bS eS ?_
        refine RA.if1F rfl (decide_eq_false (fun q => q hz)) ?_
        refine RA.steps (i' := 33) (L' := [some (.ref 110), some (.int (nI u)), some (.int (nI p)), some (.int x3)]) (st' := [.int (-1000000005), .int x3]) (h' := h1) 2 rfl ?_
        refine RA.if2T rfl (decide_eq_true hn3) ?_
        refine RA.steps (i' := 37) (L' := [some (.ref 110), some (.int (nI u)), some (.int (nI p)), some (.int x3)]) (st' := [.ref 110]) (h' := h1) 1 rfl ?_
        refine RA.getf rfl ho8 rfl (hF8.ref (k := 4) rfl) ?_
        refine RA.steps (i' := 39) (L' := [some (.ref 110), some (.int (nI u)), some (.int (nI p)), some (.int x3)]) (st' := [.int (nI u), .ref 114]) (h' := h1) 1 rfl ?_
        refine RA.iald rfl pS bS eS ?_
        refine RA.steps (i' := 41) (L' := [some (.ref 110), some (.int (nI u)), some (.int (nI p)), some (.int x3)]) (st' := [.int 1, .int (ri h 114 u)]) (h' := h1) 1 rfl ?_
        refine RA.if2T rfl (decide_eq_true (fun q => absurd (hz.symm.trans q) (by decide))) ?_
        refine RA.steps (i' := 54) (L' := [some (.ref 110), some (.int (nI u)), some (.int (nI p)), some (.int x3)]) (st' := [.ref 110]) (h' := h1) 1 rfl ?_
        refine RA.getf rfl ho8 rfl (hF8.ref (k := 6) rfl) ?_
        refine RA.steps (i' := 60) (L' := [some (.ref 110), some (.int (nI u)), some (.int (nI p)), some (.int x3)]) (st' := [.int ((24 * (nI u)) + (nI p)), .ref 116]) (h' := h1) 5 rfl ?_
        rw [(eAdr hu)]
        refine RA.steps (i' := 61) (L' := [some (.ref 110), some (.int (nI u)), some (.int (nI p)), some (.int x3)]) (st' := [.ref 110, .int (nI (24 * u + p)), .ref 116]) (h' := h1) 1 rfl ?_
        refine RA.getf rfl ho8 rfl (hF8.ref (k := 4) rfl) ?_
        refine RA.steps (i' := 63) (L' := [some (.ref 110), some (.int (nI u)), some (.int (nI p)), some (.int x3)]) (st' := [.int (nI u), .ref 114, .int (nI (24 * u + p)), .ref 116]) (h' := h1) 1 rfl ?_
        refine RA.iald rfl pS bS eS ?_
        refine RA.if1F rfl (decide_eq_false (fun q => q hz)) ?_
        refine RA.steps (i' := 70) (L' := [some (.ref 110), some (.int (nI u)), some (.int (nI p)), some (.int x3)]) (st' := [.int ((x3 <<< ((16 : Int32) &&& 31)) >>> ((16 : Int32) &&& 31)), .int (nI (24 * u + p)), .ref 116]) (h' := h1) 5 rfl ?_
        rw [(sh16 x3)]
        refine RA.steps (i' := 72) (L' := [some (.ref 110), some (.int (nI u)), some (.int (nI p)), some (.int x3)]) (st' := [.int (x3.toInt16.toInt32), .int (nI (24 * u + p)), .ref 116]) (h' := h1) 1 rfl ?_
        refine RA.iast rfl pg ⟨(nI_cl (by omega)).1, by rw [(nI_cl (by omega)).2]; show 24 * u + p < 96; omega⟩ ?_
        refine RA.steps (i' := 74) (L' := [some (.ref 110), some (.int (nI u)), some (.int (nI p)), some (.int x3)]) (st' := [.int 1]) (h' := (h1.set 116 (.inl (96, va_up g (nI (24 * u + p)).toNatClampNeg x3.toInt16.toInt32)))) 1 rfl ?_
        exact RA.ret rfl rfl
  have hz1 : ri h 114 u = 1 := Int32.toInt_inj.mp (by
    have : ¬ (ri h 114 u).toInt = 0 := fun q => hz (Int32.toInt_inj.mp (q.trans (by decide)))
    have := Int32.le_iff_toInt_le.mp gS
    rw [show (1 : Int32).toInt = 1 by decide]
    omega)
  by_cases hn3 : x3 = -1000000005
  · skip
    refine mark_put hh hj hv hu hp24 hp (w := x3) (hwb := by rw [hn3]; decide +kernel) ⟨Nat.le_of_ble_eq_true rfl, ⟨_, _, rfl⟩, ?_⟩ (fun h1 g hh1 e14 e15 pg => ⟨Nat.le_of_ble_eq_true rfl, ⟨_, _, rfl⟩, ?_⟩)
    · show RA prog E pV1 120 mX7_mark 0 [some (.ref 0), some (.int (nI u)), some (.int (nI p)), some (.int x3), none] [] h (some (.int 1), (h.set (83 + 2 * u) (.inl (24, va_up f p x3))), 0, 0)
      refine RA.steps (i' := 2) (L' := [some (.ref 0), some (.int (nI u)), some (.int (nI p)), some (.int x3), none]) (st' := [.int (nI u), .ref 0]) (h' := h) 2 rfl ?_
      refine RA.call0 (N := mX7_rowOf) (as := [.ref 0, .int (nI u)]) (rest := []) rfl rfl (pcallV rfl rfl ho0 rfl rfl (Nat.le_of_ble_eq_true rfl)) (rowOf_x (d := 118) hh hu) ?_
      refine RA.steps (i' := 9) (L' := [some (.ref 0), some (.int (nI u)), some (.int (nI p)), some (.int x3), some (.ref (82 + 2 * u))]) (st' := [.ref (82 + 2 * u)]) (h' := h) 4 rfl ?_
      refine RA.call0 (N := mX3_isMissing) (as := [.ref (82 + 2 * u)]) (rest := []) rfl rfl (pcallV rfl rfl hor rfl rfl (Nat.le_of_ble_eq_true rfl)) (isMis_f (d := 118) hh hu hm) ?_
      refine RA.if1T rfl rfl ?_
      refine RA.steps (i' := 15) (L' := [some (.ref 0), some (.int (nI u)), some (.int (nI p)), some (.int x3), some (.ref (82 + 2 * u))]) (st' := [.int (nI p), .ref (82 + 2 * u)]) (h' := h) 2 rfl ?_
      refine RA.call0 (N := mX3_has) (as := [.ref (82 + 2 * u), .int (nI p)]) (rest := []) rfl rfl (pcallV rfl rfl hor rfl rfl (Nat.le_of_ble_eq_true rfl)) (has_t (d := 118) hh hu hb.1 hb.2) ?_
      refine RA.if1T rfl rfl ?_
      refine RA.steps (i' := 20) (L' := [some (.ref 0), some (.int (nI u)), some (.int (nI p)), some (.int x3), some (.ref (82 + 2 * u))]) (st' := [.ref (82 + 2 * u)]) (h' := h) 1 rfl ?_
      refine RA.getf rfl hor rfl h1 ?_
      refine RA.if1T rfl (decide_eq_true (fun q => hz (es.symm.trans q))) ?_
      refine RA.steps (i' := 36) (L' := [some (.ref 0), some (.int (nI u)), some (.int (nI p)), some (.int x3), some (.ref (82 + 2 * u))]) (st' := [.int (-1000000005), .int x3]) (h' := h) 2 rfl ?_
      refine RA.if2T rfl (decide_eq_true hn3) ?_
      refine RA.steps (i' := 47) (L' := [some (.ref 0), some (.int (nI u)), some (.int (nI p)), some (.int x3), some (.ref (82 + 2 * u))]) (st' := [.int x3, .int (nI p), .ref (82 + 2 * u)]) (h' := h) 3 rfl ?_
      refine RA.call0 (N := mX3_put) (as := [.ref (82 + 2 * u), .int (nI p), .int x3]) (rest := []) rfl rfl (pcallV rfl rfl hor rfl rfl (Nat.le_of_ble_eq_true rfl)) (put_x (d := 117) hh hu hp24 hp hb.1 hb.2) ?_
      refine RA.steps (i' := 49) (L' := [some (.ref 0), some (.int (nI u)), some (.int (nI p)), some (.int x3), some (.ref (82 + 2 * u))]) (st' := [.int 1]) (h' := (h.set (83 + 2 * u) (.inl (24, va_up f p x3)))) 1 rfl ?_
      exact RA.ret rfl rfl
    · obtain ⟨fs8, ho8, hF8⟩ := hi_obj hh1 (a := 110) rfl
      obtain ⟨gS_, pS, uS, -⟩ := hi_int (a := 114) (n := 4) (sg := [(0, 3, -1, 1)]) hh1 rfl
      obtain ⟨gZ_, pZ, uZ, -⟩ := hi_int (a := 115) (n := 4) (sg := [(0, 3, 0, 24)]) hh1 rfl
      have eS : gS_ (nI u).toNatClampNeg = ri h 114 u := by rw [(nI_cl (by omega)).2, ← uS u hu, e14]
      have eZ : gZ_ (nI u).toNatClampNeg = ri h 115 u := by rw [(nI_cl (by omega)).2, ← uZ u hu, e15]
      show RA prog E pV1 120 mX8_mark 0 [some (.ref 110), some (.int (nI u)), some (.int (nI p)), some (.int x3)] [] h1 (some (.int 1), h1.set 116 (.inl (96, va_up g (24 * u + p) x3)), 0, 0)
      rw [show va_up g (24 * u + p) x3 = va_up g (nI (24 * u + p)).toNatClampNeg x3 by rw [(nI_cl (by omega)).2]]
      refine RA.steps (i' := 1) (L' := [some (.ref 110), some (.int (nI u)), some (.int (nI p)), some (.int x3)]) (st' := [.int (nI u)]) (h' := h1) 1 rfl ?_
      refine RA.call0 (N := mX8_isSheet) (as := [.int (nI u)]) (rest := []) rfl rfl rfl (isSh_t (d := 117) hs3) ?_
      refine RA.if1T rfl rfl ?_
      refine RA.steps (i' := 6) (L' := [some (.ref 110), some (.int (nI u)), some (.int (nI p)), some (.int x3)]) (st' := [.ref 110]) (h' := h1) 1 rfl ?_
      refine RA.getf rfl ho8 rfl (hF8.ref (k := 4) rfl) ?_
      refine RA.steps (i' := 8) (L' := [some (.ref 110), some (.int (nI u)), some (.int (nI p)), some (.int x3)]) (st' := [.int (nI u), .ref 114]) (h' := h1) 1 rfl ?_
      refine RA.iald rfl pS bS eS ?_
      refine RA.if1T rfl (decide_eq_true gS) ?_
      refine RA.steps (i' := 16) (L' := [some (.ref 110), some (.int (nI u)), some (.int (nI p)), some (.int x3)]) (st' := [.ref 110, .long (Int32.toInt64 0), .long (nI p).toInt64]) (h' := h1) 4 rfl ?_
      refine RA.getf rfl ho8 rfl (hF8.ref (k := 5) rfl) ?_
      refine RA.steps (i' := 18) (L' := [some (.ref 110), some (.int (nI u)), some (.int (nI p)), some (.int x3)]) (st' := [.int (nI u), .ref 115, .long (Int32.toInt64 0), .long (nI p).toInt64]) (h' := h1) 1 rfl ?_
      refine RA.iald rfl pZ bS eZ ?_
      refine RA.steps (i' := 22) (L' := [some (.ref 110), some (.int (nI u)), some (.int (nI p)), some (.int x3)]) (st' := [.long ((ri h 115 u) - 1).toInt64, .long (Int32.toInt64 0), .long (nI p).toInt64]) (h' := h1) 3 rfl ?_
      refine RA.call0 (N := mX8_isIn) (as := [.long (nI p).toInt64, .long (Int32.toInt64 0), .long ((ri h 115 u) - 1).toInt64]) (rest := []) rfl rfl rfl (isIn_t hi) ?_
      refine RA.if1T rfl rfl ?_
      refine RA.steps (i' := 27) (L' := [some (.ref 110), some (.int (nI u)), some (.int (nI p)), some (.int x3)]) (st' := [.ref 110]) (h' := h1) 1 rfl ?_
      refine RA.getf rfl ho8 rfl (hF8.ref (k := 4) rfl) ?_
      refine RA.steps (i' := 29) (L' := [some (.ref 110), some (.int (nI u)), some (.int (nI p)), some (.int x3)]) (st' := [.int (nI u), .ref 114]) (h' := h1) 1 rfl ?_
      refine RA.iald rfl pS bS eS ?_
      refine RA.if1T rfl (decide_eq_true hz) ?_
      refine RA.steps (i' := 37) (L' := [some (.ref 110), some (.int (nI u)), some (.int (nI p)), some (.int x3)]) (st' := [.ref 110]) (h' := h1) 1 rfl ?_
      refine RA.getf rfl ho8 rfl (hF8.ref (k := 4) rfl) ?_
      refine RA.steps (i' := 39) (L' := [some (.ref 110), some (.int (nI u)), some (.int (nI p)), some (.int x3)]) (st' := [.int (nI u), .ref 114]) (h' := h1) 1 rfl ?_
      refine RA.iald rfl pS bS eS ?_
      refine RA.steps (i' := 41) (L' := [some (.ref 110), some (.int (nI u)), some (.int (nI p)), some (.int x3)]) (st' := [.int 1, .int (ri h 114 u)]) (h' := h1) 1 rfl ?_
      refine RA.if2F rfl (decide_eq_false (fun q => q hz1)) ?_
      refine RA.steps (i' := 44) (L' := [some (.ref 110), some (.int (nI u)), some (.int (nI p)), some (.int x3)]) (st' := [.int (-1000000005), .int x3]) (h' := h1) 2 rfl ?_
      refine RA.if2T rfl (decide_eq_true hn3) ?_
      refine RA.steps (i' := 54) (L' := [some (.ref 110), some (.int (nI u)), some (.int (nI p)), some (.int x3)]) (st' := [.ref 110]) (h' := h1) 1 rfl ?_
      refine RA.getf rfl ho8 rfl (hF8.ref (k := 6) rfl) ?_
      refine RA.steps (i' := 60) (L' := [some (.ref 110), some (.int (nI u)), some (.int (nI p)), some (.int x3)]) (st' := [.int ((24 * (nI u)) + (nI p)), .ref 116]) (h' := h1) 5 rfl ?_
      rw [(eAdr hu)]
      refine RA.steps (i' := 61) (L' := [some (.ref 110), some (.int (nI u)), some (.int (nI p)), some (.int x3)]) (st' := [.ref 110, .int (nI (24 * u + p)), .ref 116]) (h' := h1) 1 rfl ?_
      refine RA.getf rfl ho8 rfl (hF8.ref (k := 4) rfl) ?_
      refine RA.steps (i' := 63) (L' := [some (.ref 110), some (.int (nI u)), some (.int (nI p)), some (.int x3)]) (st' := [.int (nI u), .ref 114, .int (nI (24 * u + p)), .ref 116]) (h' := h1) 1 rfl ?_
      refine RA.iald rfl pS bS eS ?_
      refine RA.if1T rfl (decide_eq_true hz) ?_
      refine RA.steps (i' := 72) (L' := [some (.ref 110), some (.int (nI u)), some (.int (nI p)), some (.int x3)]) (st' := [.int x3, .int (nI (24 * u + p)), .ref 116]) (h' := h1) 1 rfl ?_
      refine RA.iast rfl pg ⟨(nI_cl (by omega)).1, by rw [(nI_cl (by omega)).2]; show 24 * u + p < 96; omega⟩ ?_
      refine RA.steps (i' := 74) (L' := [some (.ref 110), some (.int (nI u)), some (.int (nI p)), some (.int x3)]) (st' := [.int 1]) (h' := (h1.set 116 (.inl (96, va_up g (nI (24 * u + p)).toNatClampNeg x3)))) 1 rfl ?_
      exact RA.ret rfl rfl
  by_cases hw : (-99999 : Int32) ≤ x3 ∧ x3 ≤ 99999
  · skip
    refine mark_put hh hj hv hu hp24 hp (w := x3) (hwb := w_b hw) ⟨Nat.le_of_ble_eq_true rfl, ⟨_, _, rfl⟩, ?_⟩ (fun h1 g hh1 e14 e15 pg => ⟨Nat.le_of_ble_eq_true rfl, ⟨_, _, rfl⟩, ?_⟩)
    · show RA prog E pV1 120 mX7_mark 0 [some (.ref 0), some (.int (nI u)), some (.int (nI p)), some (.int x3), none] [] h (some (.int 1), (h.set (83 + 2 * u) (.inl (24, va_up f p x3))), 0, 0)
      refine RA.steps (i' := 2) (L' := [some (.ref 0), some (.int (nI u)), some (.int (nI p)), some (.int x3), none]) (st' := [.int (nI u), .ref 0]) (h' := h) 2 rfl ?_
      refine RA.call0 (N := mX7_rowOf) (as := [.ref 0, .int (nI u)]) (rest := []) rfl rfl (pcallV rfl rfl ho0 rfl rfl (Nat.le_of_ble_eq_true rfl)) (rowOf_x (d := 118) hh hu) ?_
      refine RA.steps (i' := 9) (L' := [some (.ref 0), some (.int (nI u)), some (.int (nI p)), some (.int x3), some (.ref (82 + 2 * u))]) (st' := [.ref (82 + 2 * u)]) (h' := h) 4 rfl ?_
      refine RA.call0 (N := mX3_isMissing) (as := [.ref (82 + 2 * u)]) (rest := []) rfl rfl (pcallV rfl rfl hor rfl rfl (Nat.le_of_ble_eq_true rfl)) (isMis_f (d := 118) hh hu hm) ?_
      refine RA.if1T rfl rfl ?_
      refine RA.steps (i' := 15) (L' := [some (.ref 0), some (.int (nI u)), some (.int (nI p)), some (.int x3), some (.ref (82 + 2 * u))]) (st' := [.int (nI p), .ref (82 + 2 * u)]) (h' := h) 2 rfl ?_
      refine RA.call0 (N := mX3_has) (as := [.ref (82 + 2 * u), .int (nI p)]) (rest := []) rfl rfl (pcallV rfl rfl hor rfl rfl (Nat.le_of_ble_eq_true rfl)) (has_t (d := 118) hh hu hb.1 hb.2) ?_
      refine RA.if1T rfl rfl ?_
      refine RA.steps (i' := 20) (L' := [some (.ref 0), some (.int (nI u)), some (.int (nI p)), some (.int x3), some (.ref (82 + 2 * u))]) (st' := [.ref (82 + 2 * u)]) (h' := h) 1 rfl ?_
      refine RA.getf rfl hor rfl h1 ?_
      refine RA.if1T rfl (decide_eq_true (fun q => hz (es.symm.trans q))) ?_
      refine RA.steps (i' := 36) (L' := [some (.ref 0), some (.int (nI u)), some (.int (nI p)), some (.int x3), some (.ref (82 + 2 * u))]) (st' := [.int (-1000000005), .int x3]) (h' := h) 2 rfl ?_
      refine RA.if2F rfl (decide_eq_false hn3) ?_
      refine RA.steps (i' := 40) (L' := [some (.ref 0), some (.int (nI u)), some (.int (nI p)), some (.int x3), some (.ref (82 + 2 * u))]) (st' := [.int 99999, .int (-99999), .int x3]) (h' := h) 3 rfl ?_
      refine RA.call0 (N := mX7_within) (as := [.int x3, .int (-99999), .int 99999]) (rest := []) rfl rfl rfl (within_t hw) ?_
      refine RA.if1T rfl rfl ?_
      refine RA.steps (i' := 47) (L' := [some (.ref 0), some (.int (nI u)), some (.int (nI p)), some (.int x3), some (.ref (82 + 2 * u))]) (st' := [.int x3, .int (nI p), .ref (82 + 2 * u)]) (h' := h) 3 rfl ?_
      refine RA.call0 (N := mX3_put) (as := [.ref (82 + 2 * u), .int (nI p), .int x3]) (rest := []) rfl rfl (pcallV rfl rfl hor rfl rfl (Nat.le_of_ble_eq_true rfl)) (put_x (d := 117) hh hu hp24 hp hb.1 hb.2) ?_
      refine RA.steps (i' := 49) (L' := [some (.ref 0), some (.int (nI u)), some (.int (nI p)), some (.int x3), some (.ref (82 + 2 * u))]) (st' := [.int 1]) (h' := (h.set (83 + 2 * u) (.inl (24, va_up f p x3)))) 1 rfl ?_
      exact RA.ret rfl rfl
    · obtain ⟨fs8, ho8, hF8⟩ := hi_obj hh1 (a := 110) rfl
      obtain ⟨gS_, pS, uS, -⟩ := hi_int (a := 114) (n := 4) (sg := [(0, 3, -1, 1)]) hh1 rfl
      obtain ⟨gZ_, pZ, uZ, -⟩ := hi_int (a := 115) (n := 4) (sg := [(0, 3, 0, 24)]) hh1 rfl
      have eS : gS_ (nI u).toNatClampNeg = ri h 114 u := by rw [(nI_cl (by omega)).2, ← uS u hu, e14]
      have eZ : gZ_ (nI u).toNatClampNeg = ri h 115 u := by rw [(nI_cl (by omega)).2, ← uZ u hu, e15]
      show RA prog E pV1 120 mX8_mark 0 [some (.ref 110), some (.int (nI u)), some (.int (nI p)), some (.int x3)] [] h1 (some (.int 1), h1.set 116 (.inl (96, va_up g (24 * u + p) x3)), 0, 0)
      rw [show va_up g (24 * u + p) x3 = va_up g (nI (24 * u + p)).toNatClampNeg x3 by rw [(nI_cl (by omega)).2]]
      refine RA.steps (i' := 1) (L' := [some (.ref 110), some (.int (nI u)), some (.int (nI p)), some (.int x3)]) (st' := [.int (nI u)]) (h' := h1) 1 rfl ?_
      refine RA.call0 (N := mX8_isSheet) (as := [.int (nI u)]) (rest := []) rfl rfl rfl (isSh_t (d := 117) hs3) ?_
      refine RA.if1T rfl rfl ?_
      refine RA.steps (i' := 6) (L' := [some (.ref 110), some (.int (nI u)), some (.int (nI p)), some (.int x3)]) (st' := [.ref 110]) (h' := h1) 1 rfl ?_
      refine RA.getf rfl ho8 rfl (hF8.ref (k := 4) rfl) ?_
      refine RA.steps (i' := 8) (L' := [some (.ref 110), some (.int (nI u)), some (.int (nI p)), some (.int x3)]) (st' := [.int (nI u), .ref 114]) (h' := h1) 1 rfl ?_
      refine RA.iald rfl pS bS eS ?_
      refine RA.if1T rfl (decide_eq_true gS) ?_
      refine RA.steps (i' := 16) (L' := [some (.ref 110), some (.int (nI u)), some (.int (nI p)), some (.int x3)]) (st' := [.ref 110, .long (Int32.toInt64 0), .long (nI p).toInt64]) (h' := h1) 4 rfl ?_
      refine RA.getf rfl ho8 rfl (hF8.ref (k := 5) rfl) ?_
      refine RA.steps (i' := 18) (L' := [some (.ref 110), some (.int (nI u)), some (.int (nI p)), some (.int x3)]) (st' := [.int (nI u), .ref 115, .long (Int32.toInt64 0), .long (nI p).toInt64]) (h' := h1) 1 rfl ?_
      refine RA.iald rfl pZ bS eZ ?_
      refine RA.steps (i' := 22) (L' := [some (.ref 110), some (.int (nI u)), some (.int (nI p)), some (.int x3)]) (st' := [.long ((ri h 115 u) - 1).toInt64, .long (Int32.toInt64 0), .long (nI p).toInt64]) (h' := h1) 3 rfl ?_
      refine RA.call0 (N := mX8_isIn) (as := [.long (nI p).toInt64, .long (Int32.toInt64 0), .long ((ri h 115 u) - 1).toInt64]) (rest := []) rfl rfl rfl (isIn_t hi) ?_
      refine RA.if1T rfl rfl ?_
      refine RA.steps (i' := 27) (L' := [some (.ref 110), some (.int (nI u)), some (.int (nI p)), some (.int x3)]) (st' := [.ref 110]) (h' := h1) 1 rfl ?_
      refine RA.getf rfl ho8 rfl (hF8.ref (k := 4) rfl) ?_
      refine RA.steps (i' := 29) (L' := [some (.ref 110), some (.int (nI u)), some (.int (nI p)), some (.int x3)]) (st' := [.int (nI u), .ref 114]) (h' := h1) 1 rfl ?_
      refine RA.iald rfl pS bS eS ?_
      refine RA.if1T rfl (decide_eq_true hz) ?_
      refine RA.steps (i' := 37) (L' := [some (.ref 110), some (.int (nI u)), some (.int (nI p)), some (.int x3)]) (st' := [.ref 110]) (h' := h1) 1 rfl ?_
      refine RA.getf rfl ho8 rfl (hF8.ref (k := 4) rfl) ?_
      refine RA.steps (i' := 39) (L' := [some (.ref 110), some (.int (nI u)), some (.int (nI p)), some (.int x3)]) (st' := [.int (nI u), .ref 114]) (h' := h1) 1 rfl ?_
      refine RA.iald rfl pS bS eS ?_
      refine RA.steps (i' := 41) (L' := [some (.ref 110), some (.int (nI u)), some (.int (nI p)), some (.int x3)]) (st' := [.int 1, .int (ri h 114 u)]) (h' := h1) 1 rfl ?_
      refine RA.if2F rfl (decide_eq_false (fun q => q hz1)) ?_
      refine RA.steps (i' := 44) (L' := [some (.ref 110), some (.int (nI u)), some (.int (nI p)), some (.int x3)]) (st' := [.int (-1000000005), .int x3]) (h' := h1) 2 rfl ?_
      refine RA.if2F rfl (decide_eq_false hn3) ?_
      refine RA.steps (i' := 49) (L' := [some (.ref 110), some (.int (nI u)), some (.int (nI p)), some (.int x3)]) (st' := [.long (Int32.toInt64 99999), .long (Int32.toInt64 (-99999)), .long x3.toInt64]) (h' := h1) 4 rfl ?_
      refine RA.call0 (N := mX8_isIn) (as := [.long x3.toInt64, .long (Int32.toInt64 (-99999)), .long (Int32.toInt64 99999)]) (rest := []) rfl rfl rfl (isIn_t hw) ?_
      refine RA.if1T rfl rfl ?_
      refine RA.steps (i' := 54) (L' := [some (.ref 110), some (.int (nI u)), some (.int (nI p)), some (.int x3)]) (st' := [.ref 110]) (h' := h1) 1 rfl ?_
      refine RA.getf rfl ho8 rfl (hF8.ref (k := 6) rfl) ?_
      refine RA.steps (i' := 60) (L' := [some (.ref 110), some (.int (nI u)), some (.int (nI p)), some (.int x3)]) (st' := [.int ((24 * (nI u)) + (nI p)), .ref 116]) (h' := h1) 5 rfl ?_
      rw [(eAdr hu)]
      refine RA.steps (i' := 61) (L' := [some (.ref 110), some (.int (nI u)), some (.int (nI p)), some (.int x3)]) (st' := [.ref 110, .int (nI (24 * u + p)), .ref 116]) (h' := h1) 1 rfl ?_
      refine RA.getf rfl ho8 rfl (hF8.ref (k := 4) rfl) ?_
      refine RA.steps (i' := 63) (L' := [some (.ref 110), some (.int (nI u)), some (.int (nI p)), some (.int x3)]) (st' := [.int (nI u), .ref 114, .int (nI (24 * u + p)), .ref 116]) (h' := h1) 1 rfl ?_
      refine RA.iald rfl pS bS eS ?_
      refine RA.if1T rfl (decide_eq_true hz) ?_
      refine RA.steps (i' := 72) (L' := [some (.ref 110), some (.int (nI u)), some (.int (nI p)), some (.int x3)]) (st' := [.int x3, .int (nI (24 * u + p)), .ref 116]) (h' := h1) 1 rfl ?_
      refine RA.iast rfl pg ⟨(nI_cl (by omega)).1, by rw [(nI_cl (by omega)).2]; show 24 * u + p < 96; omega⟩ ?_
      refine RA.steps (i' := 74) (L' := [some (.ref 110), some (.int (nI u)), some (.int (nI p)), some (.int x3)]) (st' := [.int 1]) (h' := (h1.set 116 (.inl (96, va_up g (nI (24 * u + p)).toNatClampNeg x3)))) 1 rfl ?_
      exact RA.ret rfl rfl
  · skip
    refine mark_same hh hj hv (v := -1000000001) ⟨Nat.le_of_ble_eq_true rfl, ⟨_, _, rfl⟩, ?_⟩ ⟨Nat.le_of_ble_eq_true rfl, ⟨_, _, rfl⟩, ?_⟩
    · show RA prog E pV1 120 mX7_mark 0 [some (.ref 0), some (.int (nI u)), some (.int (nI p)), some (.int x3), none] [] h (some (.int (-1000000001)), h, 0, 0)
      refine RA.steps (i' := 2) (L' := [some (.ref 0), some (.int (nI u)), some (.int (nI p)), some (.int x3), none]) (st' := [.int (nI u), .ref 0]) (h' := h) 2 rfl ?_
      refine RA.call0 (N := mX7_rowOf) (as := [.ref 0, .int (nI u)]) (rest := []) rfl rfl (pcallV rfl rfl ho0 rfl rfl (Nat.le_of_ble_eq_true rfl)) (rowOf_x (d := 118) hh hu) ?_
      refine RA.steps (i' := 9) (L' := [some (.ref 0), some (.int (nI u)), some (.int (nI p)), some (.int x3), some (.ref (82 + 2 * u))]) (st' := [.ref (82 + 2 * u)]) (h' := h) 4 rfl ?_
      refine RA.call0 (N := mX3_isMissing) (as := [.ref (82 + 2 * u)]) (rest := []) rfl rfl (pcallV rfl rfl hor rfl rfl (Nat.le_of_ble_eq_true rfl)) (isMis_f (d := 118) hh hu hm) ?_
      refine RA.if1T rfl rfl ?_
      refine RA.steps (i' := 15) (L' := [some (.ref 0), some (.int (nI u)), some (.int (nI p)), some (.int x3), some (.ref (82 + 2 * u))]) (st' := [.int (nI p), .ref (82 + 2 * u)]) (h' := h) 2 rfl ?_
      refine RA.call0 (N := mX3_has) (as := [.ref (82 + 2 * u), .int (nI p)]) (rest := []) rfl rfl (pcallV rfl rfl hor rfl rfl (Nat.le_of_ble_eq_true rfl)) (has_t (d := 118) hh hu hb.1 hb.2) ?_
      refine RA.if1T rfl rfl ?_
      refine RA.steps (i' := 20) (L' := [some (.ref 0), some (.int (nI u)), some (.int (nI p)), some (.int x3), some (.ref (82 + 2 * u))]) (st' := [.ref (82 + 2 * u)]) (h' := h) 1 rfl ?_
      refine RA.getf rfl hor rfl h1 ?_
      refine RA.if1T rfl (decide_eq_true (fun q => hz (es.symm.trans q))) ?_
      refine RA.steps (i' := 36) (L' := [some (.ref 0), some (.int (nI u)), some (.int (nI p)), some (.int x3), some (.ref (82 + 2 * u))]) (st' := [.int (-1000000005), .int x3]) (h' := h) 2 rfl ?_
      refine RA.if2F rfl (decide_eq_false hn3) ?_
      refine RA.steps (i' := 40) (L' := [some (.ref 0), some (.int (nI u)), some (.int (nI p)), some (.int x3), some (.ref (82 + 2 * u))]) (st' := [.int 99999, .int (-99999), .int x3]) (h' := h) 3 rfl ?_
      refine RA.call0 (N := mX7_within) (as := [.int x3, .int (-99999), .int 99999]) (rest := []) rfl rfl rfl (within_f hw) ?_
      refine RA.if1F rfl rfl ?_
      refine RA.steps (i' := 43) (L' := [some (.ref 0), some (.int (nI u)), some (.int (nI p)), some (.int x3), some (.ref (82 + 2 * u))]) (st' := [.int (-1000000001)]) (h' := h) 1 rfl ?_
      exact RA.ret rfl rfl
    · show RA prog E pV1 120 mX8_mark 0 [some (.ref 110), some (.int (nI u)), some (.int (nI p)), some (.int x3)] [] h (some (.int (-1000000001)), h, 0, 0)
      refine RA.steps (i' := 1) (L' := [some (.ref 110), some (.int (nI u)), some (.int (nI p)), some (.int x3)]) (st' := [.int (nI u)]) (h' := h) 1 rfl ?_
      refine RA.call0 (N := mX8_isSheet) (as := [.int (nI u)]) (rest := []) rfl rfl rfl (isSh_t (d := 117) hs3) ?_
      refine RA.if1T rfl rfl ?_
      refine RA.steps (i' := 6) (L' := [some (.ref 110), some (.int (nI u)), some (.int (nI p)), some (.int x3)]) (st' := [.ref 110]) (h' := h) 1 rfl ?_
      refine RA.getf rfl ho8 rfl (hF8.ref (k := 4) rfl) ?_
      refine RA.steps (i' := 8) (L' := [some (.ref 110), some (.int (nI u)), some (.int (nI p)), some (.int x3)]) (st' := [.int (nI u), .ref 114]) (h' := h) 1 rfl ?_
      refine RA.iald rfl pS bS eS ?_
      refine RA.if1T rfl (decide_eq_true gS) ?_
      refine RA.steps (i' := 16) (L' := [some (.ref 110), some (.int (nI u)), some (.int (nI p)), some (.int x3)]) (st' := [.ref 110, .long (Int32.toInt64 0), .long (nI p).toInt64]) (h' := h) 4 rfl ?_
      refine RA.getf rfl ho8 rfl (hF8.ref (k := 5) rfl) ?_
      refine RA.steps (i' := 18) (L' := [some (.ref 110), some (.int (nI u)), some (.int (nI p)), some (.int x3)]) (st' := [.int (nI u), .ref 115, .long (Int32.toInt64 0), .long (nI p).toInt64]) (h' := h) 1 rfl ?_
      refine RA.iald rfl pZ bS eZ ?_
      refine RA.steps (i' := 22) (L' := [some (.ref 110), some (.int (nI u)), some (.int (nI p)), some (.int x3)]) (st' := [.long ((ri h 115 u) - 1).toInt64, .long (Int32.toInt64 0), .long (nI p).toInt64]) (h' := h) 3 rfl ?_
      refine RA.call0 (N := mX8_isIn) (as := [.long (nI p).toInt64, .long (Int32.toInt64 0), .long ((ri h 115 u) - 1).toInt64]) (rest := []) rfl rfl rfl (isIn_t hi) ?_
      refine RA.if1T rfl rfl ?_
      refine RA.steps (i' := 27) (L' := [some (.ref 110), some (.int (nI u)), some (.int (nI p)), some (.int x3)]) (st' := [.ref 110]) (h' := h) 1 rfl ?_
      refine RA.getf rfl ho8 rfl (hF8.ref (k := 4) rfl) ?_
      refine RA.steps (i' := 29) (L' := [some (.ref 110), some (.int (nI u)), some (.int (nI p)), some (.int x3)]) (st' := [.int (nI u), .ref 114]) (h' := h) 1 rfl ?_
      refine RA.iald rfl pS bS eS ?_
      refine RA.if1T rfl (decide_eq_true hz) ?_
      refine RA.steps (i' := 37) (L' := [some (.ref 110), some (.int (nI u)), some (.int (nI p)), some (.int x3)]) (st' := [.ref 110]) (h' := h) 1 rfl ?_
      refine RA.getf rfl ho8 rfl (hF8.ref (k := 4) rfl) ?_
      refine RA.steps (i' := 39) (L' := [some (.ref 110), some (.int (nI u)), some (.int (nI p)), some (.int x3)]) (st' := [.int (nI u), .ref 114]) (h' := h) 1 rfl ?_
      refine RA.iald rfl pS bS eS ?_
      refine RA.steps (i' := 41) (L' := [some (.ref 110), some (.int (nI u)), some (.int (nI p)), some (.int x3)]) (st' := [.int 1, .int (ri h 114 u)]) (h' := h) 1 rfl ?_
      refine RA.if2F rfl (decide_eq_false (fun q => q hz1)) ?_
      refine RA.steps (i' := 44) (L' := [some (.ref 110), some (.int (nI u)), some (.int (nI p)), some (.int x3)]) (st' := [.int (-1000000005), .int x3]) (h' := h) 2 rfl ?_
      refine RA.if2F rfl (decide_eq_false hn3) ?_
      refine RA.steps (i' := 49) (L' := [some (.ref 110), some (.int (nI u)), some (.int (nI p)), some (.int x3)]) (st' := [.long (Int32.toInt64 99999), .long (Int32.toInt64 (-99999)), .long x3.toInt64]) (h' := h) 4 rfl ?_
      refine RA.call0 (N := mX8_isIn) (as := [.long x3.toInt64, .long (Int32.toInt64 (-99999)), .long (Int32.toInt64 99999)]) (rest := []) rfl rfl rfl (isIn_f hw) ?_
      refine RA.if1F rfl rfl ?_
      refine RA.steps (i' := 52) (L' := [some (.ref 110), some (.int (nI u)), some (.int (nI p)), some (.int x3)]) (st' := [.int (-1000000001)]) (h' := h) 1 rfl ?_
      exact RA.ret rfl rfl
end VLX
/-! ===== copy: what comes where, on both sides ===== -/
section CPV
variable {E : pX} {h : List pC}
theorem copy_same {x1 x2 x3 x4 x5 v : Int32} (hh : HI HT h) (hj : JT h) (hv : RV h) (q1 : Run prog E pV1 120 mX7_copy [.ref 0, .int x1, .int x2, .int x3, .int x4, .int x5] h (some (.int v), h, 0, 0)) (q2 : Run prog E pV1 120 mX8_copy [.ref 110, .int x1, .int x2, .int x3, .int x4, .int x5] h (some (.int v), h, 0, 0)) : TwoV E mX7_copy mX8_copy [.ref 0, .int x1, .int x2, .int x3, .int x4, .int x5] [.ref 110, .int x1, .int x2, .int x3, .int x4, .int x5] h WMc WCo := ⟨v, h, h, q1, q2, hh, hh, hj, Fr.rf _ _, Fr.rf _ _, hv, fun q => q⟩
/-- so many places from there on are there -/
def HA (x m l : Int32) : Prop := 0 ≤ x ∧ 0 ≤ m ∧ x ≤ l ∧ m ≤ l - x
theorem hasAll_t {d u : Nat} {x m : Int32} (hh : HI HT h) (hu : u < 4) (l24 : ri h (82 + 2 * u) 2 ≤ nI 24) (H : HA x m (ri h (82 + 2 * u) 2)) : Run prog E pV1 (d + 1) mX3_hasAll [.ref (82 + 2 * u), .int x, .int m] h (some (.int 1), h, 0, 0) := by
  obtain ⟨fs, ho, h0, -, h2⟩ := row_obj hh u hu
  obtain ⟨f, hp, -⟩ := vals_at hh u hu
  refine ⟨Nat.le_of_ble_eq_true rfl, ⟨_, _, rfl⟩, ?_⟩
  show RA prog E pV1 (d + 1) mX3_hasAll 0 [some (.ref (82 + 2 * u)), some (.int x), some (.int m)] [] h (some (.int 1), h, 0, 0)
  refine RA.steps (i' := 1) (L' := [some (.ref (82 + 2 * u)), some (.int x), some (.int m)]) (st' := [.int x]) (h' := h) 1 rfl ?_
  refine RA.if1F rfl (decide_eq_false (Int32.not_lt.mpr H.1)) ?_
  refine RA.steps (i' := 3) (L' := [some (.ref (82 + 2 * u)), some (.int x), some (.int m)]) (st' := [.int m]) (h' := h) 1 rfl ?_
  refine RA.if1F rfl (decide_eq_false (Int32.not_lt.mpr H.2.1)) ?_
  refine RA.steps (i' := 5) (L' := [some (.ref (82 + 2 * u)), some (.int x), some (.int m)]) (st' := [.ref (82 + 2 * u)]) (h' := h) 1 rfl ?_
  refine RA.getf rfl ho rfl h2 ?_
  refine RA.steps (i' := 7) (L' := [some (.ref (82 + 2 * u)), some (.int x), some (.int m)]) (st' := [.ref (82 + 2 * u), .int (ri h (82 + 2 * u) 2)]) (h' := h) 1 rfl ?_
  refine RA.getf rfl ho rfl h0 ?_
  refine RA.alenI rfl hp ?_
  refine RA.if2F rfl (decide_eq_false (Int32.not_lt.mpr l24)) ?_
  refine RA.steps (i' := 12) (L' := [some (.ref (82 + 2 * u)), some (.int x), some (.int m)]) (st' := [.ref (82 + 2 * u), .int x]) (h' := h) 2 rfl ?_
  refine RA.getf rfl ho rfl h2 ?_
  refine RA.if2F rfl (decide_eq_false (Int32.not_lt.mpr H.2.2.1)) ?_
  refine RA.steps (i' := 16) (L' := [some (.ref (82 + 2 * u)), some (.int x), some (.int m)]) (st' := [.ref (82 + 2 * u), .int m]) (h' := h) 2 rfl ?_
  refine RA.getf rfl ho rfl h2 ?_
  refine RA.steps (i' := 19) (L' := [some (.ref (82 + 2 * u)), some (.int x), some (.int m)]) (st' := [.int ((ri h (82 + 2 * u) 2) - x), .int m]) (h' := h) 2 rfl ?_
  refine RA.if2F rfl (decide_eq_false (Int32.not_lt.mpr H.2.2.2)) ?_
  refine RA.steps (i' := 23) (L' := [some (.ref (82 + 2 * u)), some (.int x), some (.int m)]) (st' := [.int 1]) (h' := h) 2 rfl ?_
  exact RA.ret rfl rfl
theorem hasAll_f {d u : Nat} {x m : Int32} (hh : HI HT h) (hu : u < 4) (l24 : ri h (82 + 2 * u) 2 ≤ nI 24) (hn : ¬ HA x m (ri h (82 + 2 * u) 2)) : Run prog E pV1 (d + 1) mX3_hasAll [.ref (82 + 2 * u), .int x, .int m] h (some (.int 0), h, 0, 0) := by
  obtain ⟨fs, ho, h0, -, h2⟩ := row_obj hh u hu
  obtain ⟨f, hp, -⟩ := vals_at hh u hu
  refine ⟨Nat.le_of_ble_eq_true rfl, ⟨_, _, rfl⟩, ?_⟩
  show RA prog E pV1 (d + 1) mX3_hasAll 0 [some (.ref (82 + 2 * u)), some (.int x), some (.int m)] [] h (some (.int 0), h, 0, 0)
  by_cases c1 : x < 0
  · skip
    refine RA.steps (i' := 1) (L' := [some (.ref (82 + 2 * u)), some (.int x), some (.int m)]) (st' := [.int x]) (h' := h) 1 rfl ?_
    refine RA.if1T rfl (decide_eq_true c1) ?_
    refine RA.steps (i' := 23) (L' := [some (.ref (82 + 2 * u)), some (.int x), some (.int m)]) (st' := [.int 0]) (h' := h) 1 rfl ?_
    exact RA.ret rfl rfl
  by_cases c2 : m < 0
  · skip
    refine RA.steps (i' := 1) (L' := [some (.ref (82 + 2 * u)), some (.int x), some (.int m)]) (st' := [.int x]) (h' := h) 1 rfl ?_
    refine RA.if1F rfl (decide_eq_false c1) ?_
    refine RA.steps (i' := 3) (L' := [some (.ref (82 + 2 * u)), some (.int x), some (.int m)]) (st' := [.int m]) (h' := h) 1 rfl ?_
    refine RA.if1T rfl (decide_eq_true c2) ?_
    refine RA.steps (i' := 23) (L' := [some (.ref (82 + 2 * u)), some (.int x), some (.int m)]) (st' := [.int 0]) (h' := h) 1 rfl ?_
    exact RA.ret rfl rfl
  by_cases c3 : ri h (82 + 2 * u) 2 < x
  · skip
    refine RA.steps (i' := 1) (L' := [some (.ref (82 + 2 * u)), some (.int x), some (.int m)]) (st' := [.int x]) (h' := h) 1 rfl ?_
    refine RA.if1F rfl (decide_eq_false c1) ?_
    refine RA.steps (i' := 3) (L' := [some (.ref (82 + 2 * u)), some (.int x), some (.int m)]) (st' := [.int m]) (h' := h) 1 rfl ?_
    refine RA.if1F rfl (decide_eq_false c2) ?_
    refine RA.steps (i' := 5) (L' := [some (.ref (82 + 2 * u)), some (.int x), some (.int m)]) (st' := [.ref (82 + 2 * u)]) (h' := h) 1 rfl ?_
    refine RA.getf rfl ho rfl h2 ?_
    refine RA.steps (i' := 7) (L' := [some (.ref (82 + 2 * u)), some (.int x), some (.int m)]) (st' := [.ref (82 + 2 * u), .int (ri h (82 + 2 * u) 2)]) (h' := h) 1 rfl ?_
    refine RA.getf rfl ho rfl h0 ?_
    refine RA.alenI rfl hp ?_
    refine RA.if2F rfl (decide_eq_false (Int32.not_lt.mpr l24)) ?_
    refine RA.steps (i' := 12) (L' := [some (.ref (82 + 2 * u)), some (.int x), some (.int m)]) (st' := [.ref (82 + 2 * u), .int x]) (h' := h) 2 rfl ?_
    refine RA.getf rfl ho rfl h2 ?_
    refine RA.if2T rfl (decide_eq_true c3) ?_
    refine RA.steps (i' := 23) (L' := [some (.ref (82 + 2 * u)), some (.int x), some (.int m)]) (st' := [.int 0]) (h' := h) 1 rfl ?_
    exact RA.ret rfl rfl
  have c4 : ri h (82 + 2 * u) 2 - x < m := Int32.not_le.mp (fun q => hn ⟨Int32.not_lt.mp c1, Int32.not_lt.mp c2, Int32.not_lt.mp c3, q⟩)
  refine RA.steps (i' := 1) (L' := [some (.ref (82 + 2 * u)), some (.int x), some (.int m)]) (st' := [.int x]) (h' := h) 1 rfl ?_
  refine RA.if1F rfl (decide_eq_false c1) ?_
  refine RA.steps (i' := 3) (L' := [some (.ref (82 + 2 * u)), some (.int x), some (.int m)]) (st' := [.int m]) (h' := h) 1 rfl ?_
  refine RA.if1F rfl (decide_eq_false c2) ?_
  refine RA.steps (i' := 5) (L' := [some (.ref (82 + 2 * u)), some (.int x), some (.int m)]) (st' := [.ref (82 + 2 * u)]) (h' := h) 1 rfl ?_
  refine RA.getf rfl ho rfl h2 ?_
  refine RA.steps (i' := 7) (L' := [some (.ref (82 + 2 * u)), some (.int x), some (.int m)]) (st' := [.ref (82 + 2 * u), .int (ri h (82 + 2 * u) 2)]) (h' := h) 1 rfl ?_
  refine RA.getf rfl ho rfl h0 ?_
  refine RA.alenI rfl hp ?_
  refine RA.if2F rfl (decide_eq_false (Int32.not_lt.mpr l24)) ?_
  refine RA.steps (i' := 12) (L' := [some (.ref (82 + 2 * u)), some (.int x), some (.int m)]) (st' := [.ref (82 + 2 * u), .int x]) (h' := h) 2 rfl ?_
  refine RA.getf rfl ho rfl h2 ?_
  refine RA.if2F rfl (decide_eq_false c3) ?_
  refine RA.steps (i' := 16) (L' := [some (.ref (82 + 2 * u)), some (.int x), some (.int m)]) (st' := [.ref (82 + 2 * u), .int m]) (h' := h) 2 rfl ?_
  refine RA.getf rfl ho rfl h2 ?_
  refine RA.steps (i' := 19) (L' := [some (.ref (82 + 2 * u)), some (.int x), some (.int m)]) (st' := [.int ((ri h (82 + 2 * u) 2) - x), .int m]) (h' := h) 2 rfl ?_
  refine RA.if2T rfl (decide_eq_true c4) ?_
  refine RA.steps (i' := 23) (L' := [some (.ref (82 + 2 * u)), some (.int x), some (.int m)]) (st' := [.int 0]) (h' := h) 1 rfl ?_
  exact RA.ret rfl rfl
theorem eA3 {u p K : Nat} (hu : u < 4) : (24 * nI u + nI p + nI K : Int32) = nI (24 * u + p + K) := by
  rw [eAdr hu, nI_add]
/-- the first loop of the reference -/
theorem cp_l1 {u p v a n : Nat} {T c : Nat → Int32} {fs : List Value} (f28 : fs[28]? = some (.ref 127)) (f6 : fs[6]? = some (.ref 116)) (hu : u < 4) (hn : n ≤ 24) (hpn : p + n ≤ 24) : ∀ (m K : Nat) (h : List pC) (res : pR), K + m = n → pobj h 110 = some (8, fs) → pint h 116 = some (96, T) → pint h 127 = some (24, cpN K (fun j => T (24 * u + p + j)) c) → RA prog E pV1 120 mX8_copy 84 [some (.ref 110), some (.int (nI u)), some (.int (nI p)), some (.int (nI v)), some (.int (nI a)), some (.int (nI n)), some (.int (nI n))] [] (h.set 127 (.inl (24, cpN n (fun j => T (24 * u + p + j)) c))) res → RA prog E pV1 120 mX8_copy 65 [some (.ref 110), some (.int (nI u)), some (.int (nI p)), some (.int (nI v)), some (.int (nI a)), some (.int (nI n)), some (.int (nI K))] [] h res := by
  intro m
  induction m with
  | zero =>
    intro K h res hK ho8 h1 h2 k
    obtain rfl : K = n := by omega
    rw [set_sameI h2] at k
    refine RA.steps (i' := 67) (L' := [some (.ref 110), some (.int (nI u)), some (.int (nI p)), some (.int (nI v)), some (.int (nI a)), some (.int (nI K)), some (.int (nI K))]) (st' := [.int (nI K), .int (nI K)]) (h' := h) 2 rfl ?_
    exact RA.if2T rfl (decide_eq_true (Int32.le_refl _)) k
  | succ m ih =>
    intro K h res hK ho8 h1 h2 k
    have hK2 : K < n := by omega
    obtain ⟨k0, kc⟩ := nI_cl (k := K) (by omega)
    obtain ⟨i0, ic⟩ := nI_cl (k := 24 * u + p + K) (by omega)
    have key := ih (K + 1) (h.set 127 (.inl (24, va_up (cpN K (fun j => T (24 * u + p + j)) c) (nI K).toNatClampNeg (T (nI (24 * u + p + K)).toNatClampNeg)))) res (by omega) ((pobj_ne (by decide)).trans ho8) ((pint_ne (by decide)).trans h1) (by rw [kc, ic, show va_up (cpN K (fun j => T (24 * u + p + j)) c) K (T (24 * u + p + K)) = cpN (K + 1) (fun j => T (24 * u + p + j)) c from cpN_S K (fun j => T (24 * u + p + j)) c]; exact pint_set (pint_lt h2)) (by rw [List.set_set]; exact k)
    refine RA.steps (i' := 67) (L' := [some (.ref 110), some (.int (nI u)), some (.int (nI p)), some (.int (nI v)), some (.int (nI a)), some (.int (nI n)), some (.int (nI K))]) (st' := [.int (nI n), .int (nI K)]) (h' := h) 2 rfl ?_
    refine RA.if2F rfl (decide_eq_false (show ¬ nI n ≤ nI K from nI_ge hK2 (by omega))) ?_
    refine RA.steps (i' := 69) (L' := [some (.ref 110), some (.int (nI u)), some (.int (nI p)), some (.int (nI v)), some (.int (nI a)), some (.int (nI n)), some (.int (nI K))]) (st' := [.ref 110]) (h' := h) 1 rfl ?_
    refine RA.getf rfl ho8 rfl f28 ?_
    refine RA.steps (i' := 72) (L' := [some (.ref 110), some (.int (nI u)), some (.int (nI p)), some (.int (nI v)), some (.int (nI a)), some (.int (nI n)), some (.int (nI K))]) (st' := [.ref 110, .int (nI K), .ref 127]) (h' := h) 2 rfl ?_
    refine RA.getf rfl ho8 rfl f6 ?_
    refine RA.steps (i' := 80) (L' := [some (.ref 110), some (.int (nI u)), some (.int (nI p)), some (.int (nI v)), some (.int (nI a)), some (.int (nI n)), some (.int (nI K))]) (st' := [.int (((24 * (nI u)) + (nI p)) + (nI K)), .ref 116, .int (nI K), .ref 127]) (h' := h) 7 rfl ?_
    rw [(eA3 hu)]
    refine RA.iald rfl h1 ⟨i0, by rw [ic]; show 24 * u + p + K < 96; omega⟩ rfl ?_
    refine RA.iast rfl h2 ⟨k0, by rw [kc]; show K < 24; omega⟩ ?_
    refine RA.iinc rfl rfl (nI_1 K) rfl ?_
    refine RA.steps (i' := 65) (L' := [some (.ref 110), some (.int (nI u)), some (.int (nI p)), some (.int (nI v)), some (.int (nI a)), some (.int (nI n)), some (.int (nI (K + 1)))]) (st' := []) (h' := (h.set 127 (.inl (24, va_up (cpN K (fun j => T (24 * u + p + j)) c) (nI K).toNatClampNeg (T (nI (24 * u + p + K)).toNatClampNeg))))) 1 rfl ?_
    exact key
theorem cpy_S {D T : Nat → Int32} {t K : Nat} : va_up (va_cpy D T 0 t K) (t + K) (D K) = va_cpy D T 0 t (K + 1) := by
  funext j
  unfold va_up va_cpy
  by_cases e : j = t + K
  · subst e
    rw [if_pos rfl, if_pos ⟨by omega, by omega⟩]
    exact congrArg D (by omega)
  · rw [if_neg e]
    by_cases q : t ≤ j ∧ j < t + K
    · rw [if_pos q, if_pos ⟨q.1, by omega⟩]
    · rw [if_neg q, if_neg (fun z => q ⟨z.1, by omega⟩)]
theorem cpy_0 {D T : Nat → Int32} {t : Nat} : va_cpy D T 0 t 0 = T := by
  funext j
  unfold va_cpy
  rw [if_neg (by omega)]
/-- the second one -/
theorem cp_l2 {u p v a n : Nat} {D T : Nat → Int32} {fs : List Value} (f28 : fs[28]? = some (.ref 127)) (f6 : fs[6]? = some (.ref 116)) (hv : v < 4) (hn : n ≤ 24) (han : a + n ≤ 24) : ∀ (m K : Nat) (h : List pC), K + m = n → pobj h 110 = some (8, fs) → pint h 127 = some (24, D) → pint h 116 = some (96, va_cpy D T 0 (24 * v + a) K) → RA prog E pV1 120 mX8_copy 86 [some (.ref 110), some (.int (nI u)), some (.int (nI p)), some (.int (nI v)), some (.int (nI a)), some (.int (nI n)), some (.int (nI K))] [] h (some (.int (nI n)), h.set 116 (.inl (96, va_cpy D T 0 (24 * v + a) n)), 0, 0) := by
  intro m
  induction m with
  | zero =>
    intro K h hK ho8 h2 h1
    obtain rfl : K = n := by omega
    rw [set_sameI h1]
    refine RA.steps (i' := 88) (L' := [some (.ref 110), some (.int (nI u)), some (.int (nI p)), some (.int (nI v)), some (.int (nI a)), some (.int (nI K)), some (.int (nI K))]) (st' := [.int (nI K), .int (nI K)]) (h' := h) 2 rfl ?_
    refine RA.if2T rfl (decide_eq_true (Int32.le_refl _)) ?_
    refine RA.steps (i' := 106) (L' := [some (.ref 110), some (.int (nI u)), some (.int (nI p)), some (.int (nI v)), some (.int (nI a)), some (.int (nI K)), some (.int (nI K))]) (st' := [.int (nI K)]) (h' := h) 1 rfl ?_
    exact RA.ret rfl rfl
  | succ m ih =>
    intro K h hK ho8 h2 h1
    have hK2 : K < n := by omega
    obtain ⟨k0, kc⟩ := nI_cl (k := K) (by omega)
    obtain ⟨i0, ic⟩ := nI_cl (k := 24 * v + a + K) (by omega)
    have key := ih (K + 1) (h.set 116 (.inl (96, va_up (va_cpy D T 0 (24 * v + a) K) (nI (24 * v + a + K)).toNatClampNeg (D (nI K).toNatClampNeg)))) (by omega) ((pobj_ne (by decide)).trans ho8) ((pint_ne (by decide)).trans h2) (by rw [kc, ic, cpy_S]; exact pint_set (pint_lt h1))
    rw [List.set_set] at key
    refine RA.steps (i' := 88) (L' := [some (.ref 110), some (.int (nI u)), some (.int (nI p)), some (.int (nI v)), some (.int (nI a)), some (.int (nI n)), some (.int (nI K))]) (st' := [.int (nI n), .int (nI K)]) (h' := h) 2 rfl ?_
    refine RA.if2F rfl (decide_eq_false (show ¬ nI n ≤ nI K from nI_ge hK2 (by omega))) ?_
    refine RA.steps (i' := 90) (L' := [some (.ref 110), some (.int (nI u)), some (.int (nI p)), some (.int (nI v)), some (.int (nI a)), some (.int (nI n)), some (.int (nI K))]) (st' := [.ref 110]) (h' := h) 1 rfl ?_
    refine RA.getf rfl ho8 rfl f6 ?_
    refine RA.steps (i' := 98) (L' := [some (.ref 110), some (.int (nI u)), some (.int (nI p)), some (.int (nI v)), some (.int (nI a)), some (.int (nI n)), some (.int (nI K))]) (st' := [.int (((24 * (nI v)) + (nI a)) + (nI K)), .ref 116]) (h' := h) 7 rfl ?_
    rw [(eA3 hv)]
    refine RA.steps (i' := 99) (L' := [some (.ref 110), some (.int (nI u)), some (.int (nI p)), some (.int (nI v)), some (.int (nI a)), some (.int (nI n)), some (.int (nI K))]) (st' := [.ref 110, .int (nI (24 * v + a + K)), .ref 116]) (h' := h) 1 rfl ?_
    refine RA.getf rfl ho8 rfl f28 ?_
    refine RA.steps (i' := 101) (L' := [some (.ref 110), some (.int (nI u)), some (.int (nI p)), some (.int (nI v)), some (.int (nI a)), some (.int (nI n)), some (.int (nI K))]) (st' := [.int (nI K), .ref 127, .int (nI (24 * v + a + K)), .ref 116]) (h' := h) 1 rfl ?_
    refine RA.iald rfl h2 ⟨k0, by rw [kc]; show K < 24; omega⟩ rfl ?_
    refine RA.iast rfl h1 ⟨i0, by rw [ic]; show 24 * v + a + K < 96; omega⟩ ?_
    refine RA.iinc rfl rfl (nI_1 K) rfl ?_
    refine RA.steps (i' := 86) (L' := [some (.ref 110), some (.int (nI u)), some (.int (nI p)), some (.int (nI v)), some (.int (nI a)), some (.int (nI n)), some (.int (nI (K + 1)))]) (st' := []) (h' := (h.set 116 (.inl (96, va_up (va_cpy D T 0 (24 * v + a) K) (nI (24 * v + a + K)).toNatClampNeg (D (nI K).toNatClampNeg))))) 1 rfl ?_
    exact key
theorem lsumT {a b c : Int32} (ha : 0 ≤ a.toInt) (hb : 0 ≤ b.toInt) (h : (0 : Int32) < lg_cmp (a.toInt64 + b.toInt64) c.toInt64) : c.toInt < a.toInt + b.toInt := by
  have h1 : ¬ a.toInt64 + b.toInt64 ≤ c.toInt64 := fun q => absurd ((lgc_le' _ _).mpr q) (Int32.not_le.mpr h)
  have h2 : ¬ (a.toInt64 + b.toInt64).toInt ≤ c.toInt64.toInt := fun q => h1 (Int64.le_iff_toInt_le.mpr q)
  have u1 := i32_hi a
  have u2 := i32_hi b
  unfold MI at u1 u2
  rw [Int64.toInt_add, Int32.toInt_toInt64, Int32.toInt_toInt64, Int32.toInt_toInt64, bm64 (by omega) (by omega)] at h2
  omega
/-- the places are there -/
def CpP (p a m lf lt : Int) : Prop := 0 ≤ p ∧ 0 ≤ a ∧ 0 ≤ m ∧ p + m ≤ lf ∧ a + m ≤ lt
theorem cp_31 {u v : Nat} {x2 x4 x5 : Int32} (hh : HI HT h) (hu : u < 4) (hv : v < 4) : ∀ res : pR, (CpP x2.toInt x4.toInt x5.toInt (ri h 115 u).toInt (ri h 115 v).toInt → RA prog E pV1 120 mX8_copy 63 [some (.ref 110), some (.int (nI u)), some (.int x2), some (.int (nI v)), some (.int x4), some (.int x5), none] [] h res) → (¬ CpP x2.toInt x4.toInt x5.toInt (ri h 115 u).toInt (ri h 115 v).toInt → res = (some (.int (-1000000013)), h, 0, 0)) → RA prog E pV1 120 mX8_copy 31 [some (.ref 110), some (.int (nI u)), some (.int x2), some (.int (nI v)), some (.int x4), some (.int x5), none] [] h res := by
  intro res k1 k2
  obtain ⟨fs8, ho8, hF8⟩ := hi_obj hh (a := 110) rfl
  obtain ⟨gZ_, pZ, uZ, -⟩ := hi_int (a := 115) (n := 4) (sg := [(0, 3, 0, 24)]) hh rfl
  have bu : 0 ≤ nI u ∧ (nI u).toNatClampNeg < 4 := ⟨(nI_cl (by omega)).1, by rw [(nI_cl (by omega)).2]; exact hu⟩
  have bv : 0 ≤ nI v ∧ (nI v).toNatClampNeg < 4 := ⟨(nI_cl (by omega)).1, by rw [(nI_cl (by omega)).2]; exact hv⟩
  have eu : gZ_ (nI u).toNatClampNeg = ri h 115 u := by rw [(nI_cl (by omega)).2]; exact (uZ u hu).symm
  have ev : gZ_ (nI v).toNatClampNeg = ri h 115 v := by rw [(nI_cl (by omega)).2]; exact (uZ v hv).symm
  have bad : ¬ CpP x2.toInt x4.toInt x5.toInt (ri h 115 u).toInt (ri h 115 v).toInt → RA prog E pV1 120 mX8_copy 61 [some (.ref 110), some (.int (nI u)), some (.int x2), some (.int (nI v)), some (.int x4), some (.int x5), none] [] h res := fun c => by
    rw [k2 c]
    refine RA.steps (i' := 62) (L' := [some (.ref 110), some (.int (nI u)), some (.int x2), some (.int (nI v)), some (.int x4), some (.int x5), none]) (st' := [.int (-1000000013)]) (h' := h) 1 rfl ?_
    exact RA.ret rfl rfl
  have neg : ∀ v : Int32, v < 0 → v.toInt < 0 := fun v q => Int32.lt_iff_toInt_lt.mp q
  refine RA.steps (i' := 32) (L' := [some (.ref 110), some (.int (nI u)), some (.int x2), some (.int (nI v)), some (.int x4), some (.int x5), none]) (st' := [.int x2]) (h' := h) 1 rfl ?_
  by_cases c2 : x2 < 0
  · exact RA.if1T rfl (decide_eq_true c2) (bad (fun q => by have := neg _ c2; have := q.1; omega))
  refine RA.if1F rfl (decide_eq_false c2) ?_
  refine RA.steps (i' := 34) (L' := [some (.ref 110), some (.int (nI u)), some (.int x2), some (.int (nI v)), some (.int x4), some (.int x5), none]) (st' := [.int x4]) (h' := h) 1 rfl ?_
  by_cases c4 : x4 < 0
  · exact RA.if1T rfl (decide_eq_true c4) (bad (fun q => by have := neg _ c4; have := q.2.1; omega))
  refine RA.if1F rfl (decide_eq_false c4) ?_
  refine RA.steps (i' := 36) (L' := [some (.ref 110), some (.int (nI u)), some (.int x2), some (.int (nI v)), some (.int x4), some (.int x5), none]) (st' := [.int x5]) (h' := h) 1 rfl ?_
  by_cases c5 : x5 < 0
  · exact RA.if1T rfl (decide_eq_true c5) (bad (fun q => by have := neg _ c5; have := q.2.2.1; omega))
  refine RA.if1F rfl (decide_eq_false c5) ?_
  have z2 := i0_of c2
  have z4 := i0_of c4
  have z5 := i0_of c5
  refine RA.steps (i' := 43) (L' := [some (.ref 110), some (.int (nI u)), some (.int x2), some (.int (nI v)), some (.int x4), some (.int x5), none]) (st' := [.ref 110, .long (x2.toInt64 + x5.toInt64)]) (h' := h) 6 rfl ?_
  refine RA.getf rfl ho8 rfl (hF8.ref (k := 5) rfl) ?_
  refine RA.steps (i' := 45) (L' := [some (.ref 110), some (.int (nI u)), some (.int x2), some (.int (nI v)), some (.int x4), some (.int x5), none]) (st' := [.int (nI u), .ref 115, .long (x2.toInt64 + x5.toInt64)]) (h' := h) 1 rfl ?_
  refine RA.iald rfl pZ bu eu ?_
  refine RA.steps (i' := 48) (L' := [some (.ref 110), some (.int (nI u)), some (.int x2), some (.int (nI v)), some (.int x4), some (.int x5), none]) (st' := [.int (lg_cmp (x2.toInt64 + x5.toInt64) (ri h 115 u).toInt64)]) (h' := h) 2 rfl ?_
  by_cases c6 : (0 : Int32) < lg_cmp (x2.toInt64 + x5.toInt64) (ri h 115 u).toInt64
  · exact RA.if1T rfl (decide_eq_true c6) (bad (fun q => by have := lsumT z2 z5 c6; have := q.2.2.2.1; omega))
  refine RA.if1F rfl (decide_eq_false c6) ?_
  refine RA.steps (i' := 55) (L' := [some (.ref 110), some (.int (nI u)), some (.int x2), some (.int (nI v)), some (.int x4), some (.int x5), none]) (st' := [.ref 110, .long (x4.toInt64 + x5.toInt64)]) (h' := h) 6 rfl ?_
  refine RA.getf rfl ho8 rfl (hF8.ref (k := 5) rfl) ?_
  refine RA.steps (i' := 57) (L' := [some (.ref 110), some (.int (nI u)), some (.int x2), some (.int (nI v)), some (.int x4), some (.int x5), none]) (st' := [.int (nI v), .ref 115, .long (x4.toInt64 + x5.toInt64)]) (h' := h) 1 rfl ?_
  refine RA.iald rfl pZ bv ev ?_
  refine RA.steps (i' := 60) (L' := [some (.ref 110), some (.int (nI u)), some (.int x2), some (.int (nI v)), some (.int x4), some (.int x5), none]) (st' := [.int (lg_cmp (x4.toInt64 + x5.toInt64) (ri h 115 v).toInt64)]) (h' := h) 2 rfl ?_
  by_cases c7 : (0 : Int32) < lg_cmp (x4.toInt64 + x5.toInt64) (ri h 115 v).toInt64
  · exact RA.if1F rfl (decide_eq_false (Int32.not_le.mpr c7)) (bad (fun q => by have := lsumT z4 z5 c7; have := q.2.2.2.2; omega))
  exact RA.if1T rfl (decide_eq_true (Int32.not_lt.mp c7)) (k1 ⟨z2, z4, z5, lsum z2 z5 c6, lsum z4 z5 c7⟩)
theorem sub_i {a b : Int32} (h0 : 0 ≤ b.toInt) (h1 : b.toInt ≤ a.toInt) : (a - b).toInt = a.toInt - b.toInt := by
  have := i32_hi a
  unfold MI at this
  rw [Int32.toInt_sub]
  exact bm32 (by unfold mI; omega) (by unfold MI; omega)
theorem ha_iff {x m l : Int32} : HA x m l ↔ 0 ≤ x.toInt ∧ 0 ≤ m.toInt ∧ x.toInt + m.toInt ≤ l.toInt := by
  have t0 : (0 : Int32).toInt = 0 := by decide
  unfold HA
  rw [Int32.le_iff_toInt_le, Int32.le_iff_toInt_le, Int32.le_iff_toInt_le, Int32.le_iff_toInt_le, t0]
  constructor
  · intro ⟨a, b, c, e⟩
    rw [sub_i a c] at e
    exact ⟨a, b, by omega⟩
  · intro ⟨a, b, c⟩
    refine ⟨a, b, by omega, ?_⟩
    rw [sub_i a (by omega)]
    omega
theorem cpN_lt {α : Type} {N j : Nat} {f g : Nat → α} (h : j < N) : cpN N f g j = f j := if_pos h
/-- places come: what they are on both sides -/
theorem copy_go {u v p a n : Nat} {f g : Nat → Int32} (hh : HI HT h) (hj : JT h) (hr : RV h) (hs : RSS h) (hu : u < 4) (hv : v < 4) (hp : p + n ≤ 24) (ha : a + n ≤ 24) (pu : pint h (83 + 2 * u) = some (24, f)) (pv : pint h (83 + 2 * v) = some (24, g)) (q1 : Run prog E pV1 120 mX7_copy [.ref 0, .int (nI u), .int (nI p), .int (nI v), .int (nI a), .int (nI n)] h (some (.int (nI n)), h.set (83 + 2 * v) (.inl (24, va_cpy f g p a n)), 0, 0))
    (q2 : ∀ h1 : List pC, HI HT h1 → (∀ w : Nat, w < 4 → ri h1 114 w = ri h 114 w ∧ ri h1 115 w = ri h 115 w) → ∀ T D : Nat → Int32, pint h1 116 = some (96, T) → pint h1 127 = some (24, D) → Run prog E pV1 120 mX8_copy [.ref 110, .int (nI u), .int (nI p), .int (nI v), .int (nI a), .int (nI n)] h1 (some (.int (nI n)), (h1.set 127 (.inl (24, cpN n (fun j => T (24 * u + p + j)) D))).set 116 (.inl (96, va_cpy (cpN n (fun j => T (24 * u + p + j)) D) T 0 (24 * v + a) n)), 0, 0)) : TwoV E mX7_copy mX8_copy [.ref 0, .int (nI u), .int (nI p), .int (nI v), .int (nI a), .int (nI n)] [.ref 110, .int (nI u), .int (nI p), .int (nI v), .int (nI a), .int (nI n)] h WMc WCo := by
  have _ := hs
  obtain ⟨r1, h1, k1, hh1, f1, hj1⟩ := pub_of (E := E) (a := 0) (kg_c_copyF) (N := mX7_copy) rfl (List.cons_ne_nil _ _) [nI u, nI p, nI v, nI a, nI n] rfl (fun q => by cases q) (Nat.le_of_ble_eq_true rfl) hh hj
  have e1 := Run.det q1 k1
  obtain rfl : h.set (83 + 2 * v) (.inl (24, va_cpy f g p a n)) = h1 := (Prod.mk.inj (Prod.mk.inj e1).2).1
  have f1' : Fr WMc h (h.set (83 + 2 * v) (.inl (24, va_cpy f g p a n))) := f1
  have fz : ∀ b i, b = 114 ∨ b = 115 ∨ b = 116 → ri (h.set (83 + 2 * v) (.inl (24, va_cpy f g p a n))) b i = ri h b i := fun b i hb => ri_setN (by omega)
  obtain ⟨T, pT, uT, -⟩ := hi_int (a := 116) (n := 96) (sg := []) hh1 rfl
  obtain ⟨D, pD, -, -⟩ := hi_int (a := 127) (n := 24) (sg := []) hh1 rfl
  have k2 := q2 _ hh1 (fun w _ => ⟨fz _ _ (Or.inl rfl), fz _ _ (Or.inr (Or.inl rfl))⟩) T D pT pD
  obtain ⟨r2, h2, k3, hh2, f2, hj2⟩ := pub_of (E := E) (a := 110) hd_copy (N := mX8_copy) rfl (List.cons_ne_nil _ _) [nI u, nI p, nI v, nI a, nI n] rfl (fun q => by cases q) (Nat.le_of_ble_eq_true rfl) hh1 hj1
  have e2 := Run.det k2 k3
  obtain rfl : ((h.set (83 + 2 * v) (.inl (24, va_cpy f g p a n))).set 127 (.inl (24, cpN n (fun j => T (24 * u + p + j)) D))).set 116 (.inl (96, va_cpy (cpN n (fun j => T (24 * u + p + j)) D) T 0 (24 * v + a) n)) = h2 := (Prod.mk.inj (Prod.mk.inj e2).2).1
  have hvb : VB h → VB (((h.set (83 + 2 * v) (.inl (24, va_cpy f g p a n))).set 127 (.inl (24, cpN n (fun j => T (24 * u + p + j)) D))).set 116 (.inl (96, va_cpy (cpN n (fun j => T (24 * u + p + j)) D) T 0 (24 * v + a) n))) := fun vb w j hw hj24 => by
    obtain ⟨fu, pu', uu⟩ := vals_at hh u hu
    have eu : fu = f := (Prod.mk.inj (Option.some.inj (pu'.symm.trans pu))).2
    obtain ⟨gv, pv', uv⟩ := vals_at hh v hv
    have ev : gv = g := (Prod.mk.inj (Option.some.inj (pv'.symm.trans pv))).2
    rw [eu] at uu
    rw [ev] at uv
    rw [ri_setN (show ¬ 116 = 83 + 2 * w by omega), ri_setN (show ¬ 127 = 83 + 2 * w by omega)]
    by_cases e : w = v
    · rw [e, ri_setI pv hj24]
      by_cases c : a ≤ j ∧ j < a + n
      · rw [pk_cpy_in c.1 c.2, ← uu (p + (j - a)) (by omega)]
        exact vb u (p + (j - a)) hu (by omega)
      · rw [pk_cpy_out (show j < a ∨ a + n ≤ j by omega), ← uv j hj24]
        exact vb v j hv hj24
    · rw [ri_setN (show ¬ 83 + 2 * v = 83 + 2 * w by omega)]
      exact vb w j hw hj24
  refine ⟨nI n, _, _, q1, k2, hh1, hh2, hj2, f1', f2, fun w j hw hj24 => ?_, hvb⟩
  have pT' : pint ((h.set (83 + 2 * v) (.inl (24, va_cpy f g p a n))).set 127 (.inl (24, cpN n (fun j => T (24 * u + p + j)) D))) 116 = some (96, T) := (pint_ne (by decide)).trans pT
  have g0 : ∀ i : Nat, i < 96 → T i = ri h 116 i := fun i hi => by
    rw [← uT i hi]
    exact fz _ _ (Or.inr (Or.inr rfl))
  rw [ri_setI pT' (show 24 * w + j < 96 by omega), ri_setN (show ¬ 116 = 83 + 2 * w by omega), ri_setN (show ¬ 127 = 83 + 2 * w by omega)]
  obtain ⟨fu, pu', uu⟩ := vals_at hh u hu
  obtain rfl : fu = f := (Prod.mk.inj (Option.some.inj (pu'.symm.trans pu))).2
  obtain ⟨gv, pv', uv⟩ := vals_at hh v hv
  obtain rfl : gv = g := (Prod.mk.inj (Option.some.inj (pv'.symm.trans pv))).2
  by_cases e : w = v
  · subst e
    rw [ri_setI pv hj24]
    by_cases c : a ≤ j ∧ j < a + n
    · rw [pk_cpy_in c.1 c.2, pk_cpy_in (show 24 * w + a ≤ 24 * w + j by omega) (show 24 * w + j < 24 * w + a + n by omega)]
      rw [cpN_lt (show 0 + (24 * w + j - (24 * w + a)) < n by omega), g0 _ (by omega), ← uu _ (by omega)]
      rw [show 24 * u + p + (0 + (24 * w + j - (24 * w + a))) = 24 * u + (p + (j - a)) by omega]
      exact hr u (p + (j - a)) hu (by omega)
    · rw [pk_cpy_out (show j < a ∨ a + n ≤ j by omega), pk_cpy_out (show 24 * w + j < 24 * w + a ∨ 24 * w + a + n ≤ 24 * w + j by omega), g0 _ (by omega), ← uv j hj24]
      exact hr w j hw hj24
  · rw [ri_setN (show ¬ 83 + 2 * v = 83 + 2 * w by omega), pk_cpy_out (show 24 * w + j < 24 * v + a ∨ 24 * v + a + n ≤ 24 * w + j by omega), g0 _ (by omega)]
    exact hr w j hw hj24
theorem copy_val (x1 x2 x3 x4 x5 : Int32) (hh : HI HT h) (hj : JT h) (hs : RSS h) (hv_ : RV h) : TwoV E mX7_copy mX8_copy [.ref 0, .int x1, .int x2, .int x3, .int x4, .int x5] [.ref 110, .int x1, .int x2, .int x3, .int x4, .int x5] h WMc WCo := by
  have t0 : (0 : Int32).toInt = 0 := by decide
  have t3 : (3 : Int32).toInt = 3 := by decide
  obtain ⟨fs0, ho0, hF0⟩ := hi_obj hh (a := 0) rfl
  obtain ⟨fs8, ho8, hF8⟩ := hi_obj hh (a := 110) rfl
  obtain ⟨gS_, pS, uS, -⟩ := hi_int (a := 114) (n := 4) (sg := [(0, 3, -1, 1)]) hh rfl
  have dec : ∀ x : Int32, (∃ u : Nat, u < 4 ∧ x = nI u ∧ (0 : Int32) ≤ nI u ∧ nI u ≤ 3) ∨ ((x.toInt < 0 ∨ 4 ≤ x.toInt) ∧ ¬ ((0 : Int32) ≤ x ∧ x ≤ 3)) := fun x => by
    by_cases hn : x.toInt < 0 ∨ 4 ≤ x.toInt
    · exact Or.inr ⟨hn, fun q => by
        have q1 := Int32.le_iff_toInt_le.mp q.1
        have q2 := Int32.le_iff_toInt_le.mp q.2
        omega⟩
    · obtain ⟨u, rfl, hu0⟩ := nIof (x := x) (by omega) (by omega)
      exact Or.inl ⟨u, by omega, rfl, (nI_cl (by omega)).1, Int32.le_iff_toInt_le.mpr (by omega)⟩
  rcases dec x1 with ⟨u, hu, rfl, s1⟩ | ⟨n1, s1⟩
  rotate_left
  · rcases dec x3 with ⟨v, hv, rfl, s3⟩ | ⟨n3, s3⟩
    · skip
      refine copy_same hh hj hv_ (v := -1000000001) ⟨Nat.le_of_ble_eq_true rfl, ⟨_, _, rfl⟩, ?_⟩ ⟨Nat.le_of_ble_eq_true rfl, ⟨_, _, rfl⟩, ?_⟩
      · show RA prog E pV1 120 mX7_copy 0 [some (.ref 0), some (.int x1), some (.int x2), some (.int (nI v)), some (.int x4), some (.int x5), none, none] [] h (some (.int (-1000000001)), h, 0, 0)
        refine RA.steps (i' := 2) (L' := [some (.ref 0), some (.int x1), some (.int x2), some (.int (nI v)), some (.int x4), some (.int x5), none, none]) (st' := [.int x1, .ref 0]) (h' := h) 2 rfl ?_
        refine RA.call0 (N := mX7_rowOf) (as := [.ref 0, .int x1]) (rest := []) rfl rfl (pcallV rfl rfl ho0 rfl rfl (Nat.le_of_ble_eq_true rfl)) (rowOf_n (d := 118) hh n1) ?_
        refine RA.steps (i' := 6) (L' := [some (.ref 0), some (.int x1), some (.int x2), some (.int (nI v)), some (.int x4), some (.int x5), some (.null), none]) (st' := [.int (nI v), .ref 0]) (h' := h) 3 rfl ?_
        refine RA.call0 (N := mX7_rowOf) (as := [.ref 0, .int (nI v)]) (rest := []) rfl rfl (pcallV rfl rfl ho0 rfl rfl (Nat.le_of_ble_eq_true rfl)) (rowOf_x (d := 118) hh hv) ?_
        refine RA.steps (i' := 13) (L' := [some (.ref 0), some (.int x1), some (.int x2), some (.int (nI v)), some (.int x4), some (.int x5), some (.null), some (.ref (82 + 2 * v))]) (st' := [.int (-1000000001)]) (h' := h) 4 rfl ?_
        exact RA.ret rfl rfl
      · show RA prog E pV1 120 mX8_copy 0 [some (.ref 110), some (.int x1), some (.int x2), some (.int (nI v)), some (.int x4), some (.int x5), none] [] h (some (.int (-1000000001)), h, 0, 0)
        refine RA.steps (i' := 1) (L' := [some (.ref 110), some (.int x1), some (.int x2), some (.int (nI v)), some (.int x4), some (.int x5), none]) (st' := [.int x1]) (h' := h) 1 rfl ?_
        refine RA.call0 (N := mX8_isSheet) (as := [.int x1]) (rest := []) rfl rfl rfl (isSh_f (d := 117) s1) ?_
        refine RA.if1T rfl rfl ?_
        refine RA.steps (i' := 7) (L' := [some (.ref 110), some (.int x1), some (.int x2), some (.int (nI v)), some (.int x4), some (.int x5), none]) (st' := [.int (-1000000001)]) (h' := h) 1 rfl ?_
        exact RA.ret rfl rfl
    · skip
      refine copy_same hh hj hv_ (v := -1000000001) ⟨Nat.le_of_ble_eq_true rfl, ⟨_, _, rfl⟩, ?_⟩ ⟨Nat.le_of_ble_eq_true rfl, ⟨_, _, rfl⟩, ?_⟩
      · show RA prog E pV1 120 mX7_copy 0 [some (.ref 0), some (.int x1), some (.int x2), some (.int x3), some (.int x4), some (.int x5), none, none] [] h (some (.int (-1000000001)), h, 0, 0)
        refine RA.steps (i' := 2) (L' := [some (.ref 0), some (.int x1), some (.int x2), some (.int x3), some (.int x4), some (.int x5), none, none]) (st' := [.int x1, .ref 0]) (h' := h) 2 rfl ?_
        refine RA.call0 (N := mX7_rowOf) (as := [.ref 0, .int x1]) (rest := []) rfl rfl (pcallV rfl rfl ho0 rfl rfl (Nat.le_of_ble_eq_true rfl)) (rowOf_n (d := 118) hh n1) ?_
        refine RA.steps (i' := 6) (L' := [some (.ref 0), some (.int x1), some (.int x2), some (.int x3), some (.int x4), some (.int x5), some (.null), none]) (st' := [.int x3, .ref 0]) (h' := h) 3 rfl ?_
        refine RA.call0 (N := mX7_rowOf) (as := [.ref 0, .int x3]) (rest := []) rfl rfl (pcallV rfl rfl ho0 rfl rfl (Nat.le_of_ble_eq_true rfl)) (rowOf_n (d := 118) hh n3) ?_
        refine RA.steps (i' := 13) (L' := [some (.ref 0), some (.int x1), some (.int x2), some (.int x3), some (.int x4), some (.int x5), some (.null), some (.null)]) (st' := [.int (-1000000001)]) (h' := h) 4 rfl ?_
        exact RA.ret rfl rfl
      · show RA prog E pV1 120 mX8_copy 0 [some (.ref 110), some (.int x1), some (.int x2), some (.int x3), some (.int x4), some (.int x5), none] [] h (some (.int (-1000000001)), h, 0, 0)
        refine RA.steps (i' := 1) (L' := [some (.ref 110), some (.int x1), some (.int x2), some (.int x3), some (.int x4), some (.int x5), none]) (st' := [.int x1]) (h' := h) 1 rfl ?_
        refine RA.call0 (N := mX8_isSheet) (as := [.int x1]) (rest := []) rfl rfl rfl (isSh_f (d := 117) s1) ?_
        refine RA.if1T rfl rfl ?_
        refine RA.steps (i' := 7) (L' := [some (.ref 110), some (.int x1), some (.int x2), some (.int x3), some (.int x4), some (.int x5), none]) (st' := [.int (-1000000001)]) (h' := h) 1 rfl ?_
        exact RA.ret rfl rfl
  rcases dec x3 with ⟨v, hv, rfl, s3⟩ | ⟨n3, s3⟩
  rotate_left
  · skip
    refine copy_same hh hj hv_ (v := -1000000001) ⟨Nat.le_of_ble_eq_true rfl, ⟨_, _, rfl⟩, ?_⟩ ⟨Nat.le_of_ble_eq_true rfl, ⟨_, _, rfl⟩, ?_⟩
    · show RA prog E pV1 120 mX7_copy 0 [some (.ref 0), some (.int (nI u)), some (.int x2), some (.int x3), some (.int x4), some (.int x5), none, none] [] h (some (.int (-1000000001)), h, 0, 0)
      refine RA.steps (i' := 2) (L' := [some (.ref 0), some (.int (nI u)), some (.int x2), some (.int x3), some (.int x4), some (.int x5), none, none]) (st' := [.int (nI u), .ref 0]) (h' := h) 2 rfl ?_
      refine RA.call0 (N := mX7_rowOf) (as := [.ref 0, .int (nI u)]) (rest := []) rfl rfl (pcallV rfl rfl ho0 rfl rfl (Nat.le_of_ble_eq_true rfl)) (rowOf_x (d := 118) hh hu) ?_
      refine RA.steps (i' := 6) (L' := [some (.ref 0), some (.int (nI u)), some (.int x2), some (.int x3), some (.int x4), some (.int x5), some (.ref (82 + 2 * u)), none]) (st' := [.int x3, .ref 0]) (h' := h) 3 rfl ?_
      refine RA.call0 (N := mX7_rowOf) (as := [.ref 0, .int x3]) (rest := []) rfl rfl (pcallV rfl rfl ho0 rfl rfl (Nat.le_of_ble_eq_true rfl)) (rowOf_n (d := 118) hh n3) ?_
      refine RA.steps (i' := 13) (L' := [some (.ref 0), some (.int (nI u)), some (.int x2), some (.int x3), some (.int x4), some (.int x5), some (.ref (82 + 2 * u)), some (.null)]) (st' := [.int (-1000000001)]) (h' := h) 6 rfl ?_
      exact RA.ret rfl rfl
    · show RA prog E pV1 120 mX8_copy 0 [some (.ref 110), some (.int (nI u)), some (.int x2), some (.int x3), some (.int x4), some (.int x5), none] [] h (some (.int (-1000000001)), h, 0, 0)
      refine RA.steps (i' := 1) (L' := [some (.ref 110), some (.int (nI u)), some (.int x2), some (.int x3), some (.int x4), some (.int x5), none]) (st' := [.int (nI u)]) (h' := h) 1 rfl ?_
      refine RA.call0 (N := mX8_isSheet) (as := [.int (nI u)]) (rest := []) rfl rfl rfl (isSh_t (d := 117) s1) ?_
      refine RA.if1F rfl rfl ?_
      refine RA.steps (i' := 4) (L' := [some (.ref 110), some (.int (nI u)), some (.int x2), some (.int x3), some (.int x4), some (.int x5), none]) (st' := [.int x3]) (h' := h) 1 rfl ?_
      refine RA.call0 (N := mX8_isSheet) (as := [.int x3]) (rest := []) rfl rfl rfl (isSh_f (d := 117) s3) ?_
      refine RA.if1F rfl rfl ?_
      refine RA.steps (i' := 7) (L' := [some (.ref 110), some (.int (nI u)), some (.int x2), some (.int x3), some (.int x4), some (.int x5), none]) (st' := [.int (-1000000001)]) (h' := h) 1 rfl ?_
      exact RA.ret rfl rfl
  obtain ⟨esu, ezu⟩ := hs u hu
  obtain ⟨esv, ezv⟩ := hs v hv
  obtain ⟨⟨su0, su1⟩, zu0, zu24⟩ := rows_ty hh u hu
  obtain ⟨⟨sv0, sv1⟩, zv0, zv24⟩ := rows_ty hh v hv
  obtain ⟨fsu, hou, ku, su, zu⟩ := row_obj hh u hu
  obtain ⟨fsv, hov, kv, sv, zv⟩ := row_obj hh v hv
  obtain ⟨f, pu, -⟩ := vals_at hh u hu
  obtain ⟨g, pv, -⟩ := vals_at hh v hv
  have bu : 0 ≤ nI u ∧ (nI u).toNatClampNeg < 4 := ⟨(nI_cl (by omega)).1, by rw [(nI_cl (by omega)).2]; exact hu⟩
  have bv : 0 ≤ nI v ∧ (nI v).toNatClampNeg < 4 := ⟨(nI_cl (by omega)).1, by rw [(nI_cl (by omega)).2]; exact hv⟩
  have eu : gS_ (nI u).toNatClampNeg = ri h 114 u := by rw [(nI_cl (by omega)).2]; exact (uS u hu).symm
  have ev : gS_ (nI v).toNatClampNeg = ri h 114 v := by rw [(nI_cl (by omega)).2]; exact (uS v hv).symm
  have pos : ∀ w : Nat, -1 ≤ (ri h 114 w).toInt → ri h (82 + 2 * w) 1 = ri h 114 w → ¬ ri h (82 + 2 * w) 1 = -1 → (0 : Int32) ≤ ri h 114 w := fun w a b c => Int32.le_iff_toInt_le.mpr (by
    have : ¬ (ri h 114 w).toInt = -1 := fun q => c (by rw [b]; exact Int32.toInt_inj.mp (q.trans (by decide)))
    omega)
  by_cases mu : ri h (82 + 2 * u) 1 = -1
  · have gu : ri h 114 u < 0 := by rw [← esu, mu]; decide
    refine copy_same hh hj hv_ (v := -1000000011) ⟨Nat.le_of_ble_eq_true rfl, ⟨_, _, rfl⟩, ?_⟩ ⟨Nat.le_of_ble_eq_true rfl, ⟨_, _, rfl⟩, ?_⟩
    · show RA prog E pV1 120 mX7_copy 0 [some (.ref 0), some (.int (nI u)), some (.int x2), some (.int (nI v)), some (.int x4), some (.int x5), none, none] [] h (some (.int (-1000000011)), h, 0, 0)
      refine RA.steps (i' := 2) (L' := [some (.ref 0), some (.int (nI u)), some (.int x2), some (.int (nI v)), some (.int x4), some (.int x5), none, none]) (st' := [.int (nI u), .ref 0]) (h' := h) 2 rfl ?_
      refine RA.call0 (N := mX7_rowOf) (as := [.ref 0, .int (nI u)]) (rest := []) rfl rfl (pcallV rfl rfl ho0 rfl rfl (Nat.le_of_ble_eq_true rfl)) (rowOf_x (d := 118) hh hu) ?_
      refine RA.steps (i' := 6) (L' := [some (.ref 0), some (.int (nI u)), some (.int x2), some (.int (nI v)), some (.int x4), some (.int x5), some (.ref (82 + 2 * u)), none]) (st' := [.int (nI v), .ref 0]) (h' := h) 3 rfl ?_
      refine RA.call0 (N := mX7_rowOf) (as := [.ref 0, .int (nI v)]) (rest := []) rfl rfl (pcallV rfl rfl ho0 rfl rfl (Nat.le_of_ble_eq_true rfl)) (rowOf_x (d := 118) hh hv) ?_
      refine RA.steps (i' := 15) (L' := [some (.ref 0), some (.int (nI u)), some (.int x2), some (.int (nI v)), some (.int x4), some (.int x5), some (.ref (82 + 2 * u)), some (.ref (82 + 2 * v))]) (st' := [.ref (82 + 2 * u)]) (h' := h) 6 rfl ?_
      refine RA.call0 (N := mX3_isMissing) (as := [.ref (82 + 2 * u)]) (rest := []) rfl rfl (pcallV rfl rfl hou rfl rfl (Nat.le_of_ble_eq_true rfl)) (isMis_t (d := 118) hh hu mu) ?_
      refine RA.if1T rfl rfl ?_
      refine RA.steps (i' := 21) (L' := [some (.ref 0), some (.int (nI u)), some (.int x2), some (.int (nI v)), some (.int x4), some (.int x5), some (.ref (82 + 2 * u)), some (.ref (82 + 2 * v))]) (st' := [.int (-1000000011)]) (h' := h) 1 rfl ?_
      exact RA.ret rfl rfl
    · show RA prog E pV1 120 mX8_copy 0 [some (.ref 110), some (.int (nI u)), some (.int x2), some (.int (nI v)), some (.int x4), some (.int x5), none] [] h (some (.int (-1000000011)), h, 0, 0)
      refine RA.steps (i' := 1) (L' := [some (.ref 110), some (.int (nI u)), some (.int x2), some (.int (nI v)), some (.int x4), some (.int x5), none]) (st' := [.int (nI u)]) (h' := h) 1 rfl ?_
      refine RA.call0 (N := mX8_isSheet) (as := [.int (nI u)]) (rest := []) rfl rfl rfl (isSh_t (d := 117) s1) ?_
      refine RA.if1F rfl rfl ?_
      refine RA.steps (i' := 4) (L' := [some (.ref 110), some (.int (nI u)), some (.int x2), some (.int (nI v)), some (.int x4), some (.int x5), none]) (st' := [.int (nI v)]) (h' := h) 1 rfl ?_
      refine RA.call0 (N := mX8_isSheet) (as := [.int (nI v)]) (rest := []) rfl rfl rfl (isSh_t (d := 117) s3) ?_
      refine RA.if1T rfl rfl ?_
      refine RA.steps (i' := 9) (L' := [some (.ref 110), some (.int (nI u)), some (.int x2), some (.int (nI v)), some (.int x4), some (.int x5), none]) (st' := [.ref 110]) (h' := h) 1 rfl ?_
      refine RA.getf rfl ho8 rfl (hF8.ref (k := 4) rfl) ?_
      refine RA.steps (i' := 11) (L' := [some (.ref 110), some (.int (nI u)), some (.int x2), some (.int (nI v)), some (.int x4), some (.int x5), none]) (st' := [.int (nI u), .ref 114]) (h' := h) 1 rfl ?_
      refine RA.iald rfl pS bu eu ?_
      refine RA.if1T rfl (decide_eq_true gu) ?_
      refine RA.steps (i' := 19) (L' := [some (.ref 110), some (.int (nI u)), some (.int x2), some (.int (nI v)), some (.int x4), some (.int x5), none]) (st' := [.int (-1000000011)]) (h' := h) 1 rfl ?_
      exact RA.ret rfl rfl
  have gu := pos u su0 esu mu
  by_cases mv : ri h (82 + 2 * v) 1 = -1
  · have gv : ¬ (0 : Int32) ≤ ri h 114 v := by rw [← esv, mv]; decide
    refine copy_same hh hj hv_ (v := -1000000011) ⟨Nat.le_of_ble_eq_true rfl, ⟨_, _, rfl⟩, ?_⟩ ⟨Nat.le_of_ble_eq_true rfl, ⟨_, _, rfl⟩, ?_⟩
    · show RA prog E pV1 120 mX7_copy 0 [some (.ref 0), some (.int (nI u)), some (.int x2), some (.int (nI v)), some (.int x4), some (.int x5), none, none] [] h (some (.int (-1000000011)), h, 0, 0)
      refine RA.steps (i' := 2) (L' := [some (.ref 0), some (.int (nI u)), some (.int x2), some (.int (nI v)), some (.int x4), some (.int x5), none, none]) (st' := [.int (nI u), .ref 0]) (h' := h) 2 rfl ?_
      refine RA.call0 (N := mX7_rowOf) (as := [.ref 0, .int (nI u)]) (rest := []) rfl rfl (pcallV rfl rfl ho0 rfl rfl (Nat.le_of_ble_eq_true rfl)) (rowOf_x (d := 118) hh hu) ?_
      refine RA.steps (i' := 6) (L' := [some (.ref 0), some (.int (nI u)), some (.int x2), some (.int (nI v)), some (.int x4), some (.int x5), some (.ref (82 + 2 * u)), none]) (st' := [.int (nI v), .ref 0]) (h' := h) 3 rfl ?_
      refine RA.call0 (N := mX7_rowOf) (as := [.ref 0, .int (nI v)]) (rest := []) rfl rfl (pcallV rfl rfl ho0 rfl rfl (Nat.le_of_ble_eq_true rfl)) (rowOf_x (d := 118) hh hv) ?_
      refine RA.steps (i' := 15) (L' := [some (.ref 0), some (.int (nI u)), some (.int x2), some (.int (nI v)), some (.int x4), some (.int x5), some (.ref (82 + 2 * u)), some (.ref (82 + 2 * v))]) (st' := [.ref (82 + 2 * u)]) (h' := h) 6 rfl ?_
      refine RA.call0 (N := mX3_isMissing) (as := [.ref (82 + 2 * u)]) (rest := []) rfl rfl (pcallV rfl rfl hou rfl rfl (Nat.le_of_ble_eq_true rfl)) (isMis_f (d := 118) hh hu mu) ?_
      refine RA.if1F rfl rfl ?_
      refine RA.steps (i' := 18) (L' := [some (.ref 0), some (.int (nI u)), some (.int x2), some (.int (nI v)), some (.int x4), some (.int x5), some (.ref (82 + 2 * u)), some (.ref (82 + 2 * v))]) (st' := [.ref (82 + 2 * v)]) (h' := h) 1 rfl ?_
      refine RA.call0 (N := mX3_isMissing) (as := [.ref (82 + 2 * v)]) (rest := []) rfl rfl (pcallV rfl rfl hov rfl rfl (Nat.le_of_ble_eq_true rfl)) (isMis_t (d := 118) hh hv mv) ?_
      refine RA.if1F rfl rfl ?_
      refine RA.steps (i' := 21) (L' := [some (.ref 0), some (.int (nI u)), some (.int x2), some (.int (nI v)), some (.int x4), some (.int x5), some (.ref (82 + 2 * u)), some (.ref (82 + 2 * v))]) (st' := [.int (-1000000011)]) (h' := h) 1 rfl ?_
      exact RA.ret rfl rfl
    · show RA prog E pV1 120 mX8_copy 0 [some (.ref 110), some (.int (nI u)), some (.int x2), some (.int (nI v)), some (.int x4), some (.int x5), none] [] h (some (.int (-1000000011)), h, 0, 0)
      refine RA.steps (i' := 1) (L' := [some (.ref 110), some (.int (nI u)), some (.int x2), some (.int (nI v)), some (.int x4), some (.int x5), none]) (st' := [.int (nI u)]) (h' := h) 1 rfl ?_
      refine RA.call0 (N := mX8_isSheet) (as := [.int (nI u)]) (rest := []) rfl rfl rfl (isSh_t (d := 117) s1) ?_
      refine RA.if1F rfl rfl ?_
      refine RA.steps (i' := 4) (L' := [some (.ref 110), some (.int (nI u)), some (.int x2), some (.int (nI v)), some (.int x4), some (.int x5), none]) (st' := [.int (nI v)]) (h' := h) 1 rfl ?_
      refine RA.call0 (N := mX8_isSheet) (as := [.int (nI v)]) (rest := []) rfl rfl rfl (isSh_t (d := 117) s3) ?_
      refine RA.if1T rfl rfl ?_
      refine RA.steps (i' := 9) (L' := [some (.ref 110), some (.int (nI u)), some (.int x2), some (.int (nI v)), some (.int x4), some (.int x5), none]) (st' := [.ref 110]) (h' := h) 1 rfl ?_
      refine RA.getf rfl ho8 rfl (hF8.ref (k := 4) rfl) ?_
      refine RA.steps (i' := 11) (L' := [some (.ref 110), some (.int (nI u)), some (.int x2), some (.int (nI v)), some (.int x4), some (.int x5), none]) (st' := [.int (nI u), .ref 114]) (h' := h) 1 rfl ?_
      refine RA.iald rfl pS bu eu ?_
      refine RA.if1F rfl (decide_eq_false (Int32.not_lt.mpr gu)) ?_
      refine RA.steps (i' := 14) (L' := [some (.ref 110), some (.int (nI u)), some (.int x2), some (.int (nI v)), some (.int x4), some (.int x5), none]) (st' := [.ref 110]) (h' := h) 1 rfl ?_
      refine RA.getf rfl ho8 rfl (hF8.ref (k := 4) rfl) ?_
      refine RA.steps (i' := 16) (L' := [some (.ref 110), some (.int (nI u)), some (.int x2), some (.int (nI v)), some (.int x4), some (.int x5), none]) (st' := [.int (nI v), .ref 114]) (h' := h) 1 rfl ?_
      refine RA.iald rfl pS bv ev ?_
      refine RA.if1F rfl (decide_eq_false gv) ?_
      refine RA.steps (i' := 19) (L' := [some (.ref 110), some (.int (nI u)), some (.int x2), some (.int (nI v)), some (.int x4), some (.int x5), none]) (st' := [.int (-1000000011)]) (h' := h) 1 rfl ?_
      exact RA.ret rfl rfl
  have gv := pos v sv0 esv mv
  by_cases ess : ri h (82 + 2 * u) 1 = ri h (82 + 2 * v) 1
  rotate_left
  · have esr : ¬ ri h 114 u = ri h 114 v := fun q => ess (by rw [esu, esv, q])
    refine copy_same hh hj hv_ (v := -1000000012) ⟨Nat.le_of_ble_eq_true rfl, ⟨_, _, rfl⟩, ?_⟩ ⟨Nat.le_of_ble_eq_true rfl, ⟨_, _, rfl⟩, ?_⟩
    · show RA prog E pV1 120 mX7_copy 0 [some (.ref 0), some (.int (nI u)), some (.int x2), some (.int (nI v)), some (.int x4), some (.int x5), none, none] [] h (some (.int (-1000000012)), h, 0, 0)
      refine RA.steps (i' := 2) (L' := [some (.ref 0), some (.int (nI u)), some (.int x2), some (.int (nI v)), some (.int x4), some (.int x5), none, none]) (st' := [.int (nI u), .ref 0]) (h' := h) 2 rfl ?_
      refine RA.call0 (N := mX7_rowOf) (as := [.ref 0, .int (nI u)]) (rest := []) rfl rfl (pcallV rfl rfl ho0 rfl rfl (Nat.le_of_ble_eq_true rfl)) (rowOf_x (d := 118) hh hu) ?_
      refine RA.steps (i' := 6) (L' := [some (.ref 0), some (.int (nI u)), some (.int x2), some (.int (nI v)), some (.int x4), some (.int x5), some (.ref (82 + 2 * u)), none]) (st' := [.int (nI v), .ref 0]) (h' := h) 3 rfl ?_
      refine RA.call0 (N := mX7_rowOf) (as := [.ref 0, .int (nI v)]) (rest := []) rfl rfl (pcallV rfl rfl ho0 rfl rfl (Nat.le_of_ble_eq_true rfl)) (rowOf_x (d := 118) hh hv) ?_
      refine RA.steps (i' := 15) (L' := [some (.ref 0), some (.int (nI u)), some (.int x2), some (.int (nI v)), some (.int x4), some (.int x5), some (.ref (82 + 2 * u)), some (.ref (82 + 2 * v))]) (st' := [.ref (82 + 2 * u)]) (h' := h) 6 rfl ?_
      refine RA.call0 (N := mX3_isMissing) (as := [.ref (82 + 2 * u)]) (rest := []) rfl rfl (pcallV rfl rfl hou rfl rfl (Nat.le_of_ble_eq_true rfl)) (isMis_f (d := 118) hh hu mu) ?_
      refine RA.if1F rfl rfl ?_
      refine RA.steps (i' := 18) (L' := [some (.ref 0), some (.int (nI u)), some (.int x2), some (.int (nI v)), some (.int x4), some (.int x5), some (.ref (82 + 2 * u)), some (.ref (82 + 2 * v))]) (st' := [.ref (82 + 2 * v)]) (h' := h) 1 rfl ?_
      refine RA.call0 (N := mX3_isMissing) (as := [.ref (82 + 2 * v)]) (rest := []) rfl rfl (pcallV rfl rfl hov rfl rfl (Nat.le_of_ble_eq_true rfl)) (isMis_f (d := 118) hh hv mv) ?_
      refine RA.if1T rfl rfl ?_
      refine RA.steps (i' := 23) (L' := [some (.ref 0), some (.int (nI u)), some (.int x2), some (.int (nI v)), some (.int x4), some (.int x5), some (.ref (82 + 2 * u)), some (.ref (82 + 2 * v))]) (st' := [.ref (82 + 2 * u)]) (h' := h) 1 rfl ?_
      refine RA.getf rfl hou rfl su ?_
      refine RA.steps (i' := 25) (L' := [some (.ref 0), some (.int (nI u)), some (.int x2), some (.int (nI v)), some (.int x4), some (.int x5), some (.ref (82 + 2 * u)), some (.ref (82 + 2 * v))]) (st' := [.ref (82 + 2 * v), .int (ri h (82 + 2 * u) 1)]) (h' := h) 1 rfl ?_
      refine RA.getf rfl hov rfl sv ?_
      refine RA.if2F rfl (decide_eq_false ess) ?_
      refine RA.steps (i' := 28) (L' := [some (.ref 0), some (.int (nI u)), some (.int x2), some (.int (nI v)), some (.int x4), some (.int x5), some (.ref (82 + 2 * u)), some (.ref (82 + 2 * v))]) (st' := [.int (-1000000012)]) (h' := h) 1 rfl ?_
      exact RA.ret rfl rfl
    · show RA prog E pV1 120 mX8_copy 0 [some (.ref 110), some (.int (nI u)), some (.int x2), some (.int (nI v)), some (.int x4), some (.int x5), none] [] h (some (.int (-1000000012)), h, 0, 0)
      refine RA.steps (i' := 1) (L' := [some (.ref 110), some (.int (nI u)), some (.int x2), some (.int (nI v)), some (.int x4), some (.int x5), none]) (st' := [.int (nI u)]) (h' := h) 1 rfl ?_
      refine RA.call0 (N := mX8_isSheet) (as := [.int (nI u)]) (rest := []) rfl rfl rfl (isSh_t (d := 117) s1) ?_
      refine RA.if1F rfl rfl ?_
      refine RA.steps (i' := 4) (L' := [some (.ref 110), some (.int (nI u)), some (.int x2), some (.int (nI v)), some (.int x4), some (.int x5), none]) (st' := [.int (nI v)]) (h' := h) 1 rfl ?_
      refine RA.call0 (N := mX8_isSheet) (as := [.int (nI v)]) (rest := []) rfl rfl rfl (isSh_t (d := 117) s3) ?_
      refine RA.if1T rfl rfl ?_
      refine RA.steps (i' := 9) (L' := [some (.ref 110), some (.int (nI u)), some (.int x2), some (.int (nI v)), some (.int x4), some (.int x5), none]) (st' := [.ref 110]) (h' := h) 1 rfl ?_
      refine RA.getf rfl ho8 rfl (hF8.ref (k := 4) rfl) ?_
      refine RA.steps (i' := 11) (L' := [some (.ref 110), some (.int (nI u)), some (.int x2), some (.int (nI v)), some (.int x4), some (.int x5), none]) (st' := [.int (nI u), .ref 114]) (h' := h) 1 rfl ?_
      refine RA.iald rfl pS bu eu ?_
      refine RA.if1F rfl (decide_eq_false (Int32.not_lt.mpr gu)) ?_
      refine RA.steps (i' := 14) (L' := [some (.ref 110), some (.int (nI u)), some (.int x2), some (.int (nI v)), some (.int x4), some (.int x5), none]) (st' := [.ref 110]) (h' := h) 1 rfl ?_
      refine RA.getf rfl ho8 rfl (hF8.ref (k := 4) rfl) ?_
      refine RA.steps (i' := 16) (L' := [some (.ref 110), some (.int (nI u)), some (.int x2), some (.int (nI v)), some (.int x4), some (.int x5), none]) (st' := [.int (nI v), .ref 114]) (h' := h) 1 rfl ?_
      refine RA.iald rfl pS bv ev ?_
      refine RA.if1T rfl (decide_eq_true gv) ?_
      refine RA.steps (i' := 21) (L' := [some (.ref 110), some (.int (nI u)), some (.int x2), some (.int (nI v)), some (.int x4), some (.int x5), none]) (st' := [.ref 110]) (h' := h) 1 rfl ?_
      refine RA.getf rfl ho8 rfl (hF8.ref (k := 4) rfl) ?_
      refine RA.steps (i' := 23) (L' := [some (.ref 110), some (.int (nI u)), some (.int x2), some (.int (nI v)), some (.int x4), some (.int x5), none]) (st' := [.int (nI u), .ref 114]) (h' := h) 1 rfl ?_
      refine RA.iald rfl pS bu eu ?_
      refine RA.steps (i' := 25) (L' := [some (.ref 110), some (.int (nI u)), some (.int x2), some (.int (nI v)), some (.int x4), some (.int x5), none]) (st' := [.ref 110, .int (ri h 114 u)]) (h' := h) 1 rfl ?_
      refine RA.getf rfl ho8 rfl (hF8.ref (k := 4) rfl) ?_
      refine RA.steps (i' := 27) (L' := [some (.ref 110), some (.int (nI u)), some (.int x2), some (.int (nI v)), some (.int x4), some (.int x5), none]) (st' := [.int (nI v), .ref 114, .int (ri h 114 u)]) (h' := h) 1 rfl ?_
      refine RA.iald rfl pS bv ev ?_
      refine RA.if2F rfl (decide_eq_false esr) ?_
      refine RA.steps (i' := 30) (L' := [some (.ref 110), some (.int (nI u)), some (.int x2), some (.int (nI v)), some (.int x4), some (.int x5), none]) (st' := [.int (-1000000012)]) (h' := h) 1 rfl ?_
      exact RA.ret rfl rfl
  have esr : ri h 114 u = ri h 114 v := by rw [← esu, ← esv, ess]
  have l24u : ri h (82 + 2 * u) 2 ≤ nI 24 := Int32.le_iff_toInt_le.mpr (by rw [nI_toInt (by decide), ezu]; omega)
  have l24v : ri h (82 + 2 * v) 2 ≤ nI 24 := Int32.le_iff_toInt_le.mpr (by rw [nI_toInt (by decide), ezv]; omega)
  have i1 := ha_iff (x := x2) (m := x5) (l := ri h (82 + 2 * u) 2)
  have i2 := ha_iff (x := x4) (m := x5) (l := ri h (82 + 2 * v) 2)
  rw [ezu] at i1
  rw [ezv] at i2
  by_cases hP : CpP x2.toInt x4.toInt x5.toInt (ri h 115 u).toInt (ri h 115 v).toInt
  rotate_left
  · have rr : RA prog E pV1 120 mX8_copy 0 [some (.ref 110), some (.int (nI u)), some (.int x2), some (.int (nI v)), some (.int x4), some (.int x5), none] [] h (some (.int (-1000000013)), h, 0, 0) := by
      refine RA.steps (i' := 1) (L' := [some (.ref 110), some (.int (nI u)), some (.int x2), some (.int (nI v)), some (.int x4), some (.int x5), none]) (st' := [.int (nI u)]) (h' := h) 1 rfl ?_
      refine RA.call0 (N := mX8_isSheet) (as := [.int (nI u)]) (rest := []) rfl rfl rfl (isSh_t (d := 117) s1) ?_
      refine RA.if1F rfl rfl ?_
      refine RA.steps (i' := 4) (L' := [some (.ref 110), some (.int (nI u)), some (.int x2), some (.int (nI v)), some (.int x4), some (.int x5), none]) (st' := [.int (nI v)]) (h' := h) 1 rfl ?_
      refine RA.call0 (N := mX8_isSheet) (as := [.int (nI v)]) (rest := []) rfl rfl rfl (isSh_t (d := 117) s3) ?_
      refine RA.if1T rfl rfl ?_
      refine RA.steps (i' := 9) (L' := [some (.ref 110), some (.int (nI u)), some (.int x2), some (.int (nI v)), some (.int x4), some (.int x5), none]) (st' := [.ref 110]) (h' := h) 1 rfl ?_
      refine RA.getf rfl ho8 rfl (hF8.ref (k := 4) rfl) ?_
      refine RA.steps (i' := 11) (L' := [some (.ref 110), some (.int (nI u)), some (.int x2), some (.int (nI v)), some (.int x4), some (.int x5), none]) (st' := [.int (nI u), .ref 114]) (h' := h) 1 rfl ?_
      refine RA.iald rfl pS bu eu ?_
      refine RA.if1F rfl (decide_eq_false (Int32.not_lt.mpr gu)) ?_
      refine RA.steps (i' := 14) (L' := [some (.ref 110), some (.int (nI u)), some (.int x2), some (.int (nI v)), some (.int x4), some (.int x5), none]) (st' := [.ref 110]) (h' := h) 1 rfl ?_
      refine RA.getf rfl ho8 rfl (hF8.ref (k := 4) rfl) ?_
      refine RA.steps (i' := 16) (L' := [some (.ref 110), some (.int (nI u)), some (.int x2), some (.int (nI v)), some (.int x4), some (.int x5), none]) (st' := [.int (nI v), .ref 114]) (h' := h) 1 rfl ?_
      refine RA.iald rfl pS bv ev ?_
      refine RA.if1T rfl (decide_eq_true gv) ?_
      refine RA.steps (i' := 21) (L' := [some (.ref 110), some (.int (nI u)), some (.int x2), some (.int (nI v)), some (.int x4), some (.int x5), none]) (st' := [.ref 110]) (h' := h) 1 rfl ?_
      refine RA.getf rfl ho8 rfl (hF8.ref (k := 4) rfl) ?_
      refine RA.steps (i' := 23) (L' := [some (.ref 110), some (.int (nI u)), some (.int x2), some (.int (nI v)), some (.int x4), some (.int x5), none]) (st' := [.int (nI u), .ref 114]) (h' := h) 1 rfl ?_
      refine RA.iald rfl pS bu eu ?_
      refine RA.steps (i' := 25) (L' := [some (.ref 110), some (.int (nI u)), some (.int x2), some (.int (nI v)), some (.int x4), some (.int x5), none]) (st' := [.ref 110, .int (ri h 114 u)]) (h' := h) 1 rfl ?_
      refine RA.getf rfl ho8 rfl (hF8.ref (k := 4) rfl) ?_
      refine RA.steps (i' := 27) (L' := [some (.ref 110), some (.int (nI u)), some (.int x2), some (.int (nI v)), some (.int x4), some (.int x5), none]) (st' := [.int (nI v), .ref 114, .int (ri h 114 u)]) (h' := h) 1 rfl ?_
      refine RA.iald rfl pS bv ev ?_
      refine RA.if2T rfl (decide_eq_true esr) ?_
      exact cp_31 hh hu hv _ (fun q => absurd q hP) (fun _ => rfl)
    by_cases ha1 : HA x2 x5 (ri h (82 + 2 * u) 2)
    · have ha2 : ¬ HA x4 x5 (ri h (82 + 2 * v) 2) := fun q => hP (by
        rw [ezu] at ha1
        rw [ezv] at q
        obtain ⟨a1, a2, a3⟩ := i1.mp ha1
        obtain ⟨b1, b2, b3⟩ := i2.mp q
        exact ⟨a1, b1, a2, a3, b3⟩)
      refine copy_same hh hj hv_ (v := -1000000013) ⟨Nat.le_of_ble_eq_true rfl, ⟨_, _, rfl⟩, ?_⟩ ⟨Nat.le_of_ble_eq_true rfl, ⟨_, _, rfl⟩, rr⟩
      show RA prog E pV1 120 mX7_copy 0 [some (.ref 0), some (.int (nI u)), some (.int x2), some (.int (nI v)), some (.int x4), some (.int x5), none, none] [] h (some (.int (-1000000013)), h, 0, 0)
      refine RA.steps (i' := 2) (L' := [some (.ref 0), some (.int (nI u)), some (.int x2), some (.int (nI v)), some (.int x4), some (.int x5), none, none]) (st' := [.int (nI u), .ref 0]) (h' := h) 2 rfl ?_
      refine RA.call0 (N := mX7_rowOf) (as := [.ref 0, .int (nI u)]) (rest := []) rfl rfl (pcallV rfl rfl ho0 rfl rfl (Nat.le_of_ble_eq_true rfl)) (rowOf_x (d := 118) hh hu) ?_
      refine RA.steps (i' := 6) (L' := [some (.ref 0), some (.int (nI u)), some (.int x2), some (.int (nI v)), some (.int x4), some (.int x5), some (.ref (82 + 2 * u)), none]) (st' := [.int (nI v), .ref 0]) (h' := h) 3 rfl ?_
      refine RA.call0 (N := mX7_rowOf) (as := [.ref 0, .int (nI v)]) (rest := []) rfl rfl (pcallV rfl rfl ho0 rfl rfl (Nat.le_of_ble_eq_true rfl)) (rowOf_x (d := 118) hh hv) ?_
      refine RA.steps (i' := 15) (L' := [some (.ref 0), some (.int (nI u)), some (.int x2), some (.int (nI v)), some (.int x4), some (.int x5), some (.ref (82 + 2 * u)), some (.ref (82 + 2 * v))]) (st' := [.ref (82 + 2 * u)]) (h' := h) 6 rfl ?_
      refine RA.call0 (N := mX3_isMissing) (as := [.ref (82 + 2 * u)]) (rest := []) rfl rfl (pcallV rfl rfl hou rfl rfl (Nat.le_of_ble_eq_true rfl)) (isMis_f (d := 118) hh hu mu) ?_
      refine RA.if1F rfl rfl ?_
      refine RA.steps (i' := 18) (L' := [some (.ref 0), some (.int (nI u)), some (.int x2), some (.int (nI v)), some (.int x4), some (.int x5), some (.ref (82 + 2 * u)), some (.ref (82 + 2 * v))]) (st' := [.ref (82 + 2 * v)]) (h' := h) 1 rfl ?_
      refine RA.call0 (N := mX3_isMissing) (as := [.ref (82 + 2 * v)]) (rest := []) rfl rfl (pcallV rfl rfl hov rfl rfl (Nat.le_of_ble_eq_true rfl)) (isMis_f (d := 118) hh hv mv) ?_
      refine RA.if1T rfl rfl ?_
      refine RA.steps (i' := 23) (L' := [some (.ref 0), some (.int (nI u)), some (.int x2), some (.int (nI v)), some (.int x4), some (.int x5), some (.ref (82 + 2 * u)), some (.ref (82 + 2 * v))]) (st' := [.ref (82 + 2 * u)]) (h' := h) 1 rfl ?_
      refine RA.getf rfl hou rfl su ?_
      refine RA.steps (i' := 25) (L' := [some (.ref 0), some (.int (nI u)), some (.int x2), some (.int (nI v)), some (.int x4), some (.int x5), some (.ref (82 + 2 * u)), some (.ref (82 + 2 * v))]) (st' := [.ref (82 + 2 * v), .int (ri h (82 + 2 * u) 1)]) (h' := h) 1 rfl ?_
      refine RA.getf rfl hov rfl sv ?_
      refine RA.if2T rfl (decide_eq_true ess) ?_
      refine RA.steps (i' := 32) (L' := [some (.ref 0), some (.int (nI u)), some (.int x2), some (.int (nI v)), some (.int x4), some (.int x5), some (.ref (82 + 2 * u)), some (.ref (82 + 2 * v))]) (st' := [.int x5, .int x2, .ref (82 + 2 * u)]) (h' := h) 3 rfl ?_
      refine RA.call0 (N := mX3_hasAll) (as := [.ref (82 + 2 * u), .int x2, .int x5]) (rest := []) rfl rfl (pcallV rfl rfl hou rfl rfl (Nat.le_of_ble_eq_true rfl)) (hasAll_t (d := 118) hh hu l24u ha1) ?_
      refine RA.if1F rfl rfl ?_
      refine RA.steps (i' := 37) (L' := [some (.ref 0), some (.int (nI u)), some (.int x2), some (.int (nI v)), some (.int x4), some (.int x5), some (.ref (82 + 2 * u)), some (.ref (82 + 2 * v))]) (st' := [.int x5, .int x4, .ref (82 + 2 * v)]) (h' := h) 3 rfl ?_
      refine RA.call0 (N := mX3_hasAll) (as := [.ref (82 + 2 * v), .int x4, .int x5]) (rest := []) rfl rfl (pcallV rfl rfl hov rfl rfl (Nat.le_of_ble_eq_true rfl)) (hasAll_f (d := 118) hh hv l24v ha2) ?_
      refine RA.if1F rfl rfl ?_
      refine RA.steps (i' := 40) (L' := [some (.ref 0), some (.int (nI u)), some (.int x2), some (.int (nI v)), some (.int x4), some (.int x5), some (.ref (82 + 2 * u)), some (.ref (82 + 2 * v))]) (st' := [.int (-1000000013)]) (h' := h) 1 rfl ?_
      exact RA.ret rfl rfl
    · refine copy_same hh hj hv_ (v := -1000000013) ⟨Nat.le_of_ble_eq_true rfl, ⟨_, _, rfl⟩, ?_⟩ ⟨Nat.le_of_ble_eq_true rfl, ⟨_, _, rfl⟩, rr⟩
      show RA prog E pV1 120 mX7_copy 0 [some (.ref 0), some (.int (nI u)), some (.int x2), some (.int (nI v)), some (.int x4), some (.int x5), none, none] [] h (some (.int (-1000000013)), h, 0, 0)
      refine RA.steps (i' := 2) (L' := [some (.ref 0), some (.int (nI u)), some (.int x2), some (.int (nI v)), some (.int x4), some (.int x5), none, none]) (st' := [.int (nI u), .ref 0]) (h' := h) 2 rfl ?_
      refine RA.call0 (N := mX7_rowOf) (as := [.ref 0, .int (nI u)]) (rest := []) rfl rfl (pcallV rfl rfl ho0 rfl rfl (Nat.le_of_ble_eq_true rfl)) (rowOf_x (d := 118) hh hu) ?_
      refine RA.steps (i' := 6) (L' := [some (.ref 0), some (.int (nI u)), some (.int x2), some (.int (nI v)), some (.int x4), some (.int x5), some (.ref (82 + 2 * u)), none]) (st' := [.int (nI v), .ref 0]) (h' := h) 3 rfl ?_
      refine RA.call0 (N := mX7_rowOf) (as := [.ref 0, .int (nI v)]) (rest := []) rfl rfl (pcallV rfl rfl ho0 rfl rfl (Nat.le_of_ble_eq_true rfl)) (rowOf_x (d := 118) hh hv) ?_
      refine RA.steps (i' := 15) (L' := [some (.ref 0), some (.int (nI u)), some (.int x2), some (.int (nI v)), some (.int x4), some (.int x5), some (.ref (82 + 2 * u)), some (.ref (82 + 2 * v))]) (st' := [.ref (82 + 2 * u)]) (h' := h) 6 rfl ?_
      refine RA.call0 (N := mX3_isMissing) (as := [.ref (82 + 2 * u)]) (rest := []) rfl rfl (pcallV rfl rfl hou rfl rfl (Nat.le_of_ble_eq_true rfl)) (isMis_f (d := 118) hh hu mu) ?_
      refine RA.if1F rfl rfl ?_
      refine RA.steps (i' := 18) (L' := [some (.ref 0), some (.int (nI u)), some (.int x2), some (.int (nI v)), some (.int x4), some (.int x5), some (.ref (82 + 2 * u)), some (.ref (82 + 2 * v))]) (st' := [.ref (82 + 2 * v)]) (h' := h) 1 rfl ?_
      refine RA.call0 (N := mX3_isMissing) (as := [.ref (82 + 2 * v)]) (rest := []) rfl rfl (pcallV rfl rfl hov rfl rfl (Nat.le_of_ble_eq_true rfl)) (isMis_f (d := 118) hh hv mv) ?_
      refine RA.if1T rfl rfl ?_
      refine RA.steps (i' := 23) (L' := [some (.ref 0), some (.int (nI u)), some (.int x2), some (.int (nI v)), some (.int x4), some (.int x5), some (.ref (82 + 2 * u)), some (.ref (82 + 2 * v))]) (st' := [.ref (82 + 2 * u)]) (h' := h) 1 rfl ?_
      refine RA.getf rfl hou rfl su ?_
      refine RA.steps (i' := 25) (L' := [some (.ref 0), some (.int (nI u)), some (.int x2), some (.int (nI v)), some (.int x4), some (.int x5), some (.ref (82 + 2 * u)), some (.ref (82 + 2 * v))]) (st' := [.ref (82 + 2 * v), .int (ri h (82 + 2 * u) 1)]) (h' := h) 1 rfl ?_
      refine RA.getf rfl hov rfl sv ?_
      refine RA.if2T rfl (decide_eq_true ess) ?_
      refine RA.steps (i' := 32) (L' := [some (.ref 0), some (.int (nI u)), some (.int x2), some (.int (nI v)), some (.int x4), some (.int x5), some (.ref (82 + 2 * u)), some (.ref (82 + 2 * v))]) (st' := [.int x5, .int x2, .ref (82 + 2 * u)]) (h' := h) 3 rfl ?_
      refine RA.call0 (N := mX3_hasAll) (as := [.ref (82 + 2 * u), .int x2, .int x5]) (rest := []) rfl rfl (pcallV rfl rfl hou rfl rfl (Nat.le_of_ble_eq_true rfl)) (hasAll_f (d := 118) hh hu l24u ha1) ?_
      refine RA.if1T rfl rfl ?_
      refine RA.steps (i' := 40) (L' := [some (.ref 0), some (.int (nI u)), some (.int x2), some (.int (nI v)), some (.int x4), some (.int x5), some (.ref (82 + 2 * u)), some (.ref (82 + 2 * v))]) (st' := [.int (-1000000013)]) (h' := h) 1 rfl ?_
      exact RA.ret rfl rfl
  obtain ⟨c1, c2, c3, c4, c5⟩ := hP
  have ha1 : HA x2 x5 (ri h (82 + 2 * u) 2) := by rw [ezu]; exact i1.mpr ⟨c1, c3, c4⟩
  have ha2 : HA x4 x5 (ri h (82 + 2 * v) 2) := by rw [ezv]; exact i2.mpr ⟨c2, c3, c5⟩
  obtain ⟨p, rfl, hp0⟩ := nIof (x := x2) c1 (by omega)
  obtain ⟨a, rfl, ha0⟩ := nIof (x := x4) c2 (by omega)
  obtain ⟨n, rfl, hn0⟩ := nIof (x := x5) c3 (by omega)
  have ep : (nI p).toNatClampNeg = p := (nI_cl (by omega)).2
  have ea : (nI a).toNatClampNeg = a := (nI_cl (by omega)).2
  have en : (nI n).toNatClampNeg = n := (nI_cl (by omega)).2
  refine copy_go hh hj hv_ hs hu hv (by omega) (by omega) pu pv ⟨Nat.le_of_ble_eq_true rfl, ⟨_, _, rfl⟩, ?_⟩ (fun h1 hh1 hz T D pT pD => ⟨Nat.le_of_ble_eq_true rfl, ⟨_, _, rfl⟩, ?_⟩)
  · show RA prog E pV1 120 mX7_copy 0 [some (.ref 0), some (.int (nI u)), some (.int (nI p)), some (.int (nI v)), some (.int (nI a)), some (.int (nI n)), none, none] [] h (some (.int (nI n)), h.set (83 + 2 * v) (.inl (24, va_cpy f g p a n)), 0, 0)
    rw [show va_cpy f g p a n = va_cpy f g (nI p).toNatClampNeg (nI a).toNatClampNeg (nI n).toNatClampNeg by rw [ep, ea, en]]
    refine RA.steps (i' := 2) (L' := [some (.ref 0), some (.int (nI u)), some (.int (nI p)), some (.int (nI v)), some (.int (nI a)), some (.int (nI n)), none, none]) (st' := [.int (nI u), .ref 0]) (h' := h) 2 rfl ?_
    refine RA.call0 (N := mX7_rowOf) (as := [.ref 0, .int (nI u)]) (rest := []) rfl rfl (pcallV rfl rfl ho0 rfl rfl (Nat.le_of_ble_eq_true rfl)) (rowOf_x (d := 118) hh hu) ?_
    refine RA.steps (i' := 6) (L' := [some (.ref 0), some (.int (nI u)), some (.int (nI p)), some (.int (nI v)), some (.int (nI a)), some (.int (nI n)), some (.ref (82 + 2 * u)), none]) (st' := [.int (nI v), .ref 0]) (h' := h) 3 rfl ?_
    refine RA.call0 (N := mX7_rowOf) (as := [.ref 0, .int (nI v)]) (rest := []) rfl rfl (pcallV rfl rfl ho0 rfl rfl (Nat.le_of_ble_eq_true rfl)) (rowOf_x (d := 118) hh hv) ?_
    refine RA.steps (i' := 15) (L' := [some (.ref 0), some (.int (nI u)), some (.int (nI p)), some (.int (nI v)), some (.int (nI a)), some (.int (nI n)), some (.ref (82 + 2 * u)), some (.ref (82 + 2 * v))]) (st' := [.ref (82 + 2 * u)]) (h' := h) 6 rfl ?_
    refine RA.call0 (N := mX3_isMissing) (as := [.ref (82 + 2 * u)]) (rest := []) rfl rfl (pcallV rfl rfl hou rfl rfl (Nat.le_of_ble_eq_true rfl)) (isMis_f (d := 118) hh hu mu) ?_
    refine RA.if1F rfl rfl ?_
    refine RA.steps (i' := 18) (L' := [some (.ref 0), some (.int (nI u)), some (.int (nI p)), some (.int (nI v)), some (.int (nI a)), some (.int (nI n)), some (.ref (82 + 2 * u)), some (.ref (82 + 2 * v))]) (st' := [.ref (82 + 2 * v)]) (h' := h) 1 rfl ?_
    refine RA.call0 (N := mX3_isMissing) (as := [.ref (82 + 2 * v)]) (rest := []) rfl rfl (pcallV rfl rfl hov rfl rfl (Nat.le_of_ble_eq_true rfl)) (isMis_f (d := 118) hh hv mv) ?_
    refine RA.if1T rfl rfl ?_
    refine RA.steps (i' := 23) (L' := [some (.ref 0), some (.int (nI u)), some (.int (nI p)), some (.int (nI v)), some (.int (nI a)), some (.int (nI n)), some (.ref (82 + 2 * u)), some (.ref (82 + 2 * v))]) (st' := [.ref (82 + 2 * u)]) (h' := h) 1 rfl ?_
    refine RA.getf rfl hou rfl su ?_
    refine RA.steps (i' := 25) (L' := [some (.ref 0), some (.int (nI u)), some (.int (nI p)), some (.int (nI v)), some (.int (nI a)), some (.int (nI n)), some (.ref (82 + 2 * u)), some (.ref (82 + 2 * v))]) (st' := [.ref (82 + 2 * v), .int (ri h (82 + 2 * u) 1)]) (h' := h) 1 rfl ?_
    refine RA.getf rfl hov rfl sv ?_
    refine RA.if2T rfl (decide_eq_true ess) ?_
    refine RA.steps (i' := 32) (L' := [some (.ref 0), some (.int (nI u)), some (.int (nI p)), some (.int (nI v)), some (.int (nI a)), some (.int (nI n)), some (.ref (82 + 2 * u)), some (.ref (82 + 2 * v))]) (st' := [.int (nI n), .int (nI p), .ref (82 + 2 * u)]) (h' := h) 3 rfl ?_
    refine RA.call0 (N := mX3_hasAll) (as := [.ref (82 + 2 * u), .int (nI p), .int (nI n)]) (rest := []) rfl rfl (pcallV rfl rfl hou rfl rfl (Nat.le_of_ble_eq_true rfl)) (hasAll_t (d := 118) hh hu l24u ha1) ?_
    refine RA.if1F rfl rfl ?_
    refine RA.steps (i' := 37) (L' := [some (.ref 0), some (.int (nI u)), some (.int (nI p)), some (.int (nI v)), some (.int (nI a)), some (.int (nI n)), some (.ref (82 + 2 * u)), some (.ref (82 + 2 * v))]) (st' := [.int (nI n), .int (nI a), .ref (82 + 2 * v)]) (h' := h) 3 rfl ?_
    refine RA.call0 (N := mX3_hasAll) (as := [.ref (82 + 2 * v), .int (nI a), .int (nI n)]) (rest := []) rfl rfl (pcallV rfl rfl hov rfl rfl (Nat.le_of_ble_eq_true rfl)) (hasAll_t (d := 118) hh hv l24v ha2) ?_
    refine RA.if1T rfl rfl ?_
    refine RA.steps (i' := 42) (L' := [some (.ref 0), some (.int (nI u)), some (.int (nI p)), some (.int (nI v)), some (.int (nI a)), some (.int (nI n)), some (.ref (82 + 2 * u)), some (.ref (82 + 2 * v))]) (st' := [.ref (82 + 2 * u)]) (h' := h) 1 rfl ?_
    refine RA.getf rfl hou rfl ku ?_
    refine RA.steps (i' := 45) (L' := [some (.ref 0), some (.int (nI u)), some (.int (nI p)), some (.int (nI v)), some (.int (nI a)), some (.int (nI n)), some (.ref (82 + 2 * u)), some (.ref (82 + 2 * v))]) (st' := [.ref (82 + 2 * v), .int (nI p), .ref (83 + 2 * u)]) (h' := h) 2 rfl ?_
    refine RA.getf rfl hov rfl kv ?_
    refine RA.steps (i' := 48) (L' := [some (.ref 0), some (.int (nI u)), some (.int (nI p)), some (.int (nI v)), some (.int (nI a)), some (.int (nI n)), some (.ref (82 + 2 * u)), some (.ref (82 + 2 * v))]) (st' := [.int (nI n), .int (nI a), .ref (83 + 2 * v), .int (nI p), .ref (83 + 2 * u)]) (h' := h) 2 rfl ?_
    refine RA.acpy rfl rfl pu pv (Nat.le_of_ble_eq_true rfl) ⟨(nI_cl (by omega)).1, (nI_cl (by omega)).1, (nI_cl (by omega)).1, by rw [ep, en]; show p + n ≤ 24; omega, by rw [ea, en]; show a + n ≤ 24; omega⟩ ?_
    refine RA.steps (i' := 50) (L' := [some (.ref 0), some (.int (nI u)), some (.int (nI p)), some (.int (nI v)), some (.int (nI a)), some (.int (nI n)), some (.ref (82 + 2 * u)), some (.ref (82 + 2 * v))]) (st' := [.int (nI n)]) (h' := (h.set (83 + 2 * v) (.inl (24, va_cpy f g (nI p).toNatClampNeg (nI a).toNatClampNeg (nI n).toNatClampNeg)))) 1 rfl ?_
    exact RA.ret rfl rfl
  · obtain ⟨fs8, ho8, hF8⟩ := hi_obj hh1 (a := 110) rfl
    obtain ⟨gS_, pS, uS, -⟩ := hi_int (a := 114) (n := 4) (sg := [(0, 3, -1, 1)]) hh1 rfl
    have eu : gS_ (nI u).toNatClampNeg = ri h 114 u := by rw [(nI_cl (by omega)).2, ← uS u hu]; exact (hz u hu).1
    have ev : gS_ (nI v).toNatClampNeg = ri h 114 v := by rw [(nI_cl (by omega)).2, ← uS v hv]; exact (hz v hv).1
    show RA prog E pV1 120 mX8_copy 0 [some (.ref 110), some (.int (nI u)), some (.int (nI p)), some (.int (nI v)), some (.int (nI a)), some (.int (nI n)), none] [] h1 (some (.int (nI n)), (h1.set 127 (.inl (24, cpN n (fun j => T (24 * u + p + j)) D))).set 116 (.inl (96, va_cpy (cpN n (fun j => T (24 * u + p + j)) D) T 0 (24 * v + a) n)), 0, 0)
    refine RA.steps (i' := 1) (L' := [some (.ref 110), some (.int (nI u)), some (.int (nI p)), some (.int (nI v)), some (.int (nI a)), some (.int (nI n)), none]) (st' := [.int (nI u)]) (h' := h1) 1 rfl ?_
    refine RA.call0 (N := mX8_isSheet) (as := [.int (nI u)]) (rest := []) rfl rfl rfl (isSh_t (d := 117) s1) ?_
    refine RA.if1F rfl rfl ?_
    refine RA.steps (i' := 4) (L' := [some (.ref 110), some (.int (nI u)), some (.int (nI p)), some (.int (nI v)), some (.int (nI a)), some (.int (nI n)), none]) (st' := [.int (nI v)]) (h' := h1) 1 rfl ?_
    refine RA.call0 (N := mX8_isSheet) (as := [.int (nI v)]) (rest := []) rfl rfl rfl (isSh_t (d := 117) s3) ?_
    refine RA.if1T rfl rfl ?_
    refine RA.steps (i' := 9) (L' := [some (.ref 110), some (.int (nI u)), some (.int (nI p)), some (.int (nI v)), some (.int (nI a)), some (.int (nI n)), none]) (st' := [.ref 110]) (h' := h1) 1 rfl ?_
    refine RA.getf rfl ho8 rfl (hF8.ref (k := 4) rfl) ?_
    refine RA.steps (i' := 11) (L' := [some (.ref 110), some (.int (nI u)), some (.int (nI p)), some (.int (nI v)), some (.int (nI a)), some (.int (nI n)), none]) (st' := [.int (nI u), .ref 114]) (h' := h1) 1 rfl ?_
    refine RA.iald rfl pS bu eu ?_
    refine RA.if1F rfl (decide_eq_false (Int32.not_lt.mpr gu)) ?_
    refine RA.steps (i' := 14) (L' := [some (.ref 110), some (.int (nI u)), some (.int (nI p)), some (.int (nI v)), some (.int (nI a)), some (.int (nI n)), none]) (st' := [.ref 110]) (h' := h1) 1 rfl ?_
    refine RA.getf rfl ho8 rfl (hF8.ref (k := 4) rfl) ?_
    refine RA.steps (i' := 16) (L' := [some (.ref 110), some (.int (nI u)), some (.int (nI p)), some (.int (nI v)), some (.int (nI a)), some (.int (nI n)), none]) (st' := [.int (nI v), .ref 114]) (h' := h1) 1 rfl ?_
    refine RA.iald rfl pS bv ev ?_
    refine RA.if1T rfl (decide_eq_true gv) ?_
    refine RA.steps (i' := 21) (L' := [some (.ref 110), some (.int (nI u)), some (.int (nI p)), some (.int (nI v)), some (.int (nI a)), some (.int (nI n)), none]) (st' := [.ref 110]) (h' := h1) 1 rfl ?_
    refine RA.getf rfl ho8 rfl (hF8.ref (k := 4) rfl) ?_
    refine RA.steps (i' := 23) (L' := [some (.ref 110), some (.int (nI u)), some (.int (nI p)), some (.int (nI v)), some (.int (nI a)), some (.int (nI n)), none]) (st' := [.int (nI u), .ref 114]) (h' := h1) 1 rfl ?_
    refine RA.iald rfl pS bu eu ?_
    refine RA.steps (i' := 25) (L' := [some (.ref 110), some (.int (nI u)), some (.int (nI p)), some (.int (nI v)), some (.int (nI a)), some (.int (nI n)), none]) (st' := [.ref 110, .int (ri h 114 u)]) (h' := h1) 1 rfl ?_
    refine RA.getf rfl ho8 rfl (hF8.ref (k := 4) rfl) ?_
    refine RA.steps (i' := 27) (L' := [some (.ref 110), some (.int (nI u)), some (.int (nI p)), some (.int (nI v)), some (.int (nI a)), some (.int (nI n)), none]) (st' := [.int (nI v), .ref 114, .int (ri h 114 u)]) (h' := h1) 1 rfl ?_
    refine RA.iald rfl pS bv ev ?_
    refine RA.if2T rfl (decide_eq_true esr) ?_
    refine cp_31 hh1 hu hv _ (fun _ => ?_) (fun q => absurd ⟨c1, c2, c3, by rw [(hz u hu).2]; exact c4, by rw [(hz v hv).2]; exact c5⟩ q)
    refine RA.steps (i' := 65) (L' := [some (.ref 110), some (.int (nI u)), some (.int (nI p)), some (.int (nI v)), some (.int (nI a)), some (.int (nI n)), some (.int 0)]) (st' := []) (h' := h1) 2 rfl ?_
    have z0 := nI_0
    rw [← z0]
    refine cp_l1 (hF8.ref (k := 28) rfl) (hF8.ref (k := 6) rfl) (c := D) hu (by omega) (by omega) n 0 h1 _ (by omega) ho8 pT (by rw [cpN_0]; exact pD) ?_
    refine RA.steps (i' := 86) (L' := [some (.ref 110), some (.int (nI u)), some (.int (nI p)), some (.int (nI v)), some (.int (nI a)), some (.int (nI n)), some (.int 0)]) (st' := []) (h' := h1.set 127 (.inl (24, cpN n (fun j => T (24 * u + p + j)) D))) 2 rfl ?_
    rw [← z0]
    exact cp_l2 (hF8.ref (k := 28) rfl) (hF8.ref (k := 6) rfl) hv (by omega) (by omega) n 0 _ (by omega) ((pobj_ne (by decide)).trans ho8) (pint_set (pint_lt pD)) (by rw [cpy_0]; exact (pint_ne (by decide)).trans pT)
end CPV
theorem rss_of {h : List pC} (hR : pRel RL h) : RSS h := by
  intro u hu
  match u, hu with
  | 0, _ => exact ⟨hR _ (List.mem_append_left _ (List.mem_cons_of_mem _ (List.mem_cons_of_mem _ (List.mem_cons_of_mem _ (List.mem_cons_of_mem _ (List.mem_cons_of_mem _ (List.mem_cons_of_mem _ List.mem_cons_self))))))), hR _ (List.mem_append_left _ (List.mem_cons_of_mem _ (List.mem_cons_of_mem _ (List.mem_cons_of_mem _ (List.mem_cons_of_mem _ (List.mem_cons_of_mem _ (List.mem_cons_of_mem _ (List.mem_cons_of_mem _ (List.mem_cons_of_mem _ (List.mem_cons_of_mem _ (List.mem_cons_of_mem _ List.mem_cons_self)))))))))))⟩
  | 1, _ => exact ⟨hR _ (List.mem_append_left _ (List.mem_cons_of_mem _ (List.mem_cons_of_mem _ (List.mem_cons_of_mem _ (List.mem_cons_of_mem _ (List.mem_cons_of_mem _ (List.mem_cons_of_mem _ (List.mem_cons_of_mem _ List.mem_cons_self)))))))), hR _ (List.mem_append_left _ (List.mem_cons_of_mem _ (List.mem_cons_of_mem _ (List.mem_cons_of_mem _ (List.mem_cons_of_mem _ (List.mem_cons_of_mem _ (List.mem_cons_of_mem _ (List.mem_cons_of_mem _ (List.mem_cons_of_mem _ (List.mem_cons_of_mem _ (List.mem_cons_of_mem _ (List.mem_cons_of_mem _ List.mem_cons_self))))))))))))⟩
  | 2, _ => exact ⟨hR _ (List.mem_append_left _ (List.mem_cons_of_mem _ (List.mem_cons_of_mem _ (List.mem_cons_of_mem _ (List.mem_cons_of_mem _ (List.mem_cons_of_mem _ (List.mem_cons_of_mem _ (List.mem_cons_of_mem _ (List.mem_cons_of_mem _ List.mem_cons_self))))))))), hR _ (List.mem_append_left _ (List.mem_cons_of_mem _ (List.mem_cons_of_mem _ (List.mem_cons_of_mem _ (List.mem_cons_of_mem _ (List.mem_cons_of_mem _ (List.mem_cons_of_mem _ (List.mem_cons_of_mem _ (List.mem_cons_of_mem _ (List.mem_cons_of_mem _ (List.mem_cons_of_mem _ (List.mem_cons_of_mem _ (List.mem_cons_of_mem _ List.mem_cons_self)))))))))))))⟩
  | 3, _ => exact ⟨hR _ (List.mem_append_left _ (List.mem_cons_of_mem _ (List.mem_cons_of_mem _ (List.mem_cons_of_mem _ (List.mem_cons_of_mem _ (List.mem_cons_of_mem _ (List.mem_cons_of_mem _ (List.mem_cons_of_mem _ (List.mem_cons_of_mem _ (List.mem_cons_of_mem _ List.mem_cons_self)))))))))), hR _ (List.mem_append_left _ (List.mem_cons_of_mem _ (List.mem_cons_of_mem _ (List.mem_cons_of_mem _ (List.mem_cons_of_mem _ (List.mem_cons_of_mem _ (List.mem_cons_of_mem _ (List.mem_cons_of_mem _ (List.mem_cons_of_mem _ (List.mem_cons_of_mem _ (List.mem_cons_of_mem _ (List.mem_cons_of_mem _ (List.mem_cons_of_mem _ (List.mem_cons_of_mem _ List.mem_cons_self))))))))))))))⟩
/-! ===== whose ===== -/
section DUP
variable {P : List pM} {E : pX} {V : pV}
theorem pexec_dup (f : Nat) : ∀ (d : Nat) (M : pM) (i : Nat) (L : pL) (st : List Value) (h : List pC) (res : pR), pexec P E V f d M i L st h = some res → pexec P E V f (d + 1) M i L st h = some res := by
  induction f with
  | zero =>
    intro d M i L st h res hx
    cases hx
  | succ f ih =>
    intro d M i L st h res hx
    cases d with
    | zero => cases hx
    | succ d =>
      rw [pexec] at hx ⊢
      cases he : (m_code M)[i]? with
      | none => rw [he] at hx; cases hx
      | some t =>
        rw [he] at hx
        dsimp only at hx ⊢
        cases hpr : pret M t st with
        | some rr => rw [hpr] at hx; exact hx
        | none =>
          rw [hpr] at hx
          dsimp only at hx ⊢
          cases hpc : pcall P t st h with
          | some w =>
            obtain ⟨N, as, rest⟩ := w
            rw [hpc] at hx
            dsimp only at hx ⊢
            cases hcode : m_code N with
            | nil =>
              rw [hcode] at hx
              dsimp only at hx ⊢
              split at hx
              · rename_i h6
                rw [if_pos (show 6 ≤ d + 1 by omega)]
                cases hv : V N as h with
                | none => rw [hv] at hx; cases hx
                | some r1 =>
                  rw [hv] at hx
                  exact ih _ _ _ _ _ _ _ hx
              · cases hx
            | cons u us =>
              rw [hcode] at hx
              dsimp only at hx ⊢
              split at hx
              · rename_i h6
                rw [if_pos h6]
                cases h1 : pexec P E V f d N 0 (pent (m_l N) as) [] h with
                | none => rw [h1] at hx; cases hx
                | some w =>
                  rw [ih _ _ _ _ _ _ _ h1]
                  rw [h1] at hx
                  obtain ⟨r1, g1, k1, n1⟩ := w
                  dsimp only at hx ⊢
                  cases h2 : pexec P E V f (d + 1) M (i + 1) L (r1.toList ++ rest) g1 with
                  | none => rw [h2] at hx; cases hx
                  | some w =>
                    rw [ih _ _ _ _ _ _ _ h2]
                    rw [h2] at hx
                    exact hx
              · cases hx
          | none =>
            rw [hpc] at hx
            dsimp only at hx ⊢
            cases hps : pstep E t i L st h with
            | none => rw [hps] at hx; cases hx
            | some w =>
              obtain ⟨i1, L1, st1, g1, dk, dn⟩ := w
              rw [hps] at hx
              dsimp only at hx ⊢
              cases h2 : pexec P E V f (d + 1) M i1 L1 st1 g1 with
              | none => rw [h2] at hx; cases hx
              | some w =>
                rw [ih _ _ _ _ _ _ _ h2]
                rw [h2] at hx
                exact hx
theorem Run.dup {d : Nat} {N : pM} {as : List Value} {h : List pC} {res : pR} (a : Run P E V d N as h res) : Run P E V (d + 1) N as h res := by
  obtain ⟨a1, a2, f, hf⟩ := a
  exact ⟨a1, a2, f, pexec_dup f _ _ _ _ _ _ _ hf⟩
end DUP
section WHO
variable {E : pX} {h : List pC}
def AB (x : Int32) : Int32 := if 0 ≤ x then x else 0 - x
def AP (S V : Nat → Int32) (sz : Nat) : Nat → Nat → Int32 → Int32
  | 0, _, s => s
  | m + 1, p, s => AP S V sz m (p + 1) (if V p = -1000000005 then s else s + AB ((if p < sz then S p else 0) - V p))
theorem AP_s (S V : Nat → Int32) (sz m p : Nat) (s : Int32) : AP S V sz (m + 1) p s = AP S V sz m (p + 1) (if V p = -1000000005 then s else s + AB ((if p < sz then S p else 0) - V p)) := rfl
def WBu (A : Nat → Int32) : Nat → Nat → Nat → Nat
  | 0, _, b => b
  | m + 1, k, b => WBu A m (k + 1) (if A k < A b then k else b)
theorem WBu_s (A : Nat → Int32) (m k b : Nat) : WBu A (m + 1) k b = WBu A m (k + 1) (if A k < A b then k else b) := rfl
theorem ab_eq {v w : Int32} (hv : -1000000005 ≤ v.toInt ∧ v.toInt ≤ 99999) (hw : 0 ≤ w.toInt ∧ w.toInt ≤ 3) : AB (w - v) = if v < w then w - v else v - w := by
  have t0 : (0 : Int32).toInt = 0 := by decide
  have e1 : (w - v).toInt = w.toInt - v.toInt := by
    rw [Int32.toInt_sub]
    exact bm32 (by unfold mI; omega) (by unfold MI; omega)
  have e2 : (v - w).toInt = v.toInt - w.toInt := by
    rw [Int32.toInt_sub]
    exact bm32 (by unfold mI; omega) (by unfold MI; omega)
  have e3 : (0 - (w - v)).toInt = 0 - (w.toInt - v.toInt) := by
    rw [Int32.toInt_sub, e1, t0]
    exact bm32 (by unfold mI; omega) (by unfold MI; omega)
  unfold AB
  by_cases c : v < w
  · have c' := Int32.lt_iff_toInt_lt.mp c
    rw [if_pos c, if_pos (Int32.le_iff_toInt_le.mpr (by rw [e1, t0]; omega))]
  · have c' : ¬ v.toInt < w.toInt := fun q => c (Int32.lt_iff_toInt_lt.mpr q)
    rw [if_neg c]
    by_cases c2 : (0 : Int32) ≤ w - v
    · rw [if_pos c2]
      have c3 := Int32.le_iff_toInt_le.mp c2
      rw [e1, t0] at c3
      exact Int32.toInt_inj.mp (by rw [e1, e2]; omega)
    · rw [if_neg c2]
      exact Int32.toInt_inj.mp (by rw [e3, e2]; omega)
theorem nI_posu {n : Nat} (h0 : 0 < n) (hn : n < 2 ^ 31) : (0 : Int32) < nI n := by
  have q := nI_lt h0 hn
  rw [nI_0] at q
  exact q
/-- what it says is small -/
theorem say_bd {k : Nat} {p v : Int32} (hh : HI HT h) (hj : JT h) (hk : k < 9) (q : Run prog E pV1 118 mX4_sayAt [.ref (39 + k), .int p] h (some (.int v), h, 0, 0)) : 0 ≤ v.toInt ∧ v.toInt ≤ 3 := by
  have hm : 39 + k ∈ ([39, 40, 41, 42, 43, 44, 45, 46, 47] : List Nat) := by
    match k, hk with
    | 0, _ => decide
    | 1, _ => decide
    | 2, _ => decide
    | 3, _ => decide
    | 4, _ => decide
    | 5, _ => decide
    | 6, _ => decide
    | 7, _ => decide
    | 8, _ => decide
  obtain ⟨r, h', q', hr, -⟩ := (kg_c_sayF (E := E)) mX4_sayAt rfl 118 (Nat.le_of_ble_eq_true rfl) [.ref (39 + k), .int p] h ⟨Or.inr ⟨39 + k, hm, rfl⟩, ⟨p, rfl, i32_lo p, i32_hi p⟩, trivial⟩ hh hj
  rcases q' with q' | q'
  · have e := Run.det q q'
    obtain ⟨w, ew, b⟩ := (show ∃ w : Int32, r = some (.int w) ∧ 0 ≤ w.toInt ∧ w.toInt ≤ 3 from hr)
    have e1 : some (Value.int v) = r := (Prod.mk.inj e).1
    rw [ew] at e1
    have e2 : v = w := Value.int.inj (Option.some.inj e1)
    rw [e2]
    exact b
  · exact absurd q'.1 (List.cons_ne_nil _ _)
theorem say_0 {d k p sz : Nat} (hh : HI HT h) (hk : k < 9) (za : ri h (39 + k) 2 = nI sz) (hp : sz ≤ p) (hp24 : p < 24) : Run prog E pV1 (d + 1) mX4_sayAt [.ref (39 + k), .int (nI p)] h (some (.int 0), h, 0, 0) := by
  obtain ⟨fsr, hor, hfr⟩ := rub_obj hh hk
  have hsz := hfr 2 (by decide)
  rw [za] at hsz
  refine ⟨Nat.le_of_ble_eq_true rfl, ⟨_, _, rfl⟩, ?_⟩
  show RA prog E pV1 (d + 1) mX4_sayAt 0 [some (.ref (39 + k)), some (.int (nI p))] [] h (some (.int 0), h, 0, 0)
  refine RA.steps (i' := 1) (L' := [some (.ref (39 + k)), some (.int (nI p))]) (st' := [.int (nI p)]) (h' := h) 1 rfl ?_
  refine RA.if1F rfl (decide_eq_false (Int32.not_lt.mpr (nI_cl (by omega)).1)) ?_
  refine RA.steps (i' := 4) (L' := [some (.ref (39 + k)), some (.int (nI p))]) (st' := [.ref (39 + k), .int (nI p)]) (h' := h) 2 rfl ?_
  refine RA.getf rfl hor rfl hsz ?_
  refine RA.if2F rfl (decide_eq_false (Int32.not_lt.mpr (nI_le hp (by omega)))) ?_
  refine RA.steps (i' := 7) (L' := [some (.ref (39 + k)), some (.int (nI p))]) (st' := [.int 0]) (h' := h) 1 rfl ?_
  exact RA.ret rfl rfl
theorem off_x {d : Nat} {v w : Int32} (hv : -1000000005 ≤ v.toInt ∧ v.toInt ≤ 99999) (hw : 0 ≤ w.toInt ∧ w.toInt ≤ 3) : Run prog E pV1 (d + 1) mX8_off [.int v, .int w] h (some (.int (AB (w - v))), h, 0, 0) := by
  refine ⟨Nat.le_of_ble_eq_true rfl, ⟨_, _, rfl⟩, ?_⟩
  show RA prog E pV1 (d + 1) mX8_off 0 [some (.int v), some (.int w)] [] h (some (.int (AB (w - v))), h, 0, 0)
  rw [ab_eq hv hw]
  by_cases c : v < w
  · rw [if_pos c]
    refine RA.steps (i' := 2) (L' := [some (.int v), some (.int w)]) (st' := [.int w, .int v]) (h' := h) 2 rfl ?_
    refine RA.if2F rfl (decide_eq_false (Int32.not_le.mpr c)) ?_
    refine RA.steps (i' := 10) (L' := [some (.int v), some (.int w)]) (st' := [.int (w - v)]) (h' := h) 4 rfl ?_
    exact RA.ret rfl rfl
  · rw [if_neg c]
    refine RA.steps (i' := 2) (L' := [some (.int v), some (.int w)]) (st' := [.int w, .int v]) (h' := h) 2 rfl ?_
    refine RA.if2T rfl (decide_eq_true (Int32.not_lt.mp c)) ?_
    refine RA.steps (i' := 10) (L' := [some (.int v), some (.int w)]) (st' := [.int (v - w)]) (h' := h) 3 rfl ?_
    exact RA.ret rfl rfl
theorem apart_l {k u l sz : Nat} {S V : Nat → Int32} (hh : HI HT h) (hk : k < 9) (hu : u < 4) (hl : l ≤ 24) (sz8 : sz ≤ 8) (za : ri h (39 + k) 2 = nI sz) (zl : ri h (82 + 2 * u) 2 = nI l) (pv : pint h (83 + 2 * u) = some (24, V)) (fS : ∀ p : Nat, p < sz → Run prog E pV1 118 mX4_sayAt [.ref (39 + k), .int (nI p)] h (some (.int (S p)), h, 0, 0)) : ∀ (m p : Nat) (s : Int32) (o4 : Option Value), p + m = l → RA prog E pV1 119 mX7_apart 4 [some (.ref (39 + k)), some (.ref (82 + 2 * u)), some (.int s), some (.int (nI p)), o4] [] h (some (.int (AP S V sz m p s)), h, 0, 0) := by
  have _ := sz8
  obtain ⟨fsr, hor, -⟩ := rub_obj hh hk
  obtain ⟨fsu, hou, ku, -, zu⟩ := row_obj hh u hu
  rw [zl] at zu
  have hat : ∀ p : Nat, p < l → Run prog E pV1 118 mX3_at [.ref (82 + 2 * u), .int (nI p)] h (some (.int (V p)), h, 0, 0) := fun p hp => by
    have q := at_x (E := E) (d := 116) hou ku zu ⟨show p < 24 by omega, hl⟩ pv
    rw [show atV V l p = V p from if_pos hp] at q
    exact q
  intro m
  induction m with
  | zero =>
    intro p s o4 h1
    show RA prog E pV1 119 mX7_apart 4 [some (.ref (39 + k)), some (.ref (82 + 2 * u)), some (.int s), some (.int (nI p)), o4] [] h (some (.int s), h, 0, 0)
    refine RA.steps (i' := 8) (L' := [some (.ref (39 + k)), some (.ref (82 + 2 * u)), some (.int s), some (.int (nI p)), o4]) (st' := [.ref (82 + 2 * u), .int (nI p)]) (h' := h) 4 rfl ?_
    refine RA.getf rfl hou rfl zu ?_
    refine RA.if2T rfl (decide_eq_true (nI_le (show l ≤ p by omega) (by omega))) ?_
    refine RA.steps (i' := 29) (L' := [some (.ref (39 + k)), some (.ref (82 + 2 * u)), some (.int s), some (.int (nI p)), o4]) (st' := [.int s]) (h' := h) 1 rfl ?_
    exact RA.ret rfl rfl
  | succ m ih =>
    intro p s o4 h1
    rw [AP_s]
    refine RA.steps (i' := 8) (L' := [some (.ref (39 + k)), some (.ref (82 + 2 * u)), some (.int s), some (.int (nI p)), o4]) (st' := [.ref (82 + 2 * u), .int (nI p)]) (h' := h) 4 rfl ?_
    refine RA.getf rfl hou rfl zu ?_
    refine RA.if2F rfl (decide_eq_false (Int32.not_le.mpr (nI_lt (show p < l by omega) (by omega)))) ?_
    refine RA.steps (i' := 12) (L' := [some (.ref (39 + k)), some (.ref (82 + 2 * u)), some (.int s), some (.int (nI p)), o4]) (st' := [.int (nI p), .ref (82 + 2 * u)]) (h' := h) 2 rfl ?_
    refine RA.call0 (N := mX3_at) (as := [.ref (82 + 2 * u), .int (nI p)]) (rest := []) rfl rfl (pcallV rfl rfl hou rfl rfl (Nat.le_of_ble_eq_true rfl)) (hat p (by omega)) ?_
    refine RA.steps (i' := 16) (L' := [some (.ref (39 + k)), some (.ref (82 + 2 * u)), some (.int s), some (.int (nI p)), some (.int (V p))]) (st' := [.int (-1000000005), .int (V p)]) (h' := h) 3 rfl ?_
    by_cases c : V p = -1000000005
    · rw [if_pos c]
      refine RA.if2T rfl (decide_eq_true c) ?_
      refine RA.iinc rfl rfl (nI_1 p) rfl ?_
      refine RA.steps (i' := 4) (L' := [some (.ref (39 + k)), some (.ref (82 + 2 * u)), some (.int s), some (.int (nI (p + 1))), some (.int (V p))]) (st' := []) (h' := h) 1 rfl ?_
      exact ih (p + 1) s _ (by omega)
    · rw [if_neg c]
      by_cases c2 : p < sz
      · rw [if_pos c2]
        refine RA.if2F rfl (decide_eq_false c) ?_
        refine RA.steps (i' := 20) (L' := [some (.ref (39 + k)), some (.ref (82 + 2 * u)), some (.int s), some (.int (nI p)), some (.int (V p))]) (st' := [.int (nI p), .ref (39 + k), .int s]) (h' := h) 3 rfl ?_
        refine RA.call0 (N := mX4_sayAt) (as := [.ref (39 + k), .int (nI p)]) (rest := [.int s]) rfl rfl (pcallV rfl rfl hor rfl rfl (Nat.le_of_ble_eq_true rfl)) (fS p c2) ?_
        refine RA.steps (i' := 26) (L' := [some (.ref (39 + k)), some (.ref (82 + 2 * u)), some (.int (s + (AB ((S p) - (V p))))), some (.int (nI p)), some (.int (V p))]) (st' := []) (h' := h) 5 rfl ?_
        refine RA.iinc rfl rfl (nI_1 p) rfl ?_
        refine RA.steps (i' := 4) (L' := [some (.ref (39 + k)), some (.ref (82 + 2 * u)), some (.int (s + (AB ((S p) - (V p))))), some (.int (nI (p + 1))), some (.int (V p))]) (st' := []) (h' := h) 1 rfl ?_
        exact ih (p + 1) _ _ (by omega)
      · rw [if_neg c2]
        refine RA.if2F rfl (decide_eq_false c) ?_
        refine RA.steps (i' := 20) (L' := [some (.ref (39 + k)), some (.ref (82 + 2 * u)), some (.int s), some (.int (nI p)), some (.int (V p))]) (st' := [.int (nI p), .ref (39 + k), .int s]) (h' := h) 3 rfl ?_
        refine RA.call0 (N := mX4_sayAt) (as := [.ref (39 + k), .int (nI p)]) (rest := [.int s]) rfl rfl (pcallV rfl rfl hor rfl rfl (Nat.le_of_ble_eq_true rfl)) (say_0 (d := 117) hh hk za (show sz ≤ p by omega) (show p < 24 by omega)) ?_
        refine RA.steps (i' := 26) (L' := [some (.ref (39 + k)), some (.ref (82 + 2 * u)), some (.int (s + (AB (0 - (V p))))), some (.int (nI p)), some (.int (V p))]) (st' := []) (h' := h) 5 rfl ?_
        refine RA.iinc rfl rfl (nI_1 p) rfl ?_
        refine RA.steps (i' := 4) (L' := [some (.ref (39 + k)), some (.ref (82 + 2 * u)), some (.int (s + (AB (0 - (V p))))), some (.int (nI (p + 1))), some (.int (V p))]) (st' := []) (h' := h) 1 rfl ?_
        exact ih (p + 1) _ _ (by omega)
/-- what stands behind the inner loop -/
def KIn (E : pX) (h : List pC) (R : pR) (u k l : Nat) (x2 : Int32) (o3 o4 : Option Value) (a : Int32) : Prop := ∀ o8' : Option Value, RA prog E pV1 120 mX8_whose 73 [some (.ref 110), some (.int (nI u)), some (.int x2), o3, o4, some (.int (nI k)), some (.int a), some (.int (nI l)), o8'] [] h R
/-- the inner loop comes to a -/
def InR (E : pX) (h : List pC) (u l : Nat) (x2 : Int32) (k : Nat) (a : Int32) : Prop := ∀ (o3 o4 o8 : Option Value) (R : pR), KIn E h R u k l x2 o3 o4 a → RA prog E pV1 120 mX8_whose 34 [some (.ref 110), some (.int (nI u)), some (.int x2), o3, o4, some (.int (nI k)), some (.int 0), some (.int 0), o8] [] h R
theorem inner_l {k u l sz : Nat} {S V T Z : Nat → Int32} {x2 : Int32} {fs8 : List Value} {o3 o4 : Option Value} {R : pR} (hh : HI HT h) (hk : k < 9) (hu : u < 4) (hl : l ≤ 24) (sz8 : sz ≤ 8) (ra : ri h 111 (21 + 6 * k + 2) = nI sz) (ho8 : pobj h 110 = some (8, fs8)) (f5 : fs8[5]? = some (.ref 115)) (f6 : fs8[6]? = some (.ref 116)) (pZ : pint h 115 = some (4, Z)) (eZ : Z (nI u).toNatClampNeg = nI l) (pT : pint h 116 = some (96, T)) (hT : ∀ j : Nat, j < 24 → T (24 * u + j) = V j) (hS : ∀ p : Nat, p < sz → Run prog E pV1 119 mX8_saysAt [.ref 110, .int (nI k), .int (nI p)] h (some (.int (S p)), h, 0, 0)) (hb : ∀ p : Nat, p < sz → 0 ≤ (S p).toInt ∧ (S p).toInt ≤ 3) (hv : ∀ p : Nat, p < 24 → -1000000005 ≤ (V p).toInt ∧ (V p).toInt ≤ 99999) : ∀ (m p : Nat) (s : Int32) (o8 : Option Value), p + m = l → KIn E h R u k l x2 o3 o4 (AP S V sz m p s) → RA prog E pV1 120 mX8_whose 34 [some (.ref 110), some (.int (nI u)), some (.int x2), o3, o4, some (.int (nI k)), some (.int s), some (.int (nI p)), o8] [] h R := by
  have bS : 0 ≤ nI u ∧ (nI u).toNatClampNeg < 4 := ⟨(nI_cl (by omega)).1, by rw [(nI_cl (by omega)).2]; exact hu⟩
  intro m
  induction m with
  | zero =>
    intro p s o8 h1 K
    have e : nI p = nI l := by rw [show p = l by omega]
    rw [e]
    refine RA.steps (i' := 36) (L' := [some (.ref 110), some (.int (nI u)), some (.int x2), o3, o4, some (.int (nI k)), some (.int s), some (.int (nI l)), o8]) (st' := [.ref 110, .int (nI l)]) (h' := h) 2 rfl ?_
    refine RA.getf rfl ho8 rfl f5 ?_
    refine RA.steps (i' := 38) (L' := [some (.ref 110), some (.int (nI u)), some (.int x2), o3, o4, some (.int (nI k)), some (.int s), some (.int (nI l)), o8]) (st' := [.int (nI u), .ref 115, .int (nI l)]) (h' := h) 1 rfl ?_
    refine RA.iald rfl pZ bS eZ ?_
    refine RA.if2T rfl (decide_eq_true (nI_le (Nat.le_refl l) (by omega))) ?_
    exact K _
  | succ m ih =>
    intro p s o8 h1 K
    rw [AP_s] at K
    refine RA.steps (i' := 36) (L' := [some (.ref 110), some (.int (nI u)), some (.int x2), o3, o4, some (.int (nI k)), some (.int s), some (.int (nI p)), o8]) (st' := [.ref 110, .int (nI p)]) (h' := h) 2 rfl ?_
    refine RA.getf rfl ho8 rfl f5 ?_
    refine RA.steps (i' := 38) (L' := [some (.ref 110), some (.int (nI u)), some (.int x2), o3, o4, some (.int (nI k)), some (.int s), some (.int (nI p)), o8]) (st' := [.int (nI u), .ref 115, .int (nI p)]) (h' := h) 1 rfl ?_
    refine RA.iald rfl pZ bS eZ ?_
    refine RA.if2F rfl (decide_eq_false (Int32.not_le.mpr (nI_lt (show p < l by omega) (by omega)))) ?_
    refine RA.steps (i' := 41) (L' := [some (.ref 110), some (.int (nI u)), some (.int x2), o3, o4, some (.int (nI k)), some (.int s), some (.int (nI p)), o8]) (st' := [.ref 110]) (h' := h) 1 rfl ?_
    refine RA.getf rfl ho8 rfl f6 ?_
    refine RA.steps (i' := 47) (L' := [some (.ref 110), some (.int (nI u)), some (.int x2), o3, o4, some (.int (nI k)), some (.int s), some (.int (nI p)), o8]) (st' := [.int ((24 * (nI u)) + (nI p)), .ref 116]) (h' := h) 5 rfl ?_
    rw [(eAdr hu)]
    refine RA.iald (w := (V p)) rfl pT ⟨(nI_cl (by omega)).1, by rw [(nI_cl (by omega)).2]; show 24 * u + p < 96; omega⟩ (by rw [(nI_cl (by omega)).2]; exact hT p (by omega)) ?_
    refine RA.steps (i' := 52) (L' := [some (.ref 110), some (.int (nI u)), some (.int x2), o3, o4, some (.int (nI k)), some (.int s), some (.int (nI p)), some (.int (V p))]) (st' := [.int (-1000000005), .int (V p), .int s]) (h' := h) 4 rfl ?_
    by_cases c : V p = -1000000005
    · rw [if_pos c] at K
      refine RA.if2F rfl (decide_eq_false (fun q => q c)) ?_
      refine RA.steps (i' := 70) (L' := [some (.ref 110), some (.int (nI u)), some (.int x2), o3, o4, some (.int (nI k)), some (.int s), some (.int (nI p)), some (.int (V p))]) (st' := [.int (s + 0)]) (h' := h) 3 rfl ?_
      rw [(Int32.add_zero s)]
      refine RA.steps (i' := 71) (L' := [some (.ref 110), some (.int (nI u)), some (.int x2), o3, o4, some (.int (nI k)), some (.int s), some (.int (nI p)), some (.int (V p))]) (st' := []) (h' := h) 1 rfl ?_
      refine RA.iinc rfl rfl (nI_1 p) rfl ?_
      refine RA.steps (i' := 34) (L' := [some (.ref 110), some (.int (nI u)), some (.int x2), o3, o4, some (.int (nI k)), some (.int s), some (.int (nI (p + 1))), some (.int (V p))]) (st' := []) (h' := h) 1 rfl ?_
      exact ih (p + 1) s _ (by omega) K
    · rw [if_neg c] at K
      by_cases c2 : p < sz
      · rw [if_pos c2] at K
        refine RA.if2T rfl (decide_eq_true c) ?_
        refine RA.steps (i' := 60) (L' := [some (.ref 110), some (.int (nI u)), some (.int x2), o3, o4, some (.int (nI k)), some (.int s), some (.int (nI p)), some (.int (V p))]) (st' := [.int 2, .int (nI k), .ref 110, .int (nI p), .int (V p), .int s]) (h' := h) 5 rfl ?_
        refine RA.call0 (N := mX8_of) (as := [.ref 110, .int (nI k), .int 2]) (rest := [.int (nI p), .int (V p), .int s]) rfl rfl (pcallV rfl rfl ho8 rfl rfl (Nat.le_of_ble_eq_true rfl)) (of_z (d := 118) hh hk ra) ?_
        refine RA.if2F rfl (decide_eq_false (Int32.not_le.mpr (nI_lt (show p < sz by omega) (by omega)))) ?_
        refine RA.steps (i' := 65) (L' := [some (.ref 110), some (.int (nI u)), some (.int x2), o3, o4, some (.int (nI k)), some (.int s), some (.int (nI p)), some (.int (V p))]) (st' := [.int (nI p), .int (nI k), .ref 110, .int (V p), .int s]) (h' := h) 3 rfl ?_
        refine RA.call0 (N := mX8_saysAt) (as := [.ref 110, .int (nI k), .int (nI p)]) (rest := [.int (V p), .int s]) rfl rfl (pcallV rfl rfl ho8 rfl rfl (Nat.le_of_ble_eq_true rfl)) (hS p c2) ?_
        refine RA.steps (i' := 68) (L' := [some (.ref 110), some (.int (nI u)), some (.int x2), o3, o4, some (.int (nI k)), some (.int s), some (.int (nI p)), some (.int (V p))]) (st' := [.int (S p), .int (V p), .int s]) (h' := h) 1 rfl ?_
        refine RA.call0 (N := mX8_off) (as := [.int (V p), .int (S p)]) (rest := [.int s]) rfl rfl rfl (off_x (d := 118) (hv p (by omega)) (hb p c2)) ?_
        refine RA.steps (i' := 71) (L' := [some (.ref 110), some (.int (nI u)), some (.int x2), o3, o4, some (.int (nI k)), some (.int (s + (AB (S p - V p)))), some (.int (nI p)), some (.int (V p))]) (st' := []) (h' := h) 2 rfl ?_
        refine RA.iinc rfl rfl (nI_1 p) rfl ?_
        refine RA.steps (i' := 34) (L' := [some (.ref 110), some (.int (nI u)), some (.int x2), o3, o4, some (.int (nI k)), some (.int (s + (AB (S p - V p)))), some (.int (nI (p + 1))), some (.int (V p))]) (st' := []) (h' := h) 1 rfl ?_
        exact ih (p + 1) _ _ (by omega) K
      · rw [if_neg c2] at K
        refine RA.if2T rfl (decide_eq_true c) ?_
        refine RA.steps (i' := 60) (L' := [some (.ref 110), some (.int (nI u)), some (.int x2), o3, o4, some (.int (nI k)), some (.int s), some (.int (nI p)), some (.int (V p))]) (st' := [.int 2, .int (nI k), .ref 110, .int (nI p), .int (V p), .int s]) (h' := h) 5 rfl ?_
        refine RA.call0 (N := mX8_of) (as := [.ref 110, .int (nI k), .int 2]) (rest := [.int (nI p), .int (V p), .int s]) rfl rfl (pcallV rfl rfl ho8 rfl rfl (Nat.le_of_ble_eq_true rfl)) (of_z (d := 118) hh hk ra) ?_
        refine RA.if2T rfl (decide_eq_true (nI_le (show sz ≤ p by omega) (by omega))) ?_
        refine RA.steps (i' := 68) (L' := [some (.ref 110), some (.int (nI u)), some (.int x2), o3, o4, some (.int (nI k)), some (.int s), some (.int (nI p)), some (.int (V p))]) (st' := [.int 0, .int (V p), .int s]) (h' := h) 1 rfl ?_
        refine RA.call0 (N := mX8_off) (as := [.int (V p), .int 0]) (rest := [.int s]) rfl rfl rfl (off_x (d := 118) (w := 0) (hv p (by omega)) ⟨by decide, by decide⟩) ?_
        refine RA.steps (i' := 71) (L' := [some (.ref 110), some (.int (nI u)), some (.int x2), o3, o4, some (.int (nI k)), some (.int (s + (AB (0 - V p)))), some (.int (nI p)), some (.int (V p))]) (st' := []) (h' := h) 2 rfl ?_
        refine RA.iinc rfl rfl (nI_1 p) rfl ?_
        refine RA.steps (i' := 34) (L' := [some (.ref 110), some (.int (nI u)), some (.int x2), o3, o4, some (.int (nI k)), some (.int (s + (AB (0 - V p)))), some (.int (nI (p + 1))), some (.int (V p))]) (st' := []) (h' := h) 1 rfl ?_
        exact ih (p + 1) _ _ (by omega) K
theorem ap_fn {k u l : Nat} {x2 : Int32} (hh : HI HT h) (hj : JT h) (hk : k < 9) (hu : u < 4) (hl : l ≤ 24) (zl : ri h (82 + 2 * u) 2 = nI l) (zr : ri h 115 u = nI l) (hr : RubK h k) (hv : RV h) (vb : VB h) : ∃ a : Int32, Run prog E pV1 119 mX7_apart [.ref (39 + k), .ref (82 + 2 * u)] h (some (.int a), h, 0, 0) ∧ InR E h u l x2 k a := by
  obtain ⟨sz, sz1, sz8, za⟩ := rub_sz hh hk
  have ra : ri h 111 (21 + 6 * k + 2) = nI sz := by rw [← hr 2 (by decide)]; exact za
  obtain ⟨S, fS⟩ := say_fn (E := E) (sz := sz) hh hj hk hr (by rw [za]; exact nI_toInt (by omega))
  obtain ⟨V, pv, uv⟩ := vals_at hh u hu
  obtain ⟨fs8, ho8, hF8⟩ := hi_obj hh (a := 110) rfl
  obtain ⟨Z, pZ, uZ, -⟩ := hi_int (a := 115) (n := 4) (sg := [(0, 3, 0, 24)]) hh rfl
  obtain ⟨T, pT, uT, -⟩ := hi_int (a := 116) (n := 96) (sg := []) hh rfl
  have eZ : Z (nI u).toNatClampNeg = nI l := by rw [(nI_cl (by omega)).2, ← uZ u hu]; exact zr
  have hT : ∀ j : Nat, j < 24 → T (24 * u + j) = V j := fun j hj24 => by
    rw [← uT (24 * u + j) (by omega), ← uv j hj24]
    exact (hv u j hu hj24).symm
  have hb : ∀ p : Nat, p < sz → 0 ≤ (S p).toInt ∧ (S p).toInt ≤ 3 := fun p hp => say_bd hh hj hk (fS p hp).1
  have hV : ∀ j : Nat, j < 24 → -1000000005 ≤ (V j).toInt ∧ (V j).toInt ≤ 99999 := fun j hj24 => by
    rw [← uv j hj24]
    exact vb u j hu hj24
  refine ⟨AP S V sz l 0 0, ⟨Nat.le_of_ble_eq_true rfl, ⟨_, _, rfl⟩, ?_⟩, fun o3 o4 o8 R K => ?_⟩
  · refine RA.steps (i' := 4) (L' := [some (.ref (39 + k)), some (.ref (82 + 2 * u)), some (.int 0), some (.int 0), none]) (st' := []) (h' := h) 4 rfl ?_
    have k2 := apart_l hh hk hu hl sz8 za zl pv (fun p hp => (fS p hp).1) l 0 0 none (by omega)
    rw [nI_0] at k2
    exact k2
  · have k2 := inner_l (x2 := x2) hh hk hu hl sz8 ra ho8 (hF8.ref (k := 5) rfl) (hF8.ref (k := 6) rfl) pZ eZ pT hT (fun p hp => Run.dup (fS p hp).2) hb hV l 0 0 o8 (by omega) K
    rw [nI_0] at k2
    exact k2
theorem whose_cl {u n : Nat} {A : Nat → Int32} {x2 : Int32} {fs0 fs34 : List Value} (hh : HI HT h) (ho0 : pobj h 0 = some (7, fs0)) (g1 : fs0[1]? = some (.ref 34)) (ho34 : pobj h 34 = some (6, fs34)) (w5 : fs34[5]? = some (.int (nI n))) (hn : n ≤ 9) (jm : ∀ k : Nat, k < n → (k : Int) < (ri h 34 5).toInt) (jc : ∀ k : Nat, k < n → Run prog E pV1 119 mX7_apart [.ref (39 + k), .ref (82 + 2 * u)] h (some (.int (A k)), h, 0, 0)) : ∀ (m k b : Nat) (o7 : Option Value), k + m = n → b < k → RA prog E pV1 120 mX7_whose 24 [some (.ref 0), some (.int (nI u)), some (.int x2), some (.ref (82 + 2 * u)), some (.int (nI b)), some (.int (A b)), some (.int (nI k)), o7] [] h (some (.int (if x2 = 0 then nI (WBu A m k b) else A (WBu A m k b))), h, 0, 0) := by
  intro m
  induction m with
  | zero =>
    intro k b o7 h1 h2
    show RA prog E pV1 120 mX7_whose 24 [some (.ref 0), some (.int (nI u)), some (.int x2), some (.ref (82 + 2 * u)), some (.int (nI b)), some (.int (A b)), some (.int (nI k)), o7] [] h (some (.int (if x2 = 0 then nI b else A b)), h, 0, 0)
    by_cases c : x2 = 0
    · rw [if_pos c]
      refine RA.steps (i' := 26) (L' := [some (.ref 0), some (.int (nI u)), some (.int x2), some (.ref (82 + 2 * u)), some (.int (nI b)), some (.int (A b)), some (.int (nI k)), o7]) (st' := [.ref 0, .int (nI k)]) (h' := h) 2 rfl ?_
      refine RA.getf rfl ho0 rfl g1 ?_
      refine RA.getf rfl ho34 rfl w5 ?_
      refine RA.if2T rfl (decide_eq_true (nI_le (show n ≤ k by omega) (by omega))) ?_
      refine RA.steps (i' := 48) (L' := [some (.ref 0), some (.int (nI u)), some (.int x2), some (.ref (82 + 2 * u)), some (.int (nI b)), some (.int (A b)), some (.int (nI k)), o7]) (st' := [.int x2]) (h' := h) 1 rfl ?_
      refine RA.if1F rfl (decide_eq_false (fun q => q c)) ?_
      refine RA.steps (i' := 52) (L' := [some (.ref 0), some (.int (nI u)), some (.int x2), some (.ref (82 + 2 * u)), some (.int (nI b)), some (.int (A b)), some (.int (nI k)), o7]) (st' := [.int (nI b)]) (h' := h) 2 rfl ?_
      exact RA.ret rfl rfl
    · rw [if_neg c]
      refine RA.steps (i' := 26) (L' := [some (.ref 0), some (.int (nI u)), some (.int x2), some (.ref (82 + 2 * u)), some (.int (nI b)), some (.int (A b)), some (.int (nI k)), o7]) (st' := [.ref 0, .int (nI k)]) (h' := h) 2 rfl ?_
      refine RA.getf rfl ho0 rfl g1 ?_
      refine RA.getf rfl ho34 rfl w5 ?_
      refine RA.if2T rfl (decide_eq_true (nI_le (show n ≤ k by omega) (by omega))) ?_
      refine RA.steps (i' := 48) (L' := [some (.ref 0), some (.int (nI u)), some (.int x2), some (.ref (82 + 2 * u)), some (.int (nI b)), some (.int (A b)), some (.int (nI k)), o7]) (st' := [.int x2]) (h' := h) 1 rfl ?_
      refine RA.if1T rfl (decide_eq_true c) ?_
      refine RA.steps (i' := 52) (L' := [some (.ref 0), some (.int (nI u)), some (.int x2), some (.ref (82 + 2 * u)), some (.int (nI b)), some (.int (A b)), some (.int (nI k)), o7]) (st' := [.int (A b)]) (h' := h) 1 rfl ?_
      exact RA.ret rfl rfl
  | succ m ih =>
    intro k b o7 h1 h2
    rw [WBu_s]
    refine RA.steps (i' := 26) (L' := [some (.ref 0), some (.int (nI u)), some (.int x2), some (.ref (82 + 2 * u)), some (.int (nI b)), some (.int (A b)), some (.int (nI k)), o7]) (st' := [.ref 0, .int (nI k)]) (h' := h) 2 rfl ?_
    refine RA.getf rfl ho0 rfl g1 ?_
    refine RA.getf rfl ho34 rfl w5 ?_
    refine RA.if2F rfl (decide_eq_false (Int32.not_le.mpr (nI_lt (show k < n by omega) (by omega)))) ?_
    refine RA.steps (i' := 30) (L' := [some (.ref 0), some (.int (nI u)), some (.int x2), some (.ref (82 + 2 * u)), some (.int (nI b)), some (.int (A b)), some (.int (nI k)), o7]) (st' := [.ref 0]) (h' := h) 1 rfl ?_
    refine RA.getf rfl ho0 rfl g1 ?_
    refine RA.steps (i' := 32) (L' := [some (.ref 0), some (.int (nI u)), some (.int x2), some (.ref (82 + 2 * u)), some (.int (nI b)), some (.int (A b)), some (.int (nI k)), o7]) (st' := [.int (nI k), .ref 34]) (h' := h) 1 rfl ?_
    refine RA.call0 (N := mX6_one) (as := [.ref 34, .int (nI k)]) (rest := []) rfl rfl (pcallV rfl rfl ho34 rfl rfl (Nat.le_of_ble_eq_true rfl)) (one_x (d := 118) (k := k) hh (show k < 9 by omega) (jm k (by omega))) ?_
    refine RA.steps (i' := 34) (L' := [some (.ref 0), some (.int (nI u)), some (.int x2), some (.ref (82 + 2 * u)), some (.int (nI b)), some (.int (A b)), some (.int (nI k)), o7]) (st' := [.ref (82 + 2 * u), .ref (39 + k)]) (h' := h) 1 rfl ?_
    refine RA.call0 (N := mX7_apart) (as := [.ref (39 + k), .ref (82 + 2 * u)]) (rest := []) rfl rfl rfl (jc k (by omega)) ?_
    refine RA.steps (i' := 37) (L' := [some (.ref 0), some (.int (nI u)), some (.int x2), some (.ref (82 + 2 * u)), some (.int (nI b)), some (.int (A b)), some (.int (nI k)), some (.int (A k))]) (st' := [.int (nI k)]) (h' := h) 2 rfl ?_
    refine RA.if1F rfl (decide_eq_false (fun q => absurd ((nI_eq (by omega) (by omega)).mp (show nI k = nI 0 from q.trans nI_0.symm)) (by omega))) ?_
    refine RA.steps (i' := 40) (L' := [some (.ref 0), some (.int (nI u)), some (.int x2), some (.ref (82 + 2 * u)), some (.int (nI b)), some (.int (A b)), some (.int (nI k)), some (.int (A k))]) (st' := [.int (A b), .int (A k)]) (h' := h) 2 rfl ?_
    by_cases c : A k < A b
    · rw [if_pos c]
      refine RA.if2F rfl (decide_eq_false (Int32.not_le.mpr c)) ?_
      refine RA.steps (i' := 45) (L' := [some (.ref 0), some (.int (nI u)), some (.int x2), some (.ref (82 + 2 * u)), some (.int (nI k)), some (.int (A k)), some (.int (nI k)), some (.int (A k))]) (st' := []) (h' := h) 4 rfl ?_
      refine RA.iinc rfl rfl (nI_1 k) rfl ?_
      refine RA.steps (i' := 24) (L' := [some (.ref 0), some (.int (nI u)), some (.int x2), some (.ref (82 + 2 * u)), some (.int (nI k)), some (.int (A k)), some (.int (nI (k + 1))), some (.int (A k))]) (st' := []) (h' := h) 1 rfl ?_
      exact ih (k + 1) k _ (by omega) (by omega)
    · rw [if_neg c]
      refine RA.if2T rfl (decide_eq_true (Int32.not_lt.mp c)) ?_
      refine RA.iinc rfl rfl (nI_1 k) rfl ?_
      refine RA.steps (i' := 24) (L' := [some (.ref 0), some (.int (nI u)), some (.int x2), some (.ref (82 + 2 * u)), some (.int (nI b)), some (.int (A b)), some (.int (nI (k + 1))), some (.int (A k))]) (st' := []) (h' := h) 1 rfl ?_
      exact ih (k + 1) b _ (by omega) (by omega)
theorem whose_c0 {u n m : Nat} {A : Nat → Int32} {x2 : Int32} {fs0 fs34 : List Value} (hh : HI HT h) (ho0 : pobj h 0 = some (7, fs0)) (g1 : fs0[1]? = some (.ref 34)) (ho34 : pobj h 34 = some (6, fs34)) (w5 : fs34[5]? = some (.int (nI n))) (hn : n ≤ 9) (jm : ∀ k : Nat, k < n → (k : Int) < (ri h 34 5).toInt) (jc : ∀ k : Nat, k < n → Run prog E pV1 119 mX7_apart [.ref (39 + k), .ref (82 + 2 * u)] h (some (.int (A k)), h, 0, 0)) (hm : 1 + m = n) : RA prog E pV1 120 mX7_whose 24 [some (.ref 0), some (.int (nI u)), some (.int x2), some (.ref (82 + 2 * u)), some (.int (-1000000005)), some (.int (-1000000005)), some (.int (nI 0)), none] [] h (some (.int (if x2 = 0 then nI (WBu A m 1 0) else A (WBu A m 1 0))), h, 0, 0) := by
  refine RA.steps (i' := 26) (L' := [some (.ref 0), some (.int (nI u)), some (.int x2), some (.ref (82 + 2 * u)), some (.int (-1000000005)), some (.int (-1000000005)), some (.int (nI 0)), none]) (st' := [.ref 0, .int (nI 0)]) (h' := h) 2 rfl ?_
  refine RA.getf rfl ho0 rfl g1 ?_
  refine RA.getf rfl ho34 rfl w5 ?_
  refine RA.if2F rfl (decide_eq_false (Int32.not_le.mpr (nI_lt (show 0 < n by omega) (by omega)))) ?_
  refine RA.steps (i' := 30) (L' := [some (.ref 0), some (.int (nI u)), some (.int x2), some (.ref (82 + 2 * u)), some (.int (-1000000005)), some (.int (-1000000005)), some (.int (nI 0)), none]) (st' := [.ref 0]) (h' := h) 1 rfl ?_
  refine RA.getf rfl ho0 rfl g1 ?_
  refine RA.steps (i' := 32) (L' := [some (.ref 0), some (.int (nI u)), some (.int x2), some (.ref (82 + 2 * u)), some (.int (-1000000005)), some (.int (-1000000005)), some (.int (nI 0)), none]) (st' := [.int (nI 0), .ref 34]) (h' := h) 1 rfl ?_
  refine RA.call0 (N := mX6_one) (as := [.ref 34, .int (nI 0)]) (rest := []) rfl rfl (pcallV rfl rfl ho34 rfl rfl (Nat.le_of_ble_eq_true rfl)) (one_x (d := 118) (k := 0) hh (show 0 < 9 by omega) (jm 0 (by omega))) ?_
  refine RA.steps (i' := 34) (L' := [some (.ref 0), some (.int (nI u)), some (.int x2), some (.ref (82 + 2 * u)), some (.int (-1000000005)), some (.int (-1000000005)), some (.int (nI 0)), none]) (st' := [.ref (82 + 2 * u), .ref (39 + 0)]) (h' := h) 1 rfl ?_
  refine RA.call0 (N := mX7_apart) (as := [.ref (39 + 0), .ref (82 + 2 * u)]) (rest := []) rfl rfl rfl (jc 0 (by omega)) ?_
  refine RA.steps (i' := 37) (L' := [some (.ref 0), some (.int (nI u)), some (.int x2), some (.ref (82 + 2 * u)), some (.int (-1000000005)), some (.int (-1000000005)), some (.int (nI 0)), some (.int (A 0))]) (st' := [.int (nI 0)]) (h' := h) 2 rfl ?_
  refine RA.if1T rfl (decide_eq_true nI_0) ?_
  refine RA.steps (i' := 45) (L' := [some (.ref 0), some (.int (nI u)), some (.int x2), some (.ref (82 + 2 * u)), some (.int (nI 0)), some (.int (A 0)), some (.int (nI 0)), some (.int (A 0))]) (st' := []) (h' := h) 4 rfl ?_
  refine RA.iinc rfl rfl (nI_1 0) rfl ?_
  refine RA.steps (i' := 24) (L' := [some (.ref 0), some (.int (nI u)), some (.int x2), some (.ref (82 + 2 * u)), some (.int (nI 0)), some (.int (A 0)), some (.int (nI (0 + 1))), some (.int (A 0))]) (st' := []) (h' := h) 1 rfl ?_
  exact whose_cl hh ho0 g1 ho34 w5 hn jm jc m 1 0 _ (by omega) (by decide)
theorem whose_rl {u n l : Nat} {A : Nat → Int32} {x2 : Int32} {fs8 : List Value} {t : Nat → Int32} (hh : HI HT h) (hn : n ≤ 9) (ho8 : pobj h 110 = some (8, fs8)) (f0 : fs8[0]? = some (.ref 111)) (p111 : pint h 111 = some (3075, t)) (e0 : t 0 = nI n) (jr : ∀ k : Nat, k < n → InR E h u l x2 k (A k)) : ∀ (m k b : Nat) (o6 o7 o8 : Option Value), k + m = n → b < k → RA prog E pV1 120 mX8_whose 24 [some (.ref 110), some (.int (nI u)), some (.int x2), some (.int (nI b)), some (.int (A b)), some (.int (nI k)), o6, o7, o8] [] h (some (.int (if x2 = 0 then nI (WBu A m k b) else A (WBu A m k b))), h, 0, 0) := by
  intro m
  induction m with
  | zero =>
    intro k b o6 o7 o8 h1 h2
    show RA prog E pV1 120 mX8_whose 24 [some (.ref 110), some (.int (nI u)), some (.int x2), some (.int (nI b)), some (.int (A b)), some (.int (nI k)), o6, o7, o8] [] h (some (.int (if x2 = 0 then nI b else A b)), h, 0, 0)
    by_cases c : x2 = 0
    · rw [if_pos c]
      refine RA.steps (i' := 26) (L' := [some (.ref 110), some (.int (nI u)), some (.int x2), some (.int (nI b)), some (.int (A b)), some (.int (nI k)), o6, o7, o8]) (st' := [.ref 110, .int (nI k)]) (h' := h) 2 rfl ?_
      refine RA.getf rfl ho8 rfl f0 ?_
      refine RA.steps (i' := 28) (L' := [some (.ref 110), some (.int (nI u)), some (.int x2), some (.int (nI b)), some (.int (A b)), some (.int (nI k)), o6, o7, o8]) (st' := [.int 0, .ref 111, .int (nI k)]) (h' := h) 1 rfl ?_
      refine RA.iald rfl p111 ⟨by decide, Nat.le_of_ble_eq_true rfl⟩ e0 ?_
      refine RA.if2T rfl (decide_eq_true (nI_le (show n ≤ k by omega) (by omega))) ?_
      refine RA.steps (i' := 85) (L' := [some (.ref 110), some (.int (nI u)), some (.int x2), some (.int (nI b)), some (.int (A b)), some (.int (nI k)), o6, o7, o8]) (st' := [.int (nI b)]) (h' := h) 1 rfl ?_
      refine RA.if1T rfl (decide_eq_true (nI_cl (by omega)).1) ?_
      refine RA.steps (i' := 89) (L' := [some (.ref 110), some (.int (nI u)), some (.int x2), some (.int (nI b)), some (.int (A b)), some (.int (nI k)), o6, o7, o8]) (st' := [.int x2]) (h' := h) 1 rfl ?_
      refine RA.if1F rfl (decide_eq_false (fun q => q c)) ?_
      refine RA.steps (i' := 93) (L' := [some (.ref 110), some (.int (nI u)), some (.int x2), some (.int (nI b)), some (.int (A b)), some (.int (nI k)), o6, o7, o8]) (st' := [.int (nI b)]) (h' := h) 2 rfl ?_
      exact RA.ret rfl rfl
    · rw [if_neg c]
      refine RA.steps (i' := 26) (L' := [some (.ref 110), some (.int (nI u)), some (.int x2), some (.int (nI b)), some (.int (A b)), some (.int (nI k)), o6, o7, o8]) (st' := [.ref 110, .int (nI k)]) (h' := h) 2 rfl ?_
      refine RA.getf rfl ho8 rfl f0 ?_
      refine RA.steps (i' := 28) (L' := [some (.ref 110), some (.int (nI u)), some (.int x2), some (.int (nI b)), some (.int (A b)), some (.int (nI k)), o6, o7, o8]) (st' := [.int 0, .ref 111, .int (nI k)]) (h' := h) 1 rfl ?_
      refine RA.iald rfl p111 ⟨by decide, Nat.le_of_ble_eq_true rfl⟩ e0 ?_
      refine RA.if2T rfl (decide_eq_true (nI_le (show n ≤ k by omega) (by omega))) ?_
      refine RA.steps (i' := 85) (L' := [some (.ref 110), some (.int (nI u)), some (.int x2), some (.int (nI b)), some (.int (A b)), some (.int (nI k)), o6, o7, o8]) (st' := [.int (nI b)]) (h' := h) 1 rfl ?_
      refine RA.if1T rfl (decide_eq_true (nI_cl (by omega)).1) ?_
      refine RA.steps (i' := 89) (L' := [some (.ref 110), some (.int (nI u)), some (.int x2), some (.int (nI b)), some (.int (A b)), some (.int (nI k)), o6, o7, o8]) (st' := [.int x2]) (h' := h) 1 rfl ?_
      refine RA.if1T rfl (decide_eq_true c) ?_
      refine RA.steps (i' := 93) (L' := [some (.ref 110), some (.int (nI u)), some (.int x2), some (.int (nI b)), some (.int (A b)), some (.int (nI k)), o6, o7, o8]) (st' := [.int (A b)]) (h' := h) 1 rfl ?_
      exact RA.ret rfl rfl
  | succ m ih =>
    intro k b o6 o7 o8 h1 h2
    rw [WBu_s]
    refine RA.steps (i' := 26) (L' := [some (.ref 110), some (.int (nI u)), some (.int x2), some (.int (nI b)), some (.int (A b)), some (.int (nI k)), o6, o7, o8]) (st' := [.ref 110, .int (nI k)]) (h' := h) 2 rfl ?_
    refine RA.getf rfl ho8 rfl f0 ?_
    refine RA.steps (i' := 28) (L' := [some (.ref 110), some (.int (nI u)), some (.int x2), some (.int (nI b)), some (.int (A b)), some (.int (nI k)), o6, o7, o8]) (st' := [.int 0, .ref 111, .int (nI k)]) (h' := h) 1 rfl ?_
    refine RA.iald rfl p111 ⟨by decide, Nat.le_of_ble_eq_true rfl⟩ e0 ?_
    refine RA.if2F rfl (decide_eq_false (Int32.not_le.mpr (nI_lt (show k < n by omega) (by omega)))) ?_
    refine RA.steps (i' := 34) (L' := [some (.ref 110), some (.int (nI u)), some (.int x2), some (.int (nI b)), some (.int (A b)), some (.int (nI k)), some (.int 0), some (.int 0), o8]) (st' := []) (h' := h) 4 rfl ?_
    refine jr k (by omega) _ _ _ _ (fun o8' => ?_)
    refine RA.steps (i' := 74) (L' := [some (.ref 110), some (.int (nI u)), some (.int x2), some (.int (nI b)), some (.int (A b)), some (.int (nI k)), some (.int (A k)), some (.int (nI l)), o8']) (st' := [.int (nI b)]) (h' := h) 1 rfl ?_
    refine RA.if1F rfl (decide_eq_false (Int32.not_lt.mpr (nI_cl (by omega)).1)) ?_
    refine RA.steps (i' := 77) (L' := [some (.ref 110), some (.int (nI u)), some (.int x2), some (.int (nI b)), some (.int (A b)), some (.int (nI k)), some (.int (A k)), some (.int (nI l)), o8']) (st' := [.int (A b), .int (A k)]) (h' := h) 2 rfl ?_
    by_cases c : A k < A b
    · rw [if_pos c]
      refine RA.if2F rfl (decide_eq_false (Int32.not_le.mpr c)) ?_
      refine RA.steps (i' := 82) (L' := [some (.ref 110), some (.int (nI u)), some (.int x2), some (.int (nI k)), some (.int (A k)), some (.int (nI k)), some (.int (A k)), some (.int (nI l)), o8']) (st' := []) (h' := h) 4 rfl ?_
      refine RA.iinc rfl rfl (nI_1 k) rfl ?_
      refine RA.steps (i' := 24) (L' := [some (.ref 110), some (.int (nI u)), some (.int x2), some (.int (nI k)), some (.int (A k)), some (.int (nI (k + 1))), some (.int (A k)), some (.int (nI l)), o8']) (st' := []) (h' := h) 1 rfl ?_
      exact ih (k + 1) k _ _ _ (by omega) (by omega)
    · rw [if_neg c]
      refine RA.if2T rfl (decide_eq_true (Int32.not_lt.mp c)) ?_
      refine RA.iinc rfl rfl (nI_1 k) rfl ?_
      refine RA.steps (i' := 24) (L' := [some (.ref 110), some (.int (nI u)), some (.int x2), some (.int (nI b)), some (.int (A b)), some (.int (nI (k + 1))), some (.int (A k)), some (.int (nI l)), o8']) (st' := []) (h' := h) 1 rfl ?_
      exact ih (k + 1) b _ _ _ (by omega) (by omega)
theorem whose_r0 {u n l m : Nat} {A : Nat → Int32} {x2 : Int32} {fs8 : List Value} {t : Nat → Int32} (hh : HI HT h) (hn : n ≤ 9) (ho8 : pobj h 110 = some (8, fs8)) (f0 : fs8[0]? = some (.ref 111)) (p111 : pint h 111 = some (3075, t)) (e0 : t 0 = nI n) (jr : ∀ k : Nat, k < n → InR E h u l x2 k (A k)) (hm : 1 + m = n) : RA prog E pV1 120 mX8_whose 24 [some (.ref 110), some (.int (nI u)), some (.int x2), some (.int (-1)), some (.int 0), some (.int (nI 0)), none, none, none] [] h (some (.int (if x2 = 0 then nI (WBu A m 1 0) else A (WBu A m 1 0))), h, 0, 0) := by
  refine RA.steps (i' := 26) (L' := [some (.ref 110), some (.int (nI u)), some (.int x2), some (.int (-1)), some (.int 0), some (.int (nI 0)), none, none, none]) (st' := [.ref 110, .int (nI 0)]) (h' := h) 2 rfl ?_
  refine RA.getf rfl ho8 rfl f0 ?_
  refine RA.steps (i' := 28) (L' := [some (.ref 110), some (.int (nI u)), some (.int x2), some (.int (-1)), some (.int 0), some (.int (nI 0)), none, none, none]) (st' := [.int 0, .ref 111, .int (nI 0)]) (h' := h) 1 rfl ?_
  refine RA.iald rfl p111 ⟨by decide, Nat.le_of_ble_eq_true rfl⟩ e0 ?_
  refine RA.if2F rfl (decide_eq_false (Int32.not_le.mpr (nI_lt (show 0 < n by omega) (by omega)))) ?_
  refine RA.steps (i' := 34) (L' := [some (.ref 110), some (.int (nI u)), some (.int x2), some (.int (-1)), some (.int 0), some (.int (nI 0)), some (.int 0), some (.int 0), none]) (st' := []) (h' := h) 4 rfl ?_
  refine jr 0 (by omega) _ _ _ _ (fun o8' => ?_)
  refine RA.steps (i' := 74) (L' := [some (.ref 110), some (.int (nI u)), some (.int x2), some (.int (-1)), some (.int 0), some (.int (nI 0)), some (.int (A 0)), some (.int (nI l)), o8']) (st' := [.int (-1)]) (h' := h) 1 rfl ?_
  refine RA.if1T rfl (decide_eq_true (show (-1 : Int32) < 0 by decide)) ?_
  refine RA.steps (i' := 82) (L' := [some (.ref 110), some (.int (nI u)), some (.int x2), some (.int (nI 0)), some (.int (A 0)), some (.int (nI 0)), some (.int (A 0)), some (.int (nI l)), o8']) (st' := []) (h' := h) 4 rfl ?_
  refine RA.iinc rfl rfl (nI_1 0) rfl ?_
  refine RA.steps (i' := 24) (L' := [some (.ref 110), some (.int (nI u)), some (.int x2), some (.int (nI 0)), some (.int (A 0)), some (.int (nI (0 + 1))), some (.int (A 0)), some (.int (nI l)), o8']) (st' := []) (h' := h) 1 rfl ?_
  exact whose_rl hh hn ho8 f0 p111 e0 jr m 1 0 _ _ _ (by omega) (by decide)
theorem whose_both (x1 x2 : Int32) (hh : HI HT h) (hj : JT h) (hq : ri h 34 5 = ri h 111 0) (hr : ∀ k : Nat, k < 9 → (k : Int) < (ri h 34 5).toInt → RubK h k) (hs : RSS h) (hv : RV h) (vb : VB h) : ∃ v : Int32, Run prog E pV1 120 mX7_whose [.ref 0, .int x1, .int x2] h (some (.int v), h, 0, 0) ∧ Run prog E pV1 120 mX8_whose [.ref 110, .int x1, .int x2] h (some (.int v), h, 0, 0) := by
  have t0 : (0 : Int32).toInt = 0 := by decide
  have t3 : (3 : Int32).toInt = 3 := by decide
  obtain ⟨fs0, ho0, hF0⟩ := hi_obj hh (a := 0) rfl
  obtain ⟨fs8, ho8, hF8⟩ := hi_obj hh (a := 110) rfl
  obtain ⟨gS_, pS, uS, -⟩ := hi_int (a := 114) (n := 4) (sg := [(0, 3, -1, 1)]) hh rfl
  by_cases hn : x1.toInt < 0 ∨ 4 ≤ x1.toInt
  · have hs3 : ¬ ((0 : Int32) ≤ x1 ∧ x1 ≤ 3) := fun q => by
      have q1 := Int32.le_iff_toInt_le.mp q.1
      have q2 := Int32.le_iff_toInt_le.mp q.2
      omega
    refine ⟨-1000000001, ⟨Nat.le_of_ble_eq_true rfl, ⟨_, _, rfl⟩, ?_⟩, ⟨Nat.le_of_ble_eq_true rfl, ⟨_, _, rfl⟩, ?_⟩⟩
    · show RA prog E pV1 120 mX7_whose 0 [some (.ref 0), some (.int x1), some (.int x2), none, none, none, none, none] [] h (some (.int (-1000000001)), h, 0, 0)
      refine RA.steps (i' := 2) (L' := [some (.ref 0), some (.int x1), some (.int x2), none, none, none, none, none]) (st' := [.int x1, .ref 0]) (h' := h) 2 rfl ?_
      refine RA.call0 (N := mX7_rowOf) (as := [.ref 0, .int x1]) (rest := []) rfl rfl (pcallV rfl rfl ho0 rfl rfl (Nat.le_of_ble_eq_true rfl)) (rowOf_n (d := 118) hh hn) ?_
      refine RA.steps (i' := 12) (L' := [some (.ref 0), some (.int x1), some (.int x2), some (.null), none, none, none, none]) (st' := [.int (-1000000001)]) (h' := h) 4 rfl ?_
      exact RA.ret rfl rfl
    · show RA prog E pV1 120 mX8_whose 0 [some (.ref 110), some (.int x1), some (.int x2), none, none, none, none, none, none] [] h (some (.int (-1000000001)), h, 0, 0)
      refine RA.steps (i' := 1) (L' := [some (.ref 110), some (.int x1), some (.int x2), none, none, none, none, none, none]) (st' := [.int x1]) (h' := h) 1 rfl ?_
      refine RA.call0 (N := mX8_isSheet) (as := [.int x1]) (rest := []) rfl rfl rfl (isSh_f (d := 117) hs3) ?_
      refine RA.if1T rfl rfl ?_
      refine RA.steps (i' := 10) (L' := [some (.ref 110), some (.int x1), some (.int x2), none, none, none, none, none, none]) (st' := [.int (-1000000001)]) (h' := h) 1 rfl ?_
      exact RA.ret rfl rfl
  obtain ⟨u, rfl, hu0⟩ := nIof (x := x1) (by omega) (by omega)
  have hu : u < 4 := by omega
  have hs3 : (0 : Int32) ≤ nI u ∧ nI u ≤ 3 := ⟨(nI_cl (by omega)).1, Int32.le_iff_toInt_le.mpr (by omega)⟩
  obtain ⟨es, ez⟩ := hs u hu
  obtain ⟨⟨s0, s1⟩, z0, z24⟩ := rows_ty hh u hu
  obtain ⟨fsr, hor, -, -, -⟩ := row_obj hh u hu
  have bS : 0 ≤ nI u ∧ (nI u).toNatClampNeg < 4 := ⟨(nI_cl (by omega)).1, by rw [(nI_cl (by omega)).2]; exact hu⟩
  have eS : gS_ (nI u).toNatClampNeg = ri h 114 u := by rw [(nI_cl (by omega)).2]; exact (uS u hu).symm
  by_cases hw : (0 : Int32) ≤ x2 ∧ x2 ≤ 1
  rotate_left
  · skip
    refine ⟨-1000000001, ⟨Nat.le_of_ble_eq_true rfl, ⟨_, _, rfl⟩, ?_⟩, ⟨Nat.le_of_ble_eq_true rfl, ⟨_, _, rfl⟩, ?_⟩⟩
    · show RA prog E pV1 120 mX7_whose 0 [some (.ref 0), some (.int (nI u)), some (.int x2), none, none, none, none, none] [] h (some (.int (-1000000001)), h, 0, 0)
      refine RA.steps (i' := 2) (L' := [some (.ref 0), some (.int (nI u)), some (.int x2), none, none, none, none, none]) (st' := [.int (nI u), .ref 0]) (h' := h) 2 rfl ?_
      refine RA.call0 (N := mX7_rowOf) (as := [.ref 0, .int (nI u)]) (rest := []) rfl rfl (pcallV rfl rfl ho0 rfl rfl (Nat.le_of_ble_eq_true rfl)) (rowOf_x (d := 118) hh hu) ?_
      refine RA.steps (i' := 9) (L' := [some (.ref 0), some (.int (nI u)), some (.int x2), some (.ref (82 + 2 * u)), none, none, none, none]) (st' := [.int 1, .int 0, .int x2]) (h' := h) 6 rfl ?_
      refine RA.call0 (N := mX7_within) (as := [.int x2, .int 0, .int 1]) (rest := []) rfl rfl rfl (within_f hw) ?_
      refine RA.if1F rfl rfl ?_
      refine RA.steps (i' := 12) (L' := [some (.ref 0), some (.int (nI u)), some (.int x2), some (.ref (82 + 2 * u)), none, none, none, none]) (st' := [.int (-1000000001)]) (h' := h) 1 rfl ?_
      exact RA.ret rfl rfl
    · show RA prog E pV1 120 mX8_whose 0 [some (.ref 110), some (.int (nI u)), some (.int x2), none, none, none, none, none, none] [] h (some (.int (-1000000001)), h, 0, 0)
      refine RA.steps (i' := 1) (L' := [some (.ref 110), some (.int (nI u)), some (.int x2), none, none, none, none, none, none]) (st' := [.int (nI u)]) (h' := h) 1 rfl ?_
      refine RA.call0 (N := mX8_isSheet) (as := [.int (nI u)]) (rest := []) rfl rfl rfl (isSh_t (d := 117) hs3) ?_
      refine RA.if1F rfl rfl ?_
      refine RA.steps (i' := 7) (L' := [some (.ref 110), some (.int (nI u)), some (.int x2), none, none, none, none, none, none]) (st' := [.long (Int32.toInt64 1), .long (Int32.toInt64 0), .long x2.toInt64]) (h' := h) 4 rfl ?_
      refine RA.call0 (N := mX8_isIn) (as := [.long x2.toInt64, .long (Int32.toInt64 0), .long (Int32.toInt64 1)]) (rest := []) rfl rfl rfl (isIn_f hw) ?_
      refine RA.if1F rfl rfl ?_
      refine RA.steps (i' := 10) (L' := [some (.ref 110), some (.int (nI u)), some (.int x2), none, none, none, none, none, none]) (st' := [.int (-1000000001)]) (h' := h) 1 rfl ?_
      exact RA.ret rfl rfl
  by_cases hm : ri h (82 + 2 * u) 1 = -1
  · have gS : ¬ (0 : Int32) ≤ ri h 114 u := by rw [← es, hm]; decide
    refine ⟨-1000000011, ⟨Nat.le_of_ble_eq_true rfl, ⟨_, _, rfl⟩, ?_⟩, ⟨Nat.le_of_ble_eq_true rfl, ⟨_, _, rfl⟩, ?_⟩⟩
    · show RA prog E pV1 120 mX7_whose 0 [some (.ref 0), some (.int (nI u)), some (.int x2), none, none, none, none, none] [] h (some (.int (-1000000011)), h, 0, 0)
      refine RA.steps (i' := 2) (L' := [some (.ref 0), some (.int (nI u)), some (.int x2), none, none, none, none, none]) (st' := [.int (nI u), .ref 0]) (h' := h) 2 rfl ?_
      refine RA.call0 (N := mX7_rowOf) (as := [.ref 0, .int (nI u)]) (rest := []) rfl rfl (pcallV rfl rfl ho0 rfl rfl (Nat.le_of_ble_eq_true rfl)) (rowOf_x (d := 118) hh hu) ?_
      refine RA.steps (i' := 9) (L' := [some (.ref 0), some (.int (nI u)), some (.int x2), some (.ref (82 + 2 * u)), none, none, none, none]) (st' := [.int 1, .int 0, .int x2]) (h' := h) 6 rfl ?_
      refine RA.call0 (N := mX7_within) (as := [.int x2, .int 0, .int 1]) (rest := []) rfl rfl rfl (within_t hw) ?_
      refine RA.if1T rfl rfl ?_
      refine RA.steps (i' := 14) (L' := [some (.ref 0), some (.int (nI u)), some (.int x2), some (.ref (82 + 2 * u)), none, none, none, none]) (st' := [.ref (82 + 2 * u)]) (h' := h) 1 rfl ?_
      refine RA.call0 (N := mX3_isMissing) (as := [.ref (82 + 2 * u)]) (rest := []) rfl rfl (pcallV rfl rfl hor rfl rfl (Nat.le_of_ble_eq_true rfl)) (isMis_t (d := 118) hh hu hm) ?_
      refine RA.if1F rfl rfl ?_
      refine RA.steps (i' := 17) (L' := [some (.ref 0), some (.int (nI u)), some (.int x2), some (.ref (82 + 2 * u)), none, none, none, none]) (st' := [.int (-1000000011)]) (h' := h) 1 rfl ?_
      exact RA.ret rfl rfl
    · show RA prog E pV1 120 mX8_whose 0 [some (.ref 110), some (.int (nI u)), some (.int x2), none, none, none, none, none, none] [] h (some (.int (-1000000011)), h, 0, 0)
      refine RA.steps (i' := 1) (L' := [some (.ref 110), some (.int (nI u)), some (.int x2), none, none, none, none, none, none]) (st' := [.int (nI u)]) (h' := h) 1 rfl ?_
      refine RA.call0 (N := mX8_isSheet) (as := [.int (nI u)]) (rest := []) rfl rfl rfl (isSh_t (d := 117) hs3) ?_
      refine RA.if1F rfl rfl ?_
      refine RA.steps (i' := 7) (L' := [some (.ref 110), some (.int (nI u)), some (.int x2), none, none, none, none, none, none]) (st' := [.long (Int32.toInt64 1), .long (Int32.toInt64 0), .long x2.toInt64]) (h' := h) 4 rfl ?_
      refine RA.call0 (N := mX8_isIn) (as := [.long x2.toInt64, .long (Int32.toInt64 0), .long (Int32.toInt64 1)]) (rest := []) rfl rfl rfl (isIn_t hw) ?_
      refine RA.if1T rfl rfl ?_
      refine RA.steps (i' := 12) (L' := [some (.ref 110), some (.int (nI u)), some (.int x2), none, none, none, none, none, none]) (st' := [.ref 110]) (h' := h) 1 rfl ?_
      refine RA.getf rfl ho8 rfl (hF8.ref (k := 4) rfl) ?_
      refine RA.steps (i' := 14) (L' := [some (.ref 110), some (.int (nI u)), some (.int x2), none, none, none, none, none, none]) (st' := [.int (nI u), .ref 114]) (h' := h) 1 rfl ?_
      refine RA.iald rfl pS bS eS ?_
      refine RA.if1F rfl (decide_eq_false gS) ?_
      refine RA.steps (i' := 17) (L' := [some (.ref 110), some (.int (nI u)), some (.int x2), none, none, none, none, none, none]) (st' := [.int (-1000000011)]) (h' := h) 1 rfl ?_
      exact RA.ret rfl rfl
  have gS : (0 : Int32) ≤ ri h 114 u := Int32.le_iff_toInt_le.mpr (by
    have : ¬ (ri h 114 u).toInt = -1 := fun q => hm (by rw [es]; exact Int32.toInt_inj.mp (q.trans (by decide)))
    omega)
  obtain ⟨l, el, hl0⟩ := nIof (x := ri h 115 u) z0 (by omega)
  have hl : l ≤ 24 := by omega
  have zl : ri h (82 + 2 * u) 2 = nI l := ez.trans el
  have b5 := (ri_ty (k := 8) (a := 34) (i := 5) (p := (0, 9)) hh rfl).2
  dsimp only at b5
  obtain ⟨n, en, hn0⟩ := nIof (x := ri h 34 5) b5.1 (by omega)
  have n9 : n ≤ 9 := by omega
  obtain ⟨fs34, ho34, w5, -, -⟩ := w_obj hh
  rw [en] at w5
  obtain ⟨t, p111, u111, -⟩ := hi_int hh HT111
  have e0 : t 0 = nI n := by
    rw [← u111 0 (by decide), ← hq]
    exact en
  by_cases c0 : n = 0
  · subst c0
    refine ⟨-1000000005, ⟨Nat.le_of_ble_eq_true rfl, ⟨_, _, rfl⟩, ?_⟩, ⟨Nat.le_of_ble_eq_true rfl, ⟨_, _, rfl⟩, ?_⟩⟩
    · show RA prog E pV1 120 mX7_whose 0 [some (.ref 0), some (.int (nI u)), some (.int x2), none, none, none, none, none] [] h (some (.int (-1000000005)), h, 0, 0)
      refine RA.steps (i' := 2) (L' := [some (.ref 0), some (.int (nI u)), some (.int x2), none, none, none, none, none]) (st' := [.int (nI u), .ref 0]) (h' := h) 2 rfl ?_
      refine RA.call0 (N := mX7_rowOf) (as := [.ref 0, .int (nI u)]) (rest := []) rfl rfl (pcallV rfl rfl ho0 rfl rfl (Nat.le_of_ble_eq_true rfl)) (rowOf_x (d := 118) hh hu) ?_
      refine RA.steps (i' := 9) (L' := [some (.ref 0), some (.int (nI u)), some (.int x2), some (.ref (82 + 2 * u)), none, none, none, none]) (st' := [.int 1, .int 0, .int x2]) (h' := h) 6 rfl ?_
      refine RA.call0 (N := mX7_within) (as := [.int x2, .int 0, .int 1]) (rest := []) rfl rfl rfl (within_t hw) ?_
      refine RA.if1T rfl rfl ?_
      refine RA.steps (i' := 14) (L' := [some (.ref 0), some (.int (nI u)), some (.int x2), some (.ref (82 + 2 * u)), none, none, none, none]) (st' := [.ref (82 + 2 * u)]) (h' := h) 1 rfl ?_
      refine RA.call0 (N := mX3_isMissing) (as := [.ref (82 + 2 * u)]) (rest := []) rfl rfl (pcallV rfl rfl hor rfl rfl (Nat.le_of_ble_eq_true rfl)) (isMis_f (d := 118) hh hu hm) ?_
      refine RA.if1T rfl rfl ?_
      refine RA.steps (i' := 24) (L' := [some (.ref 0), some (.int (nI u)), some (.int x2), some (.ref (82 + 2 * u)), some (.int (-1000000005)), some (.int (-1000000005)), some (.int 0), none]) (st' := []) (h' := h) 6 rfl ?_
      by_cases c : x2 = 0
      · skip
        refine RA.steps (i' := 26) (L' := [some (.ref 0), some (.int (nI u)), some (.int x2), some (.ref (82 + 2 * u)), some (.int (-1000000005)), some (.int (-1000000005)), some (.int 0), none]) (st' := [.ref 0, .int 0]) (h' := h) 2 rfl ?_
        refine RA.getf rfl ho0 rfl (hF0.ref (k := 1) rfl) ?_
        refine RA.getf rfl ho34 rfl w5 ?_
        refine RA.if2T rfl (decide_eq_true (show nI 0 ≤ 0 by decide +kernel)) ?_
        refine RA.steps (i' := 48) (L' := [some (.ref 0), some (.int (nI u)), some (.int x2), some (.ref (82 + 2 * u)), some (.int (-1000000005)), some (.int (-1000000005)), some (.int 0), none]) (st' := [.int x2]) (h' := h) 1 rfl ?_
        refine RA.if1F rfl (decide_eq_false (fun q => q c)) ?_
        refine RA.steps (i' := 52) (L' := [some (.ref 0), some (.int (nI u)), some (.int x2), some (.ref (82 + 2 * u)), some (.int (-1000000005)), some (.int (-1000000005)), some (.int 0), none]) (st' := [.int (-1000000005)]) (h' := h) 2 rfl ?_
        exact RA.ret rfl rfl
      · skip
        refine RA.steps (i' := 26) (L' := [some (.ref 0), some (.int (nI u)), some (.int x2), some (.ref (82 + 2 * u)), some (.int (-1000000005)), some (.int (-1000000005)), some (.int 0), none]) (st' := [.ref 0, .int 0]) (h' := h) 2 rfl ?_
        refine RA.getf rfl ho0 rfl (hF0.ref (k := 1) rfl) ?_
        refine RA.getf rfl ho34 rfl w5 ?_
        refine RA.if2T rfl (decide_eq_true (show nI 0 ≤ 0 by decide +kernel)) ?_
        refine RA.steps (i' := 48) (L' := [some (.ref 0), some (.int (nI u)), some (.int x2), some (.ref (82 + 2 * u)), some (.int (-1000000005)), some (.int (-1000000005)), some (.int 0), none]) (st' := [.int x2]) (h' := h) 1 rfl ?_
        refine RA.if1T rfl (decide_eq_true c) ?_
        refine RA.steps (i' := 52) (L' := [some (.ref 0), some (.int (nI u)), some (.int x2), some (.ref (82 + 2 * u)), some (.int (-1000000005)), some (.int (-1000000005)), some (.int 0), none]) (st' := [.int (-1000000005)]) (h' := h) 1 rfl ?_
        exact RA.ret rfl rfl
    · show RA prog E pV1 120 mX8_whose 0 [some (.ref 110), some (.int (nI u)), some (.int x2), none, none, none, none, none, none] [] h (some (.int (-1000000005)), h, 0, 0)
      refine RA.steps (i' := 1) (L' := [some (.ref 110), some (.int (nI u)), some (.int x2), none, none, none, none, none, none]) (st' := [.int (nI u)]) (h' := h) 1 rfl ?_
      refine RA.call0 (N := mX8_isSheet) (as := [.int (nI u)]) (rest := []) rfl rfl rfl (isSh_t (d := 117) hs3) ?_
      refine RA.if1F rfl rfl ?_
      refine RA.steps (i' := 7) (L' := [some (.ref 110), some (.int (nI u)), some (.int x2), none, none, none, none, none, none]) (st' := [.long (Int32.toInt64 1), .long (Int32.toInt64 0), .long x2.toInt64]) (h' := h) 4 rfl ?_
      refine RA.call0 (N := mX8_isIn) (as := [.long x2.toInt64, .long (Int32.toInt64 0), .long (Int32.toInt64 1)]) (rest := []) rfl rfl rfl (isIn_t hw) ?_
      refine RA.if1T rfl rfl ?_
      refine RA.steps (i' := 12) (L' := [some (.ref 110), some (.int (nI u)), some (.int x2), none, none, none, none, none, none]) (st' := [.ref 110]) (h' := h) 1 rfl ?_
      refine RA.getf rfl ho8 rfl (hF8.ref (k := 4) rfl) ?_
      refine RA.steps (i' := 14) (L' := [some (.ref 110), some (.int (nI u)), some (.int x2), none, none, none, none, none, none]) (st' := [.int (nI u), .ref 114]) (h' := h) 1 rfl ?_
      refine RA.iald rfl pS bS eS ?_
      refine RA.if1T rfl (decide_eq_true gS) ?_
      refine RA.steps (i' := 24) (L' := [some (.ref 110), some (.int (nI u)), some (.int x2), some (.int (-1)), some (.int 0), some (.int 0), none, none, none]) (st' := []) (h' := h) 6 rfl ?_
      refine RA.steps (i' := 26) (L' := [some (.ref 110), some (.int (nI u)), some (.int x2), some (.int (-1)), some (.int 0), some (.int 0), none, none, none]) (st' := [.ref 110, .int 0]) (h' := h) 2 rfl ?_
      refine RA.getf rfl ho8 rfl (hF8.ref (k := 0) rfl) ?_
      refine RA.steps (i' := 28) (L' := [some (.ref 110), some (.int (nI u)), some (.int x2), some (.int (-1)), some (.int 0), some (.int 0), none, none, none]) (st' := [.int 0, .ref 111, .int 0]) (h' := h) 1 rfl ?_
      refine RA.iald rfl p111 ⟨by decide, Nat.le_of_ble_eq_true rfl⟩ e0 ?_
      refine RA.if2T rfl (decide_eq_true (show nI 0 ≤ 0 by decide +kernel)) ?_
      refine RA.steps (i' := 85) (L' := [some (.ref 110), some (.int (nI u)), some (.int x2), some (.int (-1)), some (.int 0), some (.int 0), none, none, none]) (st' := [.int (-1)]) (h' := h) 1 rfl ?_
      refine RA.if1F rfl (decide_eq_false (show ¬ (0 : Int32) ≤ -1 by decide)) ?_
      refine RA.steps (i' := 93) (L' := [some (.ref 110), some (.int (nI u)), some (.int x2), some (.int (-1)), some (.int 0), some (.int 0), none, none, none]) (st' := [.int (-1000000005)]) (h' := h) 2 rfl ?_
      exact RA.ret rfl rfl
  obtain ⟨m, em⟩ : ∃ m : Nat, 1 + m = n := ⟨n - 1, by omega⟩
  have jm : ∀ k : Nat, k < n → (k : Int) < (ri h 34 5).toInt := fun k hk => by omega
  have hX : ∀ k : Nat, ∃ a : Int32, k < n → (Run prog E pV1 119 mX7_apart [.ref (39 + k), .ref (82 + 2 * u)] h (some (.int a), h, 0, 0) ∧ InR E h u l x2 k a) := fun k => by
    by_cases c : k < n
    · obtain ⟨a, q⟩ := ap_fn (E := E) (x2 := x2) hh hj (show k < 9 by omega) hu hl zl el (hr k (by omega) (jm k c)) hv vb
      exact ⟨a, fun _ => q⟩
    · exact ⟨0, fun q => absurd q c⟩
  obtain ⟨A, hA⟩ : ∃ A : Nat → Int32, ∀ k : Nat, k < n → (Run prog E pV1 119 mX7_apart [.ref (39 + k), .ref (82 + 2 * u)] h (some (.int (A k)), h, 0, 0) ∧ InR E h u l x2 k (A k)) := ⟨fun k => Classical.choose (hX k), fun k hk => Classical.choose_spec (hX k) hk⟩
  refine ⟨if x2 = 0 then nI (WBu A m 1 0) else A (WBu A m 1 0), ⟨Nat.le_of_ble_eq_true rfl, ⟨_, _, rfl⟩, ?_⟩, ⟨Nat.le_of_ble_eq_true rfl, ⟨_, _, rfl⟩, ?_⟩⟩
  · show RA prog E pV1 120 mX7_whose 0 [some (.ref 0), some (.int (nI u)), some (.int x2), none, none, none, none, none] [] h (some (.int (if x2 = 0 then nI (WBu A m 1 0) else A (WBu A m 1 0))), h, 0, 0)
    refine RA.steps (i' := 2) (L' := [some (.ref 0), some (.int (nI u)), some (.int x2), none, none, none, none, none]) (st' := [.int (nI u), .ref 0]) (h' := h) 2 rfl ?_
    refine RA.call0 (N := mX7_rowOf) (as := [.ref 0, .int (nI u)]) (rest := []) rfl rfl (pcallV rfl rfl ho0 rfl rfl (Nat.le_of_ble_eq_true rfl)) (rowOf_x (d := 118) hh hu) ?_
    refine RA.steps (i' := 9) (L' := [some (.ref 0), some (.int (nI u)), some (.int x2), some (.ref (82 + 2 * u)), none, none, none, none]) (st' := [.int 1, .int 0, .int x2]) (h' := h) 6 rfl ?_
    refine RA.call0 (N := mX7_within) (as := [.int x2, .int 0, .int 1]) (rest := []) rfl rfl rfl (within_t hw) ?_
    refine RA.if1T rfl rfl ?_
    refine RA.steps (i' := 14) (L' := [some (.ref 0), some (.int (nI u)), some (.int x2), some (.ref (82 + 2 * u)), none, none, none, none]) (st' := [.ref (82 + 2 * u)]) (h' := h) 1 rfl ?_
    refine RA.call0 (N := mX3_isMissing) (as := [.ref (82 + 2 * u)]) (rest := []) rfl rfl (pcallV rfl rfl hor rfl rfl (Nat.le_of_ble_eq_true rfl)) (isMis_f (d := 118) hh hu hm) ?_
    refine RA.if1T rfl rfl ?_
    refine RA.steps (i' := 24) (L' := [some (.ref 0), some (.int (nI u)), some (.int x2), some (.ref (82 + 2 * u)), some (.int (-1000000005)), some (.int (-1000000005)), some (.int 0), none]) (st' := []) (h' := h) 6 rfl ?_
    have k2 := whose_c0 (u := u) (x2 := x2) (m := m) hh ho0 (hF0.ref (k := 1) rfl) ho34 w5 n9 jm (fun k hk => (hA k hk).1) em
    rw [nI_0] at k2
    exact k2
  · show RA prog E pV1 120 mX8_whose 0 [some (.ref 110), some (.int (nI u)), some (.int x2), none, none, none, none, none, none] [] h (some (.int (if x2 = 0 then nI (WBu A m 1 0) else A (WBu A m 1 0))), h, 0, 0)
    refine RA.steps (i' := 1) (L' := [some (.ref 110), some (.int (nI u)), some (.int x2), none, none, none, none, none, none]) (st' := [.int (nI u)]) (h' := h) 1 rfl ?_
    refine RA.call0 (N := mX8_isSheet) (as := [.int (nI u)]) (rest := []) rfl rfl rfl (isSh_t (d := 117) hs3) ?_
    refine RA.if1F rfl rfl ?_
    refine RA.steps (i' := 7) (L' := [some (.ref 110), some (.int (nI u)), some (.int x2), none, none, none, none, none, none]) (st' := [.long (Int32.toInt64 1), .long (Int32.toInt64 0), .long x2.toInt64]) (h' := h) 4 rfl ?_
    refine RA.call0 (N := mX8_isIn) (as := [.long x2.toInt64, .long (Int32.toInt64 0), .long (Int32.toInt64 1)]) (rest := []) rfl rfl rfl (isIn_t hw) ?_
    refine RA.if1T rfl rfl ?_
    refine RA.steps (i' := 12) (L' := [some (.ref 110), some (.int (nI u)), some (.int x2), none, none, none, none, none, none]) (st' := [.ref 110]) (h' := h) 1 rfl ?_
    refine RA.getf rfl ho8 rfl (hF8.ref (k := 4) rfl) ?_
    refine RA.steps (i' := 14) (L' := [some (.ref 110), some (.int (nI u)), some (.int x2), none, none, none, none, none, none]) (st' := [.int (nI u), .ref 114]) (h' := h) 1 rfl ?_
    refine RA.iald rfl pS bS eS ?_
    refine RA.if1T rfl (decide_eq_true gS) ?_
    refine RA.steps (i' := 24) (L' := [some (.ref 110), some (.int (nI u)), some (.int x2), some (.int (-1)), some (.int 0), some (.int 0), none, none, none]) (st' := []) (h' := h) 6 rfl ?_
    have k2 := whose_r0 (u := u) (x2 := x2) (m := m) hh n9 ho8 (hF8.ref (k := 0) rfl) p111 e0 (fun k hk => (hA k hk).2) em
    rw [nI_0] at k2
    exact k2
end WHO
/-! ===== deal: what it brings ===== -/
abbrev Ex : Type := (aD → AV → Bool) × (Int32 → Int32)
def xZ : Ex := (fun _ x => decide (x = (1, 1, 0, 3)), fun v => v)
def xC (n : Int32) : Ex := (fun _ x => decide (x = cn n.toInt), fun _ => n)
def xO (c : Nat) (a b : Ex) : Ex := (fun Δ x => det x && Δ.any (fun f => decide (f.1 = c + 10) && decide (f.2.2.2 = x) && a.1 Δ f.2.1 && b.1 Δ f.2.2.1), fun v => opS c (a.2 v) (b.2 v))
def exV (v : Int32) (e : Ex) : Int32 := e.2 v
/-- x is the value of e, by what was worked out -/
def evD (Δ : aD) (e : Ex) (x : AV) : Bool := e.1 Δ x
theorem exVz (v : Int32) : exV v xZ = v := rfl
theorem exVc (v m : Int32) : exV v (xC m) = m := rfl
theorem exVo (v : Int32) (c : Nat) (a b : Ex) : exV v (xO c a b) = opS c (exV v a) (exV v b) := rfl
/-- it tells the truth of e -/
def EvS (e : Ex) : Prop := ∀ (n : Nat) (σ : Nat → Int) (Δ : aD) (v : Int32) (x : AV), fok n σ Δ → σ 3 = v.toInt → 3 < n → evD Δ e x = true → det x = true ∧ zG n σ (exV v e).toInt x
theorem evS_z : EvS xZ := fun n σ Δ v x hf hv h3 h => by
  obtain rfl : x = (1, 1, 0, 3) := of_decide_eq_true h
  rw [exVz]
  exact ⟨rfl, zG.mk (by decide) (by rw [hv]; show v.toInt = 1 * v.toInt + 0; omega) h3⟩
theorem evS_c (m : Int32) : EvS (xC m) := fun n σ Δ v x hf hv h3 h => by
  obtain rfl : x = cn m.toInt := of_decide_eq_true h
  rw [exVc]
  exact ⟨by unfold det cn; simp, cnZ _⟩
theorem evS_o {c : Nat} {a b : Ex} (ha : EvS a) (hb : EvS b) : EvS (xO c a b) := fun n σ Δ v x hf hv h3 h => by
  have h : (det x && Δ.any (fun f => decide (f.1 = c + 10) && decide (f.2.2.2 = x) && evD Δ a f.2.1 && evD Δ b f.2.2.1)) = true := h
  rw [Bool.and_eq_true] at h
  obtain ⟨d1, h⟩ := h
  obtain ⟨f, hm, h⟩ := List.any_eq_true.mp h
  rw [Bool.and_eq_true, Bool.and_eq_true, Bool.and_eq_true] at h
  obtain ⟨⟨⟨f1, f2⟩, f3⟩, f4⟩ := h
  have f1 := of_decide_eq_true f1
  have f2 := of_decide_eq_true f2
  obtain ⟨da, za⟩ := ha n σ Δ v f.2.1 hf hv h3 f3
  obtain ⟨db, zb⟩ := hb n σ Δ v f.2.2.1 hf hv h3 f4
  have k := hf f hm
  unfold fcG at k
  rw [if_neg (by omega)] at k
  obtain ⟨p, q, k1, k2, k3⟩ := k
  obtain rfl : p = exV v a := Int32.toInt_inj.mp (det_ok da k1 za)
  obtain rfl : q = exV v b := Int32.toInt_inj.mp (det_ok db k2 zb)
  rw [f1, f2, show c + 10 - 10 = c by omega] at k3
  rw [exVo]
  exact ⟨d1, k3⟩
theorem evD_ok {n : Nat} {σ : Nat → Int} {Δ : aD} {v : Int32} {e : Ex} (he : EvS e) (hf : fok n σ Δ) (hv : σ 3 = v.toInt) (h3 : 3 < n) (x : AV) (h : evD Δ e x = true) : det x = true ∧ zG n σ (exV v e).toInt x := he n σ Δ v x hf hv h3 h
def eZ1 : Ex := xO 0 (xO 2 xZ (xC 1103515245)) (xC 12345)
def eZ2 : Ex := xO 0 (xO 2 eZ1 (xC 1103515245)) (xC 12345)
def eZ3 : Ex := xO 0 (xO 2 eZ2 (xC 1103515245)) (xC 12345)
def eKD : Ex := xO 9 (xO 8 eZ1 (xC 8)) (xC 6)
def eRW : Ex := xO 9 (xO 8 eZ2 (xC 8)) (xC 65536)
def eSZ : Ex := xO 9 (xO 8 eZ3 (xC 8)) (xC 8)
theorem evS1 : EvS eZ1 := by unfold eZ1; exact evS_o (evS_o evS_z (evS_c _)) (evS_c _)
theorem evS2 : EvS eZ2 := by unfold eZ2; exact evS_o (evS_o evS1 (evS_c _)) (evS_c _)
theorem evS3 : EvS eZ3 := by unfold eZ3; exact evS_o (evS_o evS2 (evS_c _)) (evS_c _)
theorem evSK : EvS eKD := by unfold eKD; exact evS_o (evS_o evS1 (evS_c _)) (evS_c _)
theorem evSR : EvS eRW := by unfold eRW; exact evS_o (evS_o evS2 (evS_c _)) (evS_c _)
theorem evSS : EvS eSZ := by unfold eSZ; exact evS_o (evS_o evS3 (evS_c _)) (evS_c _)
theorem opS0 (a b : Int32) : opS 0 a b = a + b := rfl
theorem opS2 (a b : Int32) : opS 2 a b = a * b := rfl
theorem exDz (v : Int32) (e : Ex) : exV v (xO 0 (xO 2 e (xC 1103515245)) (xC 12345)) = dz (exV v e) := by
  rw [exVo, exVo, exVc, exVc, opS0, opS2, dz]
theorem exZ1 (v : Int32) : exV v eZ1 = dz v := by
  unfold eZ1
  rw [exDz, exVz]
theorem exZ2 (v : Int32) : exV v eZ2 = dz (dz v) := by
  unfold eZ2
  rw [exDz, exZ1]
theorem exZ3 (v : Int32) : exV v eZ3 = dz (dz (dz v)) := by
  unfold eZ3
  rw [exDz, exZ2]
theorem dzN3 (n : Nat) (v : Int32) : dzN (n + 3) v = dzN n (dz (dz (dz v))) := by
  rw [show n + 3 = (n + 2) + 1 from rfl, dzNs, show n + 2 = (n + 1) + 1 from rfl, dzNs, dzNs]
/-- the values of a RUBBING that is dealt -/
def rubG (a b c : Int) : Nat → Int
  | 0 => a
  | 1 => b
  | 2 => c + 1
  | 3 => 0
  | 4 => 16
  | _ => 50
theorem rubG0 (a b c : Int) : rubG a b c 0 = a := rfl
theorem rubG1 (a b c : Int) : rubG a b c 1 = b := rfl
theorem rubG2 (a b c : Int) : rubG a b c 2 = c + 1 := rfl
theorem rubG3 (a b c : Int) : rubG a b c 3 = 0 := rfl
theorem rubG4 (a b c : Int) : rubG a b c 4 = 16 := rfl
theorem rubG5 (a b c : Int) : rubG a b c 5 = 50 := rfl
def rubT (v : Int32) (f : Nat) : Int := rubG (exV v eKD).toInt (exV v eRW).toInt (exV v eSZ).toInt f
def evC (Δ : aD) (C : aC) (p : Nat × Nat) (e : Ex) : Bool := match cfind C (rf5 p.1) (cn (p.2 : Int)) with
  | some x => decide (x.1 ≤ 1) && evD Δ e x
  | none => false
def rbC (Δ : aD) (C : aC) (an ni az zi : Nat) (cl : Nat → Nat → Nat × Nat) (m : Nat) : Bool := decide (cfind C (rf5 an) (cn (ni : Int)) = some (cn (m + 1 : Nat))) && evC Δ C (az, zi) eZ3 && evC Δ C (cl m 0) eKD && evC Δ C (cl m 1) eRW && (match cfind C (rf5 (cl m 2).1) (cn ((cl m 2).2 : Int)) with
  | some x => decide (x.1 = 1) && decide (x.2.1 = 1) && decide (x.2.2.1 = 1) && evD Δ eSZ (1, 1, 0, x.2.2.2)
  | none => false) && decide (cfind C (rf5 (cl m 3).1) (cn ((cl m 3).2 : Int)) = some (cn 0)) && decide (cfind C (rf5 (cl m 4).1) (cn ((cl m 4).2 : Int)) = some (cn 16)) && decide (cfind C (rf5 (cl m 5).1) (cn ((cl m 5).2 : Int)) = some (cn 50))
theorem evC_ok {n : Nat} {σ : Nat → Int} {Δ : aD} {C : aC} {h' : List pC} {v : Int32} {p : Nat × Nat} {e : Ex} (he : EvS e) (hf : fok n σ Δ) (hv : σ 3 = v.toInt) (h3 : 3 < n) (hC : cok n σ h' C) (h : evC Δ C p e = true) : ri h' p.1 p.2 = exV v e := by
  unfold evC at h
  split at h
  · rename_i x hx
    rw [Bool.and_eq_true] at h
    obtain ⟨d, z⟩ := evD_ok he hf hv h3 x h.2
    exact Int32.toInt_inj.mp (det_ok d (ck_ri hC hx (of_decide_eq_true h.1)) z)
  · cases h
theorem rbC_ok {n : Nat} {σ : Nat → Int} {Δ : aD} {C : aC} {h' : List pC} {z : Int32} {an ni az zi m : Nat} {cl : Nat → Nat → Nat × Nat} (hv : σ 3 = z.toInt) (h3 : 3 < n) (hC : cok n σ h' C) (hf : fok n σ Δ) (h : rbC Δ C an ni az zi cl m = true) : (ri h' an ni).toInt = (m + 1 : Nat) ∧ ri h' az zi = dz (dz (dz z)) ∧ ∀ f, f < 6 → (ri h' (cl m f).1 (cl m f).2).toInt = rubT z f := by
  unfold rbC at h
  simp only [Bool.and_eq_true] at h
  obtain ⟨⟨⟨⟨⟨⟨⟨c1, c2⟩, c3⟩, c4⟩, c5⟩, c6⟩, c7⟩, c8⟩ := h
  have con : ∀ {a i : Nat} {k : Int}, decide (cfind C (rf5 a) (cn (i : Int)) = some (cn k)) = true → (ri h' a i).toInt = k := fun hq => zcn (ck_ri hC (of_decide_eq_true hq) (Nat.zero_le _))
  refine ⟨con c1, (evC_ok evS3 hf hv h3 hC c2).trans (exZ3 z), fun f h6 => ?_⟩
  match f, h6 with
  | 0, _ => exact (congrArg Int32.toInt (evC_ok evSK hf hv h3 hC c3)).trans (rubG0 _ _ _).symm
  | 1, _ => exact (congrArg Int32.toInt (evC_ok evSR hf hv h3 hC c4)).trans (rubG1 _ _ _).symm
  | 2, _ =>
    split at c5
    · rename_i x hx
      simp only [Bool.and_eq_true, decide_eq_true_eq] at c5
      obtain ⟨⟨⟨x1, x2⟩, x3⟩, x4⟩ := c5
      obtain ⟨t, a, b, k⟩ := x
      dsimp only at x1 x2 x3 x4
      subst x1 x2 x3
      obtain ⟨-, q1⟩ := evD_ok evSS hf hv h3 _ x4
      have q1 := zsy q1
      have q2 : (ri h' (cl m 2).1 (cl m 2).2).toInt = 1 * σ k + 1 := ((ck_ri hC hx (Nat.le_refl 1)).lin (show ¬ (1 : Nat) % 2 = 0 by decide)).1
      refine Eq.trans ?_ (rubG2 (exV z eKD).toInt (exV z eRW).toInt (exV z eSZ).toInt).symm
      omega
    · cases c5
  | 3, _ => exact (con c6).trans (rubG3 (exV z eKD).toInt (exV z eRW).toInt (exV z eSZ).toInt).symm
  | 4, _ => exact (con c7).trans (rubG4 (exV z eKD).toInt (exV z eRW).toInt (exV z eSZ).toInt).symm
  | 5, _ => exact (con c8).trans (rubG5 (exV z eKD).toInt (exV z eRW).toInt (exV z eSZ).toInt).symm
  | f + 6, h => omega
/-- j RUBBINGS were dealt behind m -/
def DL (an ni az zi : Nat) (cl : Nat → Nat → Nat × Nat) (m j : Nat) (h h' : List pC) : Prop := (ri h' an ni).toInt = (m + j : Nat) ∧ ri h' az zi = dzN (3 * j) (ri h az zi) ∧ ∀ i f, i < 9 → f < 6 → (m ≤ i → i < m + j → (ri h' (cl i f).1 (cl i f).2).toInt = rubT (dzN (3 * (i - m)) (ri h az zi)) f) ∧ (i < m ∨ m + j ≤ i → ri h' (cl i f).1 (cl i f).2 = ri h (cl i f).1 (cl i f).2)
section DLS
variable {an ni az zi m j : Nat} {cl : Nat → Nat → Nat × Nat} {h h1 h2 : List pC}
theorem DL.nil (em : (ri h an ni).toInt = m) : DL an ni az zi cl m 0 h h := ⟨em, rfl, fun i f _ _ => ⟨fun a b => by omega, fun _ => rfl⟩⟩
theorem DL.fr0 (em : (ri h an ni).toInt = m) (hf : Fr [] h h1) : DL an ni az zi cl m 0 h h1 := ⟨by rw [ri_fr hf rfl]; exact em, ri_fr hf rfl, fun i f _ _ => ⟨fun a b => by omega, fun _ => ri_fr hf rfl⟩⟩
theorem DL.eq (er : ∀ a i, ri h1 a i = ri h a i) (hd : DL an ni az zi cl m j h1 h2) : DL an ni az zi cl m j h h2 := by
  obtain ⟨d1, d2, d3⟩ := hd
  refine ⟨d1, by rw [d2, er], fun i f hi hf => ?_⟩
  obtain ⟨k1, k2⟩ := d3 i f hi hf
  exact ⟨fun a b => by rw [k1 a b, er], fun a => by rw [k2 a, er]⟩
theorem DL.cs (hm : m < 9) (r2 : ri h1 az zi = dz (dz (dz (ri h az zi)))) (r3 : ∀ f, f < 6 → (ri h1 (cl m f).1 (cl m f).2).toInt = rubT (ri h az zi) f) (r4 : ∀ i f, i < 9 → f < 6 → i ≠ m → ri h1 (cl i f).1 (cl i f).2 = ri h (cl i f).1 (cl i f).2) (hd : DL an ni az zi cl (m + 1) j h1 h2) : DL an ni az zi cl m (j + 1) h h2 := by
  obtain ⟨d1, d2, d3⟩ := hd
  refine ⟨by rw [d1]; omega, by rw [d2, r2, show 3 * (j + 1) = 3 * j + 3 by omega, dzN3], fun i f hi hf => ?_⟩
  obtain ⟨k1, k2⟩ := d3 i f hi hf
  refine ⟨fun a b => ?_, fun a => ?_⟩
  · by_cases e : i = m
    · subst e
      rw [k2 (Or.inl (by omega)), r3 f hf, show 3 * (i - i) = 0 by omega, dzN0]
    · rw [k1 (by omega) (by omega), r2, show 3 * (i - m) = 3 * (i - (m + 1)) + 3 by omega, dzN3]
  · rw [k2 (by omega), r4 i f hi hf (by omega)]
end DLS
theorem fiveL {L : pL} (h : L.length = 5) : ∃ a b c d e, L = [a, b, c, d, e] := by
  match L, h with
  | [a, b, c, d, e], _ => exact ⟨a, b, c, d, e, rfl⟩
def Wdc : aW := [(34, 34, 5, 5), (34, 34, 9, 9), (39, 47, 0, 5)]
def Wdcm (m : Nat) : aW := [(34, 34, 5, 5), (34, 34, 9, 9), (39 + m, 39 + m, 0, 5)]
def clc : Nat → Nat → Nat × Nat := fun i f => (39 + i, f)
def eac0 (S : aS) : Bool := (match S.2.2.2.1 with
  | [xa, xb, xc, x3, x4, x5] => decide (xa = rf5 0) && decide (xb = (1, 1, 0, 1)) && decide (xc = cn 0) && !isL x3 && !isL x4 && !isL x5
  | _ => false) && S.2.2.2.2.isEmpty
def eac1 (S : aS) : Bool := (match S.2.2.2.1 with
  | [xa, xb, xc, x3, x4, x5] => decide (xa = rf5 0) && decide (xb = (1, 1, 0, 1)) && decide (xc = (1, 1, 1, 2)) && !isL x3 && !isL x4 && !isL x5
  | _ => false) && S.2.2.2.2.isEmpty
def eac2 (S : aS) : Bool := (match S.2.2.2.1 with
  | [xa, xb, xc, x3, x4, x5] => decide (xa = rf5 0) && decide (xb = (1, 1, 0, 1)) && decide (xc = (1, 1, 0, 2)) && !isL x3 && !isL x4 && !isL x5
  | _ => false) && S.2.2.2.2.isEmpty
set_option maxRecDepth 100000 in
set_option maxHeartbeats 40000000 in
theorem kdc0 : aex prog HT [] [] true tb0 (fun i' S => decide (i' = 9) && (ctr S.2.2.1 || eac0 S)) oxN 60 false 50 94 mX7_deal 0 [.inl (77777, 77777), .inl (1, 9)] [] [] [rf5 0, (1, 1, 0, 1), any7, any7, any7, any7] [] [] [] = true := sorry
set_option maxRecDepth 100000 in
set_option maxHeartbeats 40000000 in
theorem kdc1_0 : (jf [(34, 34, 5, 5), (34, 34, 9, 9), (39, 39, 0, 5)] && subW [(34, 34, 5, 5), (34, 34, 9, 9), (39, 39, 0, 5)] Wdc && aex prog HT [(34, 34, 5, 5), (34, 34, 9, 9), (39, 39, 0, 5)] [] true tb0 (fun i' S => decide (i' = 9) && (ctr S.2.2.1 || (eac1 S && rbC S.2.2.1 S.2.1 34 5 34 9 clc 0))) oxN 150 true 50 94 mX7_deal 9 [.inl (77777, 77777), .inl (1, 9), .inl (0, 8), .inl (-2147483648, 2147483647)] [(rf5 34, cn 5, cn 0), (rf5 34, cn 9, (1, 1, 0, 3))] [(0, (1, 1, 0, 2), (1, 1, 0, 1), cn 0)] [rf5 0, (1, 1, 0, 1), (1, 1, 0, 2), any7, any7, any7] [] [] []) = true := sorry
set_option maxRecDepth 100000 in
set_option maxHeartbeats 40000000 in
theorem kdc1_1 : (jf [(34, 34, 5, 5), (34, 34, 9, 9), (40, 40, 0, 5)] && subW [(34, 34, 5, 5), (34, 34, 9, 9), (40, 40, 0, 5)] Wdc && aex prog HT [(34, 34, 5, 5), (34, 34, 9, 9), (40, 40, 0, 5)] [] true tb0 (fun i' S => decide (i' = 9) && (ctr S.2.2.1 || (eac1 S && rbC S.2.2.1 S.2.1 34 5 34 9 clc 1))) oxN 150 true 50 94 mX7_deal 9 [.inl (77777, 77777), .inl (1, 9), .inl (0, 8), .inl (-2147483648, 2147483647)] [(rf5 34, cn 5, cn 1), (rf5 34, cn 9, (1, 1, 0, 3))] [(0, (1, 1, 0, 2), (1, 1, 0, 1), cn 0)] [rf5 0, (1, 1, 0, 1), (1, 1, 0, 2), any7, any7, any7] [] [] []) = true := sorry
set_option maxRecDepth 100000 in
set_option maxHeartbeats 40000000 in
theorem kdc1_2 : (jf [(34, 34, 5, 5), (34, 34, 9, 9), (41, 41, 0, 5)] && subW [(34, 34, 5, 5), (34, 34, 9, 9), (41, 41, 0, 5)] Wdc && aex prog HT [(34, 34, 5, 5), (34, 34, 9, 9), (41, 41, 0, 5)] [] true tb0 (fun i' S => decide (i' = 9) && (ctr S.2.2.1 || (eac1 S && rbC S.2.2.1 S.2.1 34 5 34 9 clc 2))) oxN 150 true 50 94 mX7_deal 9 [.inl (77777, 77777), .inl (1, 9), .inl (0, 8), .inl (-2147483648, 2147483647)] [(rf5 34, cn 5, cn 2), (rf5 34, cn 9, (1, 1, 0, 3))] [(0, (1, 1, 0, 2), (1, 1, 0, 1), cn 0)] [rf5 0, (1, 1, 0, 1), (1, 1, 0, 2), any7, any7, any7] [] [] []) = true := sorry
set_option maxRecDepth 100000 in
set_option maxHeartbeats 40000000 in
theorem kdc1_3 : (jf [(34, 34, 5, 5), (34, 34, 9, 9), (42, 42, 0, 5)] && subW [(34, 34, 5, 5), (34, 34, 9, 9), (42, 42, 0, 5)] Wdc && aex prog HT [(34, 34, 5, 5), (34, 34, 9, 9), (42, 42, 0, 5)] [] true tb0 (fun i' S => decide (i' = 9) && (ctr S.2.2.1 || (eac1 S && rbC S.2.2.1 S.2.1 34 5 34 9 clc 3))) oxN 150 true 50 94 mX7_deal 9 [.inl (77777, 77777), .inl (1, 9), .inl (0, 8), .inl (-2147483648, 2147483647)] [(rf5 34, cn 5, cn 3), (rf5 34, cn 9, (1, 1, 0, 3))] [(0, (1, 1, 0, 2), (1, 1, 0, 1), cn 0)] [rf5 0, (1, 1, 0, 1), (1, 1, 0, 2), any7, any7, any7] [] [] []) = true := sorry
set_option maxRecDepth 100000 in
set_option maxHeartbeats 40000000 in
theorem kdc1_4 : (jf [(34, 34, 5, 5), (34, 34, 9, 9), (43, 43, 0, 5)] && subW [(34, 34, 5, 5), (34, 34, 9, 9), (43, 43, 0, 5)] Wdc && aex prog HT [(34, 34, 5, 5), (34, 34, 9, 9), (43, 43, 0, 5)] [] true tb0 (fun i' S => decide (i' = 9) && (ctr S.2.2.1 || (eac1 S && rbC S.2.2.1 S.2.1 34 5 34 9 clc 4))) oxN 150 true 50 94 mX7_deal 9 [.inl (77777, 77777), .inl (1, 9), .inl (0, 8), .inl (-2147483648, 2147483647)] [(rf5 34, cn 5, cn 4), (rf5 34, cn 9, (1, 1, 0, 3))] [(0, (1, 1, 0, 2), (1, 1, 0, 1), cn 0)] [rf5 0, (1, 1, 0, 1), (1, 1, 0, 2), any7, any7, any7] [] [] []) = true := sorry
set_option maxRecDepth 100000 in
set_option maxHeartbeats 40000000 in
theorem kdc1_5 : (jf [(34, 34, 5, 5), (34, 34, 9, 9), (44, 44, 0, 5)] && subW [(34, 34, 5, 5), (34, 34, 9, 9), (44, 44, 0, 5)] Wdc && aex prog HT [(34, 34, 5, 5), (34, 34, 9, 9), (44, 44, 0, 5)] [] true tb0 (fun i' S => decide (i' = 9) && (ctr S.2.2.1 || (eac1 S && rbC S.2.2.1 S.2.1 34 5 34 9 clc 5))) oxN 150 true 50 94 mX7_deal 9 [.inl (77777, 77777), .inl (1, 9), .inl (0, 8), .inl (-2147483648, 2147483647)] [(rf5 34, cn 5, cn 5), (rf5 34, cn 9, (1, 1, 0, 3))] [(0, (1, 1, 0, 2), (1, 1, 0, 1), cn 0)] [rf5 0, (1, 1, 0, 1), (1, 1, 0, 2), any7, any7, any7] [] [] []) = true := sorry
set_option maxRecDepth 100000 in
set_option maxHeartbeats 40000000 in
theorem kdc1_6 : (jf [(34, 34, 5, 5), (34, 34, 9, 9), (45, 45, 0, 5)] && subW [(34, 34, 5, 5), (34, 34, 9, 9), (45, 45, 0, 5)] Wdc && aex prog HT [(34, 34, 5, 5), (34, 34, 9, 9), (45, 45, 0, 5)] [] true tb0 (fun i' S => decide (i' = 9) && (ctr S.2.2.1 || (eac1 S && rbC S.2.2.1 S.2.1 34 5 34 9 clc 6))) oxN 150 true 50 94 mX7_deal 9 [.inl (77777, 77777), .inl (1, 9), .inl (0, 8), .inl (-2147483648, 2147483647)] [(rf5 34, cn 5, cn 6), (rf5 34, cn 9, (1, 1, 0, 3))] [(0, (1, 1, 0, 2), (1, 1, 0, 1), cn 0)] [rf5 0, (1, 1, 0, 1), (1, 1, 0, 2), any7, any7, any7] [] [] []) = true := sorry
set_option maxRecDepth 100000 in
set_option maxHeartbeats 40000000 in
theorem kdc1_7 : (jf [(34, 34, 5, 5), (34, 34, 9, 9), (46, 46, 0, 5)] && subW [(34, 34, 5, 5), (34, 34, 9, 9), (46, 46, 0, 5)] Wdc && aex prog HT [(34, 34, 5, 5), (34, 34, 9, 9), (46, 46, 0, 5)] [] true tb0 (fun i' S => decide (i' = 9) && (ctr S.2.2.1 || (eac1 S && rbC S.2.2.1 S.2.1 34 5 34 9 clc 7))) oxN 150 true 50 94 mX7_deal 9 [.inl (77777, 77777), .inl (1, 9), .inl (0, 8), .inl (-2147483648, 2147483647)] [(rf5 34, cn 5, cn 7), (rf5 34, cn 9, (1, 1, 0, 3))] [(0, (1, 1, 0, 2), (1, 1, 0, 1), cn 0)] [rf5 0, (1, 1, 0, 1), (1, 1, 0, 2), any7, any7, any7] [] [] []) = true := sorry
set_option maxRecDepth 100000 in
set_option maxHeartbeats 40000000 in
theorem kdc1_8 : (jf [(34, 34, 5, 5), (34, 34, 9, 9), (47, 47, 0, 5)] && subW [(34, 34, 5, 5), (34, 34, 9, 9), (47, 47, 0, 5)] Wdc && aex prog HT [(34, 34, 5, 5), (34, 34, 9, 9), (47, 47, 0, 5)] [] true tb0 (fun i' S => decide (i' = 9) && (ctr S.2.2.1 || (eac1 S && rbC S.2.2.1 S.2.1 34 5 34 9 clc 8))) oxN 150 true 50 94 mX7_deal 9 [.inl (77777, 77777), .inl (1, 9), .inl (0, 8), .inl (-2147483648, 2147483647)] [(rf5 34, cn 5, cn 8), (rf5 34, cn 9, (1, 1, 0, 3))] [(0, (1, 1, 0, 2), (1, 1, 0, 1), cn 0)] [rf5 0, (1, 1, 0, 1), (1, 1, 0, 2), any7, any7, any7] [] [] []) = true := sorry
theorem kdc1 : ∀ m : Nat, m < 9 → (jf (Wdcm m) && subW (Wdcm m) Wdc && aex prog HT (Wdcm m) [] true tb0 (fun i' S => decide (i' = 9) && (ctr S.2.2.1 || (eac1 S && rbC S.2.2.1 S.2.1 34 5 34 9 clc m))) oxN 150 true 50 94 mX7_deal 9 [.inl (77777, 77777), .inl (1, 9), .inl (0, 8), .inl (-2147483648, 2147483647)] [(rf5 34, cn 5, cn m), (rf5 34, cn 9, (1, 1, 0, 3))] [(0, (1, 1, 0, 2), (1, 1, 0, 1), cn 0)] [rf5 0, (1, 1, 0, 1), (1, 1, 0, 2), any7, any7, any7] [] [] []) = true
  | 0, _ => kdc1_0
  | 1, _ => kdc1_1
  | 2, _ => kdc1_2
  | 3, _ => kdc1_3
  | 4, _ => kdc1_4
  | 5, _ => kdc1_5
  | 6, _ => kdc1_6
  | 7, _ => kdc1_7
  | 8, _ => kdc1_8
  | m + 9, h => absurd h (by omega)
set_option maxRecDepth 100000 in
set_option maxHeartbeats 40000000 in
theorem kdc2 : aex prog HT [] [] true tb0 (fun i' S => decide (i' = 45) && (ctr S.2.2.1 || eac2 S)) oxN 60 true 50 94 mX7_deal 9 [.inl (77777, 77777), .inl (1, 9), .inl (0, 9)] [(rf5 34, cn 5, cn 9)] [] [rf5 0, (1, 1, 0, 1), (1, 1, 0, 2), any7, any7, any7] [] [] [] = true := sorry
section DEALC
variable {E : pX} {h : List pC}
theorem ct_cd (hh : HI HT h) : ct h 34 5 = some (.int (ri h 34 5)) ∧ ct h 34 9 = some (.int (ri h 34 9)) := ⟨(ri_ty (k := 8) (a := 34) (i := 5) (p := (0, 9)) hh rfl).1, (ri_ty (k := 8) (a := 34) (i := 9) (p := (-2147483648, 2147483647)) hh rfl).1⟩
theorem deal_cl {d : Nat} (hd : 50 ≤ d + 1) {n : Int32} (hn0 : 1 ≤ n.toInt) (hn : n.toInt ≤ 9) : ∀ (t : Nat) (c : Int32) (a3 a4 a5 : Option Value) (h : List pC) (m : Nat), m ≤ 9 → c.toInt + t = n.toInt → 0 ≤ c.toInt → pcat2 a3 = false → pcat2 a4 = false → pcat2 a5 = false → HI HT h → JT h → (ri h 34 5).toInt = m → Gl prog E pV1 (fun r h' => ∃ (j : Nat) (v : Int32), (j : Int) = min (t : Int) (9 - m) ∧ r = some (.int v) ∧ v.toInt = c.toInt + j ∧ HI HT h' ∧ JT h' ∧ Fr Wdc h h' ∧ DL 34 5 34 9 clc m j h h') (d + 1) mX7_deal 9 [some (.ref 0), some (.int n), some (.int c), a3, a4, a5] [] h [] := by
  intro t
  induction t with
  | zero =>
    intro c a3 a4 a5 h m h9 h1 h2 c3 c4 c5 hh hj em
    refine ⟨some (.int c), h, ?_, 0, c, by omega, rfl, by omega, hh, hj, Fr.rf _ _, DL.nil em⟩
    refine RA.steps 2 rfl ?_
    refine RA.if2T (x := 45) rfl (decide_eq_true (Int32.le_iff_toInt_le.mpr (by omega))) ?_
    refine RA.steps 1 rfl ?_
    exact RA.ret rfl rfl
  | succ t ih =>
    intro c a3 a4 a5 h m h9 h1 h2 c3 c4 c5 hh hj em
    obtain ⟨cn1, cz1⟩ := ct_cd hh
    by_cases hm9 : m = 9
    · subst hm9
      refine hop (σ0 := fun t => match t with | 0 => 77777 | 1 => n.toInt | _ => c.toInt) kdc2 no_kc (by decide) hj hd (by decide) ⟨⟨Nat.le_refl _, agr.rf _ _⟩, fun k e hk => ?_, ?_, (fun e he => by cases he), LG.cons (lGr 0) (LG.cons (lGi (show 1 < 3 by decide) (by show n.toInt = 1 * n.toInt + 0; omega)) (LG.cons (lGi (show 2 < 3 by decide) (by show c.toInt = 1 * c.toInt + 0; omega)) (LG.cons (lG.any c3) (LG.cons (lG.any c4) (LG.cons (lG.any c5) LGn))))), trivial, hh, Fr.rf _ _⟩ (fun σ S L' st' h1' hec g => ?_)
      · match k, hk with
        | 0, hk => cases hk; exact ⟨Int.le_refl 77777, Int.le_refl 77777⟩
        | 1, hk => cases hk; exact ⟨hn0, hn⟩
        | 2, hk => cases hk; exact ⟨h2, by show c.toInt ≤ 9; omega⟩
        | k + 3, hk => simp at hk
      · exact cok.cs ⟨34, 5, _, Or.inl ⟨rfl, rfl⟩, cnZ _, cn1, Nat.zero_le _, by rw [em]; exact cnZ _⟩ cok.nil
      · unfold eac2 at hec
        rw [Bool.and_eq_true] at hec
        obtain ⟨b1, b2⟩ := hec
        obtain ⟨⟨gn, ga⟩, gk, gc, gf, gL, gS_, gh, gF⟩ := g
        split at b1
        · rename_i xa xb xc x3 x4 x5 hA
          rw [hA] at gL
          simp only [Bool.and_eq_true, decide_eq_true_eq, Bool.not_eq_true'] at b1
          obtain ⟨⟨⟨⟨⟨rfl, rfl⟩, rfl⟩, e3⟩, e4⟩, e5⟩ := b1
          obtain ⟨l0, l1, l2, l3, l4, l5, rfl⟩ := sixL gL.1
          obtain ⟨w0, k0, v0⟩ := gL.at (k := 0) rfl (by decide)
          obtain ⟨w1, k1, v1⟩ := gL.at (k := 1) rfl (by decide)
          obtain ⟨w2, k2, v2⟩ := gL.at (k := 2) rfl (by decide)
          have q3 : pcat2 l3 = false := gL.cat2 (k := 3) rfl (of_decide_eq_false e3)
          have q4 : pcat2 l4 = false := gL.cat2 (k := 4) rfl (of_decide_eq_false e4)
          have q5 : pcat2 l5 = false := gL.cat2 (k := 5) rfl (of_decide_eq_false e5)
          obtain rfl : l0 = some w0 := k0
          obtain rfl : l1 = some w1 := k1
          obtain rfl : l2 = some w2 := k2
          obtain ⟨a, rfl, ha | ha⟩ := v0.ref (Or.inl rfl)
          rotate_left
          · exact absurd ha.1 (show ¬ (5 : Nat) = 6 by decide)
          obtain rfl : a = 0 := ha.2
          obtain ⟨u1, rfl, z1⟩ := v1.int (Nat.le_refl 1)
          obtain ⟨u2, rfl, z2⟩ := v2.int (by decide)
          obtain rfl : u1 = n := Int32.toInt_inj.mp ((zsy z1).trans (ga 1 (by decide)))
          obtain rfl : st' = [] := by
            have := gS_
            rw [List.isEmpty_iff.mp b2] at this
            exact this.nil_inv
          obtain rfl : u2 = c := Int32.toInt_inj.mp ((zsy z2).trans (ga 2 (by decide)))
          have hj1 : JT h1' := JT_P _ _ _ (by decide) gF hj
          refine ⟨some (.int u2), h1', ?_, 0, u2, by omega, rfl, by omega, gh, hj1, gF.sub rfl, DL.fr0 em gF⟩
          refine RA.steps 1 rfl ?_
          exact RA.ret rfl rfl
        · cases b1
    · have hm8 : m < 9 := by omega
      have hck := kdc1 m hm8
      rw [Bool.and_eq_true, Bool.and_eq_true] at hck
      obtain ⟨⟨hjf, hsw⟩, hck⟩ := hck
      refine hop (σ0 := fun t => match t with | 0 => 77777 | 1 => n.toInt | 2 => c.toInt | _ => (ri h 34 9).toInt) hck no_kc hjf hj hd (by decide) ⟨⟨Nat.le_refl _, agr.rf _ _⟩, fun k e hk => ?_, ?_, ?_, LG.cons (lGr 0) (LG.cons (lGi (show 1 < 4 by decide) (by show n.toInt = 1 * n.toInt + 0; omega)) (LG.cons (lGi (show 2 < 4 by decide) (by show c.toInt = 1 * c.toInt + 0; omega)) (LG.cons (lG.any c3) (LG.cons (lG.any c4) (LG.cons (lG.any c5) LGn))))), trivial, hh, Fr.rf _ _⟩ (fun σ S L' st' h1' hec g => ?_)
      · match k, hk with
        | 0, hk => cases hk; exact ⟨Int.le_refl 77777, Int.le_refl 77777⟩
        | 1, hk => cases hk; exact ⟨hn0, hn⟩
        | 2, hk => cases hk; exact ⟨h2, by show c.toInt ≤ 8; omega⟩
        | 3, hk => cases hk; exact ⟨i32_lo _, i32_hi _⟩
        | k + 4, hk => simp at hk
      · exact cok.cs ⟨34, 5, _, Or.inl ⟨rfl, rfl⟩, cnZ _, cn1, Nat.zero_le _, by rw [em]; exact cnZ _⟩ (cok.cs ⟨34, 9, _, Or.inl ⟨rfl, rfl⟩, cnZ _, cz1, Nat.le_refl 1, zG.mk (by decide) (by show (ri h 34 9).toInt = 1 * (ri h 34 9).toInt + 0; omega) (show 3 < 4 by decide)⟩ cok.nil)
      · intro f hf
        obtain rfl := List.mem_singleton.mp hf
        exact ⟨c.toInt, n.toInt, zG.mk (by decide) (by show c.toInt = 1 * c.toInt + 0; omega) (show 2 < 4 by decide), zG.mk (by decide) (by show n.toInt = 1 * n.toInt + 0; omega) (show 1 < 4 by decide), (show c.toInt < n.toInt by omega)⟩
      · unfold eac1 at hec
        rw [Bool.and_eq_true, Bool.and_eq_true] at hec
        obtain ⟨⟨b1, b2⟩, b3⟩ := hec
        obtain ⟨⟨gn, ga⟩, gk, gc, gf, gL, gS_, gh, gF⟩ := g
        split at b1
        · rename_i xa xb xc x3 x4 x5 hA
          rw [hA] at gL
          simp only [Bool.and_eq_true, decide_eq_true_eq, Bool.not_eq_true'] at b1
          obtain ⟨⟨⟨⟨⟨rfl, rfl⟩, rfl⟩, e3⟩, e4⟩, e5⟩ := b1
          obtain ⟨l0, l1, l2, l3, l4, l5, rfl⟩ := sixL gL.1
          obtain ⟨w0, k0, v0⟩ := gL.at (k := 0) rfl (by decide)
          obtain ⟨w1, k1, v1⟩ := gL.at (k := 1) rfl (by decide)
          obtain ⟨w2, k2, v2⟩ := gL.at (k := 2) rfl (by decide)
          have q3 : pcat2 l3 = false := gL.cat2 (k := 3) rfl (of_decide_eq_false e3)
          have q4 : pcat2 l4 = false := gL.cat2 (k := 4) rfl (of_decide_eq_false e4)
          have q5 : pcat2 l5 = false := gL.cat2 (k := 5) rfl (of_decide_eq_false e5)
          obtain rfl : l0 = some w0 := k0
          obtain rfl : l1 = some w1 := k1
          obtain rfl : l2 = some w2 := k2
          obtain ⟨a, rfl, ha | ha⟩ := v0.ref (Or.inl rfl)
          rotate_left
          · exact absurd ha.1 (show ¬ (5 : Nat) = 6 by decide)
          obtain rfl : a = 0 := ha.2
          obtain ⟨u1, rfl, z1⟩ := v1.int (Nat.le_refl 1)
          obtain ⟨u2, rfl, z2⟩ := v2.int (by decide)
          obtain rfl : u1 = n := Int32.toInt_inj.mp ((zsy z1).trans (ga 1 (by decide)))
          obtain rfl : st' = [] := by
            have := gS_
            rw [List.isEmpty_iff.mp b2] at this
            exact this.nil_inv
          have y2 : u2.toInt = c.toInt + 1 := by
            have y2 : u2.toInt = 1 * σ 2 + 1 := (z2.lin (show ¬ (1 : Nat) % 2 = 0 by decide)).1
            have s2 : σ 2 = c.toInt := ga 2 (by decide)
            omega
          obtain ⟨r1, r2, r3⟩ := rbC_ok (z := ri h 34 9) (ga 3 (by decide)) (Nat.lt_of_lt_of_le (show 3 < 4 by decide) gn) gc gf b3
          have hj1 : JT h1' := JT_P _ _ _ hjf gF hj
          refine (ih u2 l3 l4 l5 h1' (m + 1) (by omega) (by omega) (by omega) q3 q4 q5 gh hj1 r1).weak (fun r h2' hp => ?_)
          obtain ⟨j, v, p1, p2, p3, p4, p5, p6, p7⟩ := hp
          refine ⟨j + 1, v, by omega, p2, by omega, p4, p5, (gF.sub hsw).tr p6, DL.cs hm8 r2 r3 (fun i f hi hf hne => ri_fr gF (nin_iff.mpr ?_)) p7⟩
          simp only [Wdcm, clc, List.forall_mem_cons]
          exact ⟨by omega, by omega, by omega, fun _ h => absurd h List.not_mem_nil⟩
        · cases b1
theorem deal_c (x : Int32) (hx : 1 ≤ x.toInt ∧ x.toInt ≤ 9) (hh : HI HT h) (hj : JT h) {m : Nat} (h9 : m ≤ 9) (em : (ri h 34 5).toInt = m) : ∃ (j : Nat) (v : Int32) (h' : List pC), Run prog E pV1 120 mX7_deal [.ref 0, .int x] h (some (.int v), h', 0, 0) ∧ (j : Int) = min x.toInt (9 - m) ∧ v.toInt = j ∧ HI HT h' ∧ JT h' ∧ Fr Wdc h h' ∧ DL 34 5 34 9 clc m j h h' := by
  have g : Gl prog E pV1 (fun r h' => ∃ (j : Nat) (v : Int32), (j : Int) = min x.toInt (9 - m) ∧ r = some (.int v) ∧ v.toInt = j ∧ HI HT h' ∧ JT h' ∧ Fr Wdc h h' ∧ DL 34 5 34 9 clc m j h h') 120 mX7_deal 0 (pent (m_l mX7_deal) [.ref 0, .int x]) [] h [] := by
    refine hop (σ0 := fun t => match t with | 0 => 77777 | _ => x.toInt) kdc0 no_kc (by decide) hj (by decide) (by decide) ⟨⟨Nat.le_refl _, agr.rf _ _⟩, fun k e hk => ?_, (fun e he => by cases he), (fun e he => by cases he), LG.cons (lGr 0) (LG.cons (lGi (by decide) (by show x.toInt = 1 * x.toInt + 0; omega)) (LG.cons (lG.any rfl) (LG.cons (lG.any rfl) (LG.cons (lG.any rfl) (LG.cons (lG.any rfl) LGn))))), trivial, hh, Fr.rf _ _⟩ (fun σ S L' st' h1' hec g => ?_)
    · match k, hk with
      | 0, hk => cases hk; exact ⟨Int.le_refl 77777, Int.le_refl 77777⟩
      | 1, hk => cases hk; exact hx
      | k + 2, hk => simp at hk
    · unfold eac0 at hec
      rw [Bool.and_eq_true] at hec
      obtain ⟨b1, b2⟩ := hec
      obtain ⟨⟨gn, ga⟩, gk, gc, gf, gL, gS_, gh, gF⟩ := g
      split at b1
      · rename_i xa xb xc x3 x4 x5 hA
        rw [hA] at gL
        simp only [Bool.and_eq_true, decide_eq_true_eq, Bool.not_eq_true'] at b1
        obtain ⟨⟨⟨⟨⟨rfl, rfl⟩, rfl⟩, e3⟩, e4⟩, e5⟩ := b1
        obtain ⟨l0, l1, l2, l3, l4, l5, rfl⟩ := sixL gL.1
        obtain ⟨w0, k0, v0⟩ := gL.at (k := 0) rfl (by decide)
        obtain ⟨w1, k1, v1⟩ := gL.at (k := 1) rfl (by decide)
        obtain ⟨w2, k2, v2⟩ := gL.at (k := 2) rfl (by decide)
        have q3 : pcat2 l3 = false := gL.cat2 (k := 3) rfl (of_decide_eq_false e3)
        have q4 : pcat2 l4 = false := gL.cat2 (k := 4) rfl (of_decide_eq_false e4)
        have q5 : pcat2 l5 = false := gL.cat2 (k := 5) rfl (of_decide_eq_false e5)
        obtain rfl : l0 = some w0 := k0
        obtain rfl : l1 = some w1 := k1
        obtain rfl : l2 = some w2 := k2
        obtain ⟨a, rfl, ha | ha⟩ := v0.ref (Or.inl rfl)
        rotate_left
        · exact absurd ha.1 (show ¬ (5 : Nat) = 6 by decide)
        obtain rfl : a = 0 := ha.2
        obtain ⟨u1, rfl, z1⟩ := v1.int (Nat.le_refl 1)
        obtain ⟨u2, rfl, z2⟩ := v2.int (by decide)
        obtain rfl : u1 = x := Int32.toInt_inj.mp ((zsy z1).trans (ga 1 (by decide)))
        obtain rfl : st' = [] := by
          have := gS_
          rw [List.isEmpty_iff.mp b2] at this
          exact this.nil_inv
        obtain rfl : u2 = 0 := Int32.toInt_inj.mp ((zcn z2).trans (by decide))
        have hj1 : JT h1' := JT_P _ _ _ (by decide) gF hj
        have er : ∀ a i, ri h1' a i = ri h a i := fun a i => ri_fr gF rfl
        refine (deal_cl (E := E) (d := 119) (by decide) hx.1 hx.2 u1.toInt.toNat 0 l3 l4 l5 h1' m h9 (by rw [show (0 : Int32).toInt = 0 by decide]; omega) (by decide) q3 q4 q5 gh hj1 (by rw [er]; exact em)).weak (fun r h2' hp => ?_)
        obtain ⟨j, v, p1, p2, p3, p4, p5, p6, p7⟩ := hp
        exact ⟨j, v, by omega, p2, (by have e0 : (0 : Int32).toInt = 0 := (by decide); omega), p4, p5, (gF.sub rfl).tr p6, DL.eq er p7⟩
      · cases b1
  obtain ⟨r, h', q1, j, v, q2, rfl, q3⟩ := g
  exact ⟨j, v, h', ⟨Nat.le_of_ble_eq_true rfl, ⟨_, _, rfl⟩, q1⟩, q2, q3⟩
end DEALC
def Wdr : aW := [(111, 111, 0, 0), (111, 111, 4, 4), (111, 111, 21, 74)]
def Wdrm (m : Nat) : aW := [(111, 111, 0, 0), (111, 111, 4, 4), (111, 111, 21 + 6 * m, 26 + 6 * m)]
def clr : Nat → Nat → Nat × Nat := fun i f => (111, 21 + 6 * i + f)
def ear0 (S : aS) : Bool := (match S.2.2.2.1 with
  | [xa, xb, xc, x3, x4] => decide (xa = rf5 110) && decide (xb = (1, 1, 0, 1)) && decide (xc = cn 0) && !isL x3 && !isL x4
  | _ => false) && S.2.2.2.2.isEmpty
def ear1 (S : aS) : Bool := (match S.2.2.2.1 with
  | [xa, xb, xc, x3, x4] => decide (xa = rf5 110) && decide (xb = (1, 1, 0, 1)) && decide (xc = (1, 1, 1, 2)) && !isL x3 && !isL x4
  | _ => false) && S.2.2.2.2.isEmpty
def ear2 (S : aS) : Bool := (match S.2.2.2.1 with
  | [xa, xb, xc, x3, x4] => decide (xa = rf5 110) && decide (xb = (1, 1, 0, 1)) && decide (xc = (1, 1, 0, 2)) && !isL x3 && !isL x4
  | _ => false) && S.2.2.2.2.isEmpty
set_option maxRecDepth 100000 in
set_option maxHeartbeats 40000000 in
theorem kdr0 : aex prog HT [] [] true tb0 (fun i' S => decide (i' = 10) && (ctr S.2.2.1 || ear0 S)) oxN 60 false 110 173 mX8_deal 0 [.inl (77777, 77777), .inl (1, 9)] [] [] [rf5 110, (1, 1, 0, 1), any7, any7, any7] [] [] [] = true := sorry
set_option maxRecDepth 100000 in
set_option maxHeartbeats 40000000 in
theorem kdr1_0 : (jf [(111, 111, 0, 0), (111, 111, 4, 4), (111, 111, 21, 26)] && subW [(111, 111, 0, 0), (111, 111, 4, 4), (111, 111, 21, 26)] Wdr && aex prog HT [(111, 111, 0, 0), (111, 111, 4, 4), (111, 111, 21, 26)] [] true tb0 (fun i' S => decide (i' = 10) && (ctr S.2.2.1 || (ear1 S && rbC S.2.2.1 S.2.1 111 0 111 4 clr 0))) oxN 215 true 110 173 mX8_deal 10 [.inl (77777, 77777), .inl (1, 9), .inl (0, 8), .inl (-2147483648, 2147483647)] [(rf5 111, cn 0, cn 0), (rf5 111, cn 4, (1, 1, 0, 3))] [(0, (1, 1, 0, 2), (1, 1, 0, 1), cn 0)] [rf5 110, (1, 1, 0, 1), (1, 1, 0, 2), any7, any7] [] [] []) = true := sorry
set_option maxRecDepth 100000 in
set_option maxHeartbeats 40000000 in
theorem kdr1_1 : (jf [(111, 111, 0, 0), (111, 111, 4, 4), (111, 111, 27, 32)] && subW [(111, 111, 0, 0), (111, 111, 4, 4), (111, 111, 27, 32)] Wdr && aex prog HT [(111, 111, 0, 0), (111, 111, 4, 4), (111, 111, 27, 32)] [] true tb0 (fun i' S => decide (i' = 10) && (ctr S.2.2.1 || (ear1 S && rbC S.2.2.1 S.2.1 111 0 111 4 clr 1))) oxN 215 true 110 173 mX8_deal 10 [.inl (77777, 77777), .inl (1, 9), .inl (0, 8), .inl (-2147483648, 2147483647)] [(rf5 111, cn 0, cn 1), (rf5 111, cn 4, (1, 1, 0, 3))] [(0, (1, 1, 0, 2), (1, 1, 0, 1), cn 0)] [rf5 110, (1, 1, 0, 1), (1, 1, 0, 2), any7, any7] [] [] []) = true := sorry
set_option maxRecDepth 100000 in
set_option maxHeartbeats 40000000 in
theorem kdr1_2 : (jf [(111, 111, 0, 0), (111, 111, 4, 4), (111, 111, 33, 38)] && subW [(111, 111, 0, 0), (111, 111, 4, 4), (111, 111, 33, 38)] Wdr && aex prog HT [(111, 111, 0, 0), (111, 111, 4, 4), (111, 111, 33, 38)] [] true tb0 (fun i' S => decide (i' = 10) && (ctr S.2.2.1 || (ear1 S && rbC S.2.2.1 S.2.1 111 0 111 4 clr 2))) oxN 215 true 110 173 mX8_deal 10 [.inl (77777, 77777), .inl (1, 9), .inl (0, 8), .inl (-2147483648, 2147483647)] [(rf5 111, cn 0, cn 2), (rf5 111, cn 4, (1, 1, 0, 3))] [(0, (1, 1, 0, 2), (1, 1, 0, 1), cn 0)] [rf5 110, (1, 1, 0, 1), (1, 1, 0, 2), any7, any7] [] [] []) = true := sorry
set_option maxRecDepth 100000 in
set_option maxHeartbeats 40000000 in
theorem kdr1_3 : (jf [(111, 111, 0, 0), (111, 111, 4, 4), (111, 111, 39, 44)] && subW [(111, 111, 0, 0), (111, 111, 4, 4), (111, 111, 39, 44)] Wdr && aex prog HT [(111, 111, 0, 0), (111, 111, 4, 4), (111, 111, 39, 44)] [] true tb0 (fun i' S => decide (i' = 10) && (ctr S.2.2.1 || (ear1 S && rbC S.2.2.1 S.2.1 111 0 111 4 clr 3))) oxN 215 true 110 173 mX8_deal 10 [.inl (77777, 77777), .inl (1, 9), .inl (0, 8), .inl (-2147483648, 2147483647)] [(rf5 111, cn 0, cn 3), (rf5 111, cn 4, (1, 1, 0, 3))] [(0, (1, 1, 0, 2), (1, 1, 0, 1), cn 0)] [rf5 110, (1, 1, 0, 1), (1, 1, 0, 2), any7, any7] [] [] []) = true := sorry
set_option maxRecDepth 100000 in
set_option maxHeartbeats 40000000 in
theorem kdr1_4 : (jf [(111, 111, 0, 0), (111, 111, 4, 4), (111, 111, 45, 50)] && subW [(111, 111, 0, 0), (111, 111, 4, 4), (111, 111, 45, 50)] Wdr && aex prog HT [(111, 111, 0, 0), (111, 111, 4, 4), (111, 111, 45, 50)] [] true tb0 (fun i' S => decide (i' = 10) && (ctr S.2.2.1 || (ear1 S && rbC S.2.2.1 S.2.1 111 0 111 4 clr 4))) oxN 215 true 110 173 mX8_deal 10 [.inl (77777, 77777), .inl (1, 9), .inl (0, 8), .inl (-2147483648, 2147483647)] [(rf5 111, cn 0, cn 4), (rf5 111, cn 4, (1, 1, 0, 3))] [(0, (1, 1, 0, 2), (1, 1, 0, 1), cn 0)] [rf5 110, (1, 1, 0, 1), (1, 1, 0, 2), any7, any7] [] [] []) = true := sorry
set_option maxRecDepth 100000 in
set_option maxHeartbeats 40000000 in
theorem kdr1_5 : (jf [(111, 111, 0, 0), (111, 111, 4, 4), (111, 111, 51, 56)] && subW [(111, 111, 0, 0), (111, 111, 4, 4), (111, 111, 51, 56)] Wdr && aex prog HT [(111, 111, 0, 0), (111, 111, 4, 4), (111, 111, 51, 56)] [] true tb0 (fun i' S => decide (i' = 10) && (ctr S.2.2.1 || (ear1 S && rbC S.2.2.1 S.2.1 111 0 111 4 clr 5))) oxN 215 true 110 173 mX8_deal 10 [.inl (77777, 77777), .inl (1, 9), .inl (0, 8), .inl (-2147483648, 2147483647)] [(rf5 111, cn 0, cn 5), (rf5 111, cn 4, (1, 1, 0, 3))] [(0, (1, 1, 0, 2), (1, 1, 0, 1), cn 0)] [rf5 110, (1, 1, 0, 1), (1, 1, 0, 2), any7, any7] [] [] []) = true := sorry
set_option maxRecDepth 100000 in
set_option maxHeartbeats 40000000 in
theorem kdr1_6 : (jf [(111, 111, 0, 0), (111, 111, 4, 4), (111, 111, 57, 62)] && subW [(111, 111, 0, 0), (111, 111, 4, 4), (111, 111, 57, 62)] Wdr && aex prog HT [(111, 111, 0, 0), (111, 111, 4, 4), (111, 111, 57, 62)] [] true tb0 (fun i' S => decide (i' = 10) && (ctr S.2.2.1 || (ear1 S && rbC S.2.2.1 S.2.1 111 0 111 4 clr 6))) oxN 215 true 110 173 mX8_deal 10 [.inl (77777, 77777), .inl (1, 9), .inl (0, 8), .inl (-2147483648, 2147483647)] [(rf5 111, cn 0, cn 6), (rf5 111, cn 4, (1, 1, 0, 3))] [(0, (1, 1, 0, 2), (1, 1, 0, 1), cn 0)] [rf5 110, (1, 1, 0, 1), (1, 1, 0, 2), any7, any7] [] [] []) = true := sorry
set_option maxRecDepth 100000 in
set_option maxHeartbeats 40000000 in
theorem kdr1_7 : (jf [(111, 111, 0, 0), (111, 111, 4, 4), (111, 111, 63, 68)] && subW [(111, 111, 0, 0), (111, 111, 4, 4), (111, 111, 63, 68)] Wdr && aex prog HT [(111, 111, 0, 0), (111, 111, 4, 4), (111, 111, 63, 68)] [] true tb0 (fun i' S => decide (i' = 10) && (ctr S.2.2.1 || (ear1 S && rbC S.2.2.1 S.2.1 111 0 111 4 clr 7))) oxN 215 true 110 173 mX8_deal 10 [.inl (77777, 77777), .inl (1, 9), .inl (0, 8), .inl (-2147483648, 2147483647)] [(rf5 111, cn 0, cn 7), (rf5 111, cn 4, (1, 1, 0, 3))] [(0, (1, 1, 0, 2), (1, 1, 0, 1), cn 0)] [rf5 110, (1, 1, 0, 1), (1, 1, 0, 2), any7, any7] [] [] []) = true := sorry
set_option maxRecDepth 100000 in
set_option maxHeartbeats 40000000 in
theorem kdr1_8 : (jf [(111, 111, 0, 0), (111, 111, 4, 4), (111, 111, 69, 74)] && subW [(111, 111, 0, 0), (111, 111, 4, 4), (111, 111, 69, 74)] Wdr && aex prog HT [(111, 111, 0, 0), (111, 111, 4, 4), (111, 111, 69, 74)] [] true tb0 (fun i' S => decide (i' = 10) && (ctr S.2.2.1 || (ear1 S && rbC S.2.2.1 S.2.1 111 0 111 4 clr 8))) oxN 215 true 110 173 mX8_deal 10 [.inl (77777, 77777), .inl (1, 9), .inl (0, 8), .inl (-2147483648, 2147483647)] [(rf5 111, cn 0, cn 8), (rf5 111, cn 4, (1, 1, 0, 3))] [(0, (1, 1, 0, 2), (1, 1, 0, 1), cn 0)] [rf5 110, (1, 1, 0, 1), (1, 1, 0, 2), any7, any7] [] [] []) = true := sorry
theorem kdr1 : ∀ m : Nat, m < 9 → (jf (Wdrm m) && subW (Wdrm m) Wdr && aex prog HT (Wdrm m) [] true tb0 (fun i' S => decide (i' = 10) && (ctr S.2.2.1 || (ear1 S && rbC S.2.2.1 S.2.1 111 0 111 4 clr m))) oxN 215 true 110 173 mX8_deal 10 [.inl (77777, 77777), .inl (1, 9), .inl (0, 8), .inl (-2147483648, 2147483647)] [(rf5 111, cn 0, cn m), (rf5 111, cn 4, (1, 1, 0, 3))] [(0, (1, 1, 0, 2), (1, 1, 0, 1), cn 0)] [rf5 110, (1, 1, 0, 1), (1, 1, 0, 2), any7, any7] [] [] []) = true
  | 0, _ => kdr1_0
  | 1, _ => kdr1_1
  | 2, _ => kdr1_2
  | 3, _ => kdr1_3
  | 4, _ => kdr1_4
  | 5, _ => kdr1_5
  | 6, _ => kdr1_6
  | 7, _ => kdr1_7
  | 8, _ => kdr1_8
  | m + 9, h => absurd h (by omega)
set_option maxRecDepth 100000 in
set_option maxHeartbeats 40000000 in
theorem kdr2 : aex prog HT [] [] true tb0 (fun i' S => decide (i' = 41) && (ctr S.2.2.1 || ear2 S)) oxN 60 true 110 173 mX8_deal 10 [.inl (77777, 77777), .inl (1, 9), .inl (0, 9)] [(rf5 111, cn 0, cn 9)] [] [rf5 110, (1, 1, 0, 1), (1, 1, 0, 2), any7, any7] [] [] [] = true := sorry
section DEALR
variable {E : pX} {h : List pC}
theorem ct_rd (hh : HI HT h) : ct h 111 0 = some (.int (ri h 111 0)) ∧ ct h 111 4 = some (.int (ri h 111 4)) := by
  obtain ⟨f, p1, u1, -⟩ := hi_int hh HT111
  exact ⟨by rw [ct_ri p1 (by decide), ← u1 0 (by decide)], by rw [ct_ri p1 (by decide), ← u1 4 (by decide)]⟩
theorem deal_rl {d : Nat} (hd : 110 ≤ d + 1) {n : Int32} (hn0 : 1 ≤ n.toInt) (hn : n.toInt ≤ 9) : ∀ (t : Nat) (c : Int32) (a3 a4 : Option Value) (h : List pC) (m : Nat), m ≤ 9 → c.toInt + t = n.toInt → 0 ≤ c.toInt → pcat2 a3 = false → pcat2 a4 = false → HI HT h → JT h → (ri h 111 0).toInt = m → Gl prog E pV1 (fun r h' => ∃ (j : Nat) (v : Int32), (j : Int) = min (t : Int) (9 - m) ∧ r = some (.int v) ∧ v.toInt = c.toInt + j ∧ HI HT h' ∧ JT h' ∧ Fr Wdr h h' ∧ DL 111 0 111 4 clr m j h h') (d + 1) mX8_deal 10 [some (.ref 110), some (.int n), some (.int c), a3, a4] [] h [] := by
  intro t
  induction t with
  | zero =>
    intro c a3 a4 h m h9 h1 h2 c3 c4 hh hj em
    refine ⟨some (.int c), h, ?_, 0, c, by omega, rfl, by omega, hh, hj, Fr.rf _ _, DL.nil em⟩
    refine RA.steps 2 rfl ?_
    refine RA.if2T (x := 41) rfl (decide_eq_true (Int32.le_iff_toInt_le.mpr (by omega))) ?_
    refine RA.steps 1 rfl ?_
    exact RA.ret rfl rfl
  | succ t ih =>
    intro c a3 a4 h m h9 h1 h2 c3 c4 hh hj em
    obtain ⟨cn1, cz1⟩ := ct_rd hh
    by_cases hm9 : m = 9
    · subst hm9
      refine hop (σ0 := fun t => match t with | 0 => 77777 | 1 => n.toInt | _ => c.toInt) kdr2 no_kc (by decide) hj hd (by decide) ⟨⟨Nat.le_refl _, agr.rf _ _⟩, fun k e hk => ?_, ?_, (fun e he => by cases he), LG.cons (lGr 110) (LG.cons (lGi (show 1 < 3 by decide) (by show n.toInt = 1 * n.toInt + 0; omega)) (LG.cons (lGi (show 2 < 3 by decide) (by show c.toInt = 1 * c.toInt + 0; omega)) (LG.cons (lG.any c3) (LG.cons (lG.any c4) LGn)))), trivial, hh, Fr.rf _ _⟩ (fun σ S L' st' h1' hec g => ?_)
      · match k, hk with
        | 0, hk => cases hk; exact ⟨Int.le_refl 77777, Int.le_refl 77777⟩
        | 1, hk => cases hk; exact ⟨hn0, hn⟩
        | 2, hk => cases hk; exact ⟨h2, by show c.toInt ≤ 9; omega⟩
        | k + 3, hk => simp at hk
      · exact cok.cs ⟨111, 0, _, Or.inl ⟨rfl, rfl⟩, cnZ _, cn1, Nat.zero_le _, by rw [em]; exact cnZ _⟩ cok.nil
      · unfold ear2 at hec
        rw [Bool.and_eq_true] at hec
        obtain ⟨b1, b2⟩ := hec
        obtain ⟨⟨gn, ga⟩, gk, gc, gf, gL, gS_, gh, gF⟩ := g
        split at b1
        · rename_i xa xb xc x3 x4 hA
          rw [hA] at gL
          simp only [Bool.and_eq_true, decide_eq_true_eq, Bool.not_eq_true'] at b1
          obtain ⟨⟨⟨⟨rfl, rfl⟩, rfl⟩, e3⟩, e4⟩ := b1
          obtain ⟨l0, l1, l2, l3, l4, rfl⟩ := fiveL gL.1
          obtain ⟨w0, k0, v0⟩ := gL.at (k := 0) rfl (by decide)
          obtain ⟨w1, k1, v1⟩ := gL.at (k := 1) rfl (by decide)
          obtain ⟨w2, k2, v2⟩ := gL.at (k := 2) rfl (by decide)
          have q3 : pcat2 l3 = false := gL.cat2 (k := 3) rfl (of_decide_eq_false e3)
          have q4 : pcat2 l4 = false := gL.cat2 (k := 4) rfl (of_decide_eq_false e4)
          obtain rfl : l0 = some w0 := k0
          obtain rfl : l1 = some w1 := k1
          obtain rfl : l2 = some w2 := k2
          obtain ⟨a, rfl, ha | ha⟩ := v0.ref (Or.inl rfl)
          rotate_left
          · exact absurd ha.1 (show ¬ (5 : Nat) = 6 by decide)
          obtain rfl : a = 110 := ha.2
          obtain ⟨u1, rfl, z1⟩ := v1.int (Nat.le_refl 1)
          obtain ⟨u2, rfl, z2⟩ := v2.int (by decide)
          obtain rfl : u1 = n := Int32.toInt_inj.mp ((zsy z1).trans (ga 1 (by decide)))
          obtain rfl : st' = [] := by
            have := gS_
            rw [List.isEmpty_iff.mp b2] at this
            exact this.nil_inv
          obtain rfl : u2 = c := Int32.toInt_inj.mp ((zsy z2).trans (ga 2 (by decide)))
          have hj1 : JT h1' := JT_P _ _ _ (by decide) gF hj
          refine ⟨some (.int u2), h1', ?_, 0, u2, by omega, rfl, by omega, gh, hj1, gF.sub rfl, DL.fr0 em gF⟩
          refine RA.steps 1 rfl ?_
          exact RA.ret rfl rfl
        · cases b1
    · have hm8 : m < 9 := by omega
      have hck := kdr1 m hm8
      rw [Bool.and_eq_true, Bool.and_eq_true] at hck
      obtain ⟨⟨hjf, hsw⟩, hck⟩ := hck
      refine hop (σ0 := fun t => match t with | 0 => 77777 | 1 => n.toInt | 2 => c.toInt | _ => (ri h 111 4).toInt) hck no_kc hjf hj hd (by decide) ⟨⟨Nat.le_refl _, agr.rf _ _⟩, fun k e hk => ?_, ?_, ?_, LG.cons (lGr 110) (LG.cons (lGi (show 1 < 4 by decide) (by show n.toInt = 1 * n.toInt + 0; omega)) (LG.cons (lGi (show 2 < 4 by decide) (by show c.toInt = 1 * c.toInt + 0; omega)) (LG.cons (lG.any c3) (LG.cons (lG.any c4) LGn)))), trivial, hh, Fr.rf _ _⟩ (fun σ S L' st' h1' hec g => ?_)
      · match k, hk with
        | 0, hk => cases hk; exact ⟨Int.le_refl 77777, Int.le_refl 77777⟩
        | 1, hk => cases hk; exact ⟨hn0, hn⟩
        | 2, hk => cases hk; exact ⟨h2, by show c.toInt ≤ 8; omega⟩
        | 3, hk => cases hk; exact ⟨i32_lo _, i32_hi _⟩
        | k + 4, hk => simp at hk
      · exact cok.cs ⟨111, 0, _, Or.inl ⟨rfl, rfl⟩, cnZ _, cn1, Nat.zero_le _, by rw [em]; exact cnZ _⟩ (cok.cs ⟨111, 4, _, Or.inl ⟨rfl, rfl⟩, cnZ _, cz1, Nat.le_refl 1, zG.mk (by decide) (by show (ri h 111 4).toInt = 1 * (ri h 111 4).toInt + 0; omega) (show 3 < 4 by decide)⟩ cok.nil)
      · intro f hf
        obtain rfl := List.mem_singleton.mp hf
        exact ⟨c.toInt, n.toInt, zG.mk (by decide) (by show c.toInt = 1 * c.toInt + 0; omega) (show 2 < 4 by decide), zG.mk (by decide) (by show n.toInt = 1 * n.toInt + 0; omega) (show 1 < 4 by decide), (show c.toInt < n.toInt by omega)⟩
      · unfold ear1 at hec
        rw [Bool.and_eq_true, Bool.and_eq_true] at hec
        obtain ⟨⟨b1, b2⟩, b3⟩ := hec
        obtain ⟨⟨gn, ga⟩, gk, gc, gf, gL, gS_, gh, gF⟩ := g
        split at b1
        · rename_i xa xb xc x3 x4 hA
          rw [hA] at gL
          simp only [Bool.and_eq_true, decide_eq_true_eq, Bool.not_eq_true'] at b1
          obtain ⟨⟨⟨⟨rfl, rfl⟩, rfl⟩, e3⟩, e4⟩ := b1
          obtain ⟨l0, l1, l2, l3, l4, rfl⟩ := fiveL gL.1
          obtain ⟨w0, k0, v0⟩ := gL.at (k := 0) rfl (by decide)
          obtain ⟨w1, k1, v1⟩ := gL.at (k := 1) rfl (by decide)
          obtain ⟨w2, k2, v2⟩ := gL.at (k := 2) rfl (by decide)
          have q3 : pcat2 l3 = false := gL.cat2 (k := 3) rfl (of_decide_eq_false e3)
          have q4 : pcat2 l4 = false := gL.cat2 (k := 4) rfl (of_decide_eq_false e4)
          obtain rfl : l0 = some w0 := k0
          obtain rfl : l1 = some w1 := k1
          obtain rfl : l2 = some w2 := k2
          obtain ⟨a, rfl, ha | ha⟩ := v0.ref (Or.inl rfl)
          rotate_left
          · exact absurd ha.1 (show ¬ (5 : Nat) = 6 by decide)
          obtain rfl : a = 110 := ha.2
          obtain ⟨u1, rfl, z1⟩ := v1.int (Nat.le_refl 1)
          obtain ⟨u2, rfl, z2⟩ := v2.int (by decide)
          obtain rfl : u1 = n := Int32.toInt_inj.mp ((zsy z1).trans (ga 1 (by decide)))
          obtain rfl : st' = [] := by
            have := gS_
            rw [List.isEmpty_iff.mp b2] at this
            exact this.nil_inv
          have y2 : u2.toInt = c.toInt + 1 := by
            have y2 : u2.toInt = 1 * σ 2 + 1 := (z2.lin (show ¬ (1 : Nat) % 2 = 0 by decide)).1
            have s2 : σ 2 = c.toInt := ga 2 (by decide)
            omega
          obtain ⟨r1, r2, r3⟩ := rbC_ok (z := ri h 111 4) (ga 3 (by decide)) (Nat.lt_of_lt_of_le (show 3 < 4 by decide) gn) gc gf b3
          have hj1 : JT h1' := JT_P _ _ _ hjf gF hj
          refine (ih u2 l3 l4 h1' (m + 1) (by omega) (by omega) (by omega) q3 q4 gh hj1 r1).weak (fun r h2' hp => ?_)
          obtain ⟨j, v, p1, p2, p3, p4, p5, p6, p7⟩ := hp
          refine ⟨j + 1, v, by omega, p2, by omega, p4, p5, (gF.sub hsw).tr p6, DL.cs hm8 r2 r3 (fun i f hi hf hne => ri_fr gF (nin_iff.mpr ?_)) p7⟩
          simp only [Wdrm, clr, List.forall_mem_cons]
          exact ⟨by omega, by omega, by omega, fun _ h => absurd h List.not_mem_nil⟩
        · cases b1
theorem deal_r (x : Int32) (hx : 1 ≤ x.toInt ∧ x.toInt ≤ 9) (hh : HI HT h) (hj : JT h) {m : Nat} (h9 : m ≤ 9) (em : (ri h 111 0).toInt = m) : ∃ (j : Nat) (v : Int32) (h' : List pC), Run prog E pV1 120 mX8_deal [.ref 110, .int x] h (some (.int v), h', 0, 0) ∧ (j : Int) = min x.toInt (9 - m) ∧ v.toInt = j ∧ HI HT h' ∧ JT h' ∧ Fr Wdr h h' ∧ DL 111 0 111 4 clr m j h h' := by
  have g : Gl prog E pV1 (fun r h' => ∃ (j : Nat) (v : Int32), (j : Int) = min x.toInt (9 - m) ∧ r = some (.int v) ∧ v.toInt = j ∧ HI HT h' ∧ JT h' ∧ Fr Wdr h h' ∧ DL 111 0 111 4 clr m j h h') 120 mX8_deal 0 (pent (m_l mX8_deal) [.ref 110, .int x]) [] h [] := by
    refine hop (σ0 := fun t => match t with | 0 => 77777 | _ => x.toInt) kdr0 no_kc (by decide) hj (by decide) (by decide) ⟨⟨Nat.le_refl _, agr.rf _ _⟩, fun k e hk => ?_, (fun e he => by cases he), (fun e he => by cases he), LG.cons (lGr 110) (LG.cons (lGi (by decide) (by show x.toInt = 1 * x.toInt + 0; omega)) (LG.cons (lG.any rfl) (LG.cons (lG.any rfl) (LG.cons (lG.any rfl) LGn)))), trivial, hh, Fr.rf _ _⟩ (fun σ S L' st' h1' hec g => ?_)
    · match k, hk with
      | 0, hk => cases hk; exact ⟨Int.le_refl 77777, Int.le_refl 77777⟩
      | 1, hk => cases hk; exact hx
      | k + 2, hk => simp at hk
    · unfold ear0 at hec
      rw [Bool.and_eq_true] at hec
      obtain ⟨b1, b2⟩ := hec
      obtain ⟨⟨gn, ga⟩, gk, gc, gf, gL, gS_, gh, gF⟩ := g
      split at b1
      · rename_i xa xb xc x3 x4 hA
        rw [hA] at gL
        simp only [Bool.and_eq_true, decide_eq_true_eq, Bool.not_eq_true'] at b1
        obtain ⟨⟨⟨⟨rfl, rfl⟩, rfl⟩, e3⟩, e4⟩ := b1
        obtain ⟨l0, l1, l2, l3, l4, rfl⟩ := fiveL gL.1
        obtain ⟨w0, k0, v0⟩ := gL.at (k := 0) rfl (by decide)
        obtain ⟨w1, k1, v1⟩ := gL.at (k := 1) rfl (by decide)
        obtain ⟨w2, k2, v2⟩ := gL.at (k := 2) rfl (by decide)
        have q3 : pcat2 l3 = false := gL.cat2 (k := 3) rfl (of_decide_eq_false e3)
        have q4 : pcat2 l4 = false := gL.cat2 (k := 4) rfl (of_decide_eq_false e4)
        obtain rfl : l0 = some w0 := k0
        obtain rfl : l1 = some w1 := k1
        obtain rfl : l2 = some w2 := k2
        obtain ⟨a, rfl, ha | ha⟩ := v0.ref (Or.inl rfl)
        rotate_left
        · exact absurd ha.1 (show ¬ (5 : Nat) = 6 by decide)
        obtain rfl : a = 110 := ha.2
        obtain ⟨u1, rfl, z1⟩ := v1.int (Nat.le_refl 1)
        obtain ⟨u2, rfl, z2⟩ := v2.int (by decide)
        obtain rfl : u1 = x := Int32.toInt_inj.mp ((zsy z1).trans (ga 1 (by decide)))
        obtain rfl : st' = [] := by
          have := gS_
          rw [List.isEmpty_iff.mp b2] at this
          exact this.nil_inv
        obtain rfl : u2 = 0 := Int32.toInt_inj.mp ((zcn z2).trans (by decide))
        have hj1 : JT h1' := JT_P _ _ _ (by decide) gF hj
        have er : ∀ a i, ri h1' a i = ri h a i := fun a i => ri_fr gF rfl
        refine (deal_rl (E := E) (d := 119) (by decide) hx.1 hx.2 u1.toInt.toNat 0 l3 l4 h1' m h9 (by rw [show (0 : Int32).toInt = 0 by decide]; omega) (by decide) q3 q4 gh hj1 (by rw [er]; exact em)).weak (fun r h2' hp => ?_)
        obtain ⟨j, v, p1, p2, p3, p4, p5, p6, p7⟩ := hp
        exact ⟨j, v, by omega, p2, (by have e0 : (0 : Int32).toInt = 0 := (by decide); omega), p4, p5, (gF.sub rfl).tr p6, DL.eq er p7⟩
      · cases b1
  obtain ⟨r, h', q1, j, v, q2, rfl, q3⟩ := g
  exact ⟨j, v, h', ⟨Nat.le_of_ble_eq_true rfl, ⟨_, _, rfl⟩, q1⟩, q2, q3⟩
end DEALR
section LWS
variable {E : pX} {h : List pC}
theorem rub_ty {a : Nat} (hh : HI HT h) (he : elT HT 6 a 2 2 = some (.inl (1, 8))) : 1 ≤ (ri h a 2).toInt ∧ (ri h a 2).toInt ≤ 8 := (ri_ty hh he).2
theorem ty_34_5 (hh : HI HT h) (hR : RJ h) : 0 ≤ (ri h 34 5).toInt ∧ (ri h 34 5).toInt ≤ 9 := by
  have e : ri h 34 5 = ri h 111 0 := (hR.1 _ (List.mem_append_left _ List.mem_cons_self))
  have c := (ri_ty (k := 8) (a := 34) (i := 5) (p := (0, 9)) hh rfl).2
  have r := (ri_ty (k := 0) (a := 111) (i := 0) (p := (0, 9)) hh rfl).2
  rw [← e] at r
  dsimp only at c r
  omega
theorem ty_48_5 (hh : HI HT h) (hR : RJ h) : 0 ≤ (ri h 48 5).toInt ∧ (ri h 48 5).toInt ≤ 9 := by
  have e : ri h 48 5 = ri h 112 0 := (hR.1 _ (List.mem_append_left _ (List.mem_cons_of_mem _ List.mem_cons_self)))
  have c := (ri_ty (k := 8) (a := 48) (i := 5) (p := (0, 9)) hh rfl).2
  have r := (ri_ty (k := 0) (a := 112) (i := 0) (p := (0, 9)) hh rfl).2
  rw [← e] at r
  dsimp only at c r
  omega
theorem ty_0_9 (hh : HI HT h) (hR : RJ h) : 0 ≤ (ri h 0 9).toInt ∧ (ri h 0 9).toInt ≤ 1 := by
  have e : ri h 0 9 = ri h 110 3 := (hR.1 _ (List.mem_append_left _ (List.mem_cons_of_mem _ (List.mem_cons_of_mem _ List.mem_cons_self))))
  have c := (ri_ty (k := 9) (a := 0) (i := 9) (p := (0, 1)) hh rfl).2
  have r := (ri_ty (k := 10) (a := 110) (i := 3) (p := (0, 1)) hh rfl).2
  rw [← e] at r
  dsimp only at c r
  omega
theorem ty_34_9 (hh : HI HT h) (hR : RJ h) : (-2147483648) ≤ (ri h 34 9).toInt ∧ (ri h 34 9).toInt ≤ 2147483647 := by
  have e : ri h 34 9 = ri h 111 4 := (hR.1 _ (List.mem_append_left _ (List.mem_cons_of_mem _ (List.mem_cons_of_mem _ (List.mem_cons_of_mem _ List.mem_cons_self)))))
  have c := (ri_ty (k := 8) (a := 34) (i := 9) (p := ((-2147483648), 2147483647)) hh rfl).2
  have r := (ri_ty (k := 0) (a := 111) (i := 4) (p := ((-2147483648), 2147483647)) hh rfl).2
  rw [← e] at r
  dsimp only at c r
  omega
theorem ty_34_7 (hh : HI HT h) (hR : RJ h) : (-2147483648) ≤ (ri h 34 7).toInt ∧ (ri h 34 7).toInt ≤ 2147483647 := by
  have e : ri h 34 7 = ri h 111 2 := (hR.1 _ (List.mem_append_left _ (List.mem_cons_of_mem _ (List.mem_cons_of_mem _ (List.mem_cons_of_mem _ (List.mem_cons_of_mem _ List.mem_cons_self))))))
  have c := (ri_ty (k := 8) (a := 34) (i := 7) (p := ((-2147483648), 2147483647)) hh rfl).2
  have r := (ri_ty (k := 0) (a := 111) (i := 2) (p := ((-2147483648), 2147483647)) hh rfl).2
  rw [← e] at r
  dsimp only at c r
  omega
theorem ty_48_7 (hh : HI HT h) (hR : RJ h) : (-2147483648) ≤ (ri h 48 7).toInt ∧ (ri h 48 7).toInt ≤ 2147483647 := by
  have e : ri h 48 7 = ri h 112 2 := (hR.1 _ (List.mem_append_left _ (List.mem_cons_of_mem _ (List.mem_cons_of_mem _ (List.mem_cons_of_mem _ (List.mem_cons_of_mem _ (List.mem_cons_of_mem _ List.mem_cons_self)))))))
  have c := (ri_ty (k := 8) (a := 48) (i := 7) (p := ((-2147483648), 2147483647)) hh rfl).2
  have r := (ri_ty (k := 0) (a := 112) (i := 2) (p := ((-2147483648), 2147483647)) hh rfl).2
  rw [← e] at r
  dsimp only at c r
  omega
theorem ty_82_1 (hh : HI HT h) (hR : RJ h) : (-1) ≤ (ri h 82 1).toInt ∧ (ri h 82 1).toInt ≤ 1 := by
  have e : ri h 82 1 = ri h 114 0 := (hR.1 _ (List.mem_append_left _ (List.mem_cons_of_mem _ (List.mem_cons_of_mem _ (List.mem_cons_of_mem _ (List.mem_cons_of_mem _ (List.mem_cons_of_mem _ (List.mem_cons_of_mem _ List.mem_cons_self))))))))
  have c := (ri_ty (k := 5) (a := 82) (i := 1) (p := ((-2147483648), 2147483647)) hh rfl).2
  have r := (ri_ty (k := 0) (a := 114) (i := 0) (p := ((-1), 1)) hh rfl).2
  rw [← e] at r
  dsimp only at c r
  omega
theorem ty_84_1 (hh : HI HT h) (hR : RJ h) : (-1) ≤ (ri h 84 1).toInt ∧ (ri h 84 1).toInt ≤ 1 := by
  have e : ri h 84 1 = ri h 114 1 := (hR.1 _ (List.mem_append_left _ (List.mem_cons_of_mem _ (List.mem_cons_of_mem _ (List.mem_cons_of_mem _ (List.mem_cons_of_mem _ (List.mem_cons_of_mem _ (List.mem_cons_of_mem _ (List.mem_cons_of_mem _ List.mem_cons_self)))))))))
  have c := (ri_ty (k := 5) (a := 84) (i := 1) (p := ((-2147483648), 2147483647)) hh rfl).2
  have r := (ri_ty (k := 0) (a := 114) (i := 1) (p := ((-1), 1)) hh rfl).2
  rw [← e] at r
  dsimp only at c r
  omega
theorem ty_86_1 (hh : HI HT h) (hR : RJ h) : (-1) ≤ (ri h 86 1).toInt ∧ (ri h 86 1).toInt ≤ 1 := by
  have e : ri h 86 1 = ri h 114 2 := (hR.1 _ (List.mem_append_left _ (List.mem_cons_of_mem _ (List.mem_cons_of_mem _ (List.mem_cons_of_mem _ (List.mem_cons_of_mem _ (List.mem_cons_of_mem _ (List.mem_cons_of_mem _ (List.mem_cons_of_mem _ (List.mem_cons_of_mem _ List.mem_cons_self))))))))))
  have c := (ri_ty (k := 5) (a := 86) (i := 1) (p := ((-2147483648), 2147483647)) hh rfl).2
  have r := (ri_ty (k := 0) (a := 114) (i := 2) (p := ((-1), 1)) hh rfl).2
  rw [← e] at r
  dsimp only at c r
  omega
theorem ty_88_1 (hh : HI HT h) (hR : RJ h) : (-1) ≤ (ri h 88 1).toInt ∧ (ri h 88 1).toInt ≤ 1 := by
  have e : ri h 88 1 = ri h 114 3 := (hR.1 _ (List.mem_append_left _ (List.mem_cons_of_mem _ (List.mem_cons_of_mem _ (List.mem_cons_of_mem _ (List.mem_cons_of_mem _ (List.mem_cons_of_mem _ (List.mem_cons_of_mem _ (List.mem_cons_of_mem _ (List.mem_cons_of_mem _ (List.mem_cons_of_mem _ List.mem_cons_self)))))))))))
  have c := (ri_ty (k := 5) (a := 88) (i := 1) (p := ((-2147483648), 2147483647)) hh rfl).2
  have r := (ri_ty (k := 0) (a := 114) (i := 3) (p := ((-1), 1)) hh rfl).2
  rw [← e] at r
  dsimp only at c r
  omega
theorem ty_82_2 (hh : HI HT h) (hR : RJ h) : 0 ≤ (ri h 82 2).toInt ∧ (ri h 82 2).toInt ≤ 24 := by
  have e : ri h 82 2 = ri h 115 0 := (hR.1 _ (List.mem_append_left _ (List.mem_cons_of_mem _ (List.mem_cons_of_mem _ (List.mem_cons_of_mem _ (List.mem_cons_of_mem _ (List.mem_cons_of_mem _ (List.mem_cons_of_mem _ (List.mem_cons_of_mem _ (List.mem_cons_of_mem _ (List.mem_cons_of_mem _ (List.mem_cons_of_mem _ List.mem_cons_self))))))))))))
  have c := (ri_ty (k := 5) (a := 82) (i := 2) (p := ((-2147483648), 2147483647)) hh rfl).2
  have r := (ri_ty (k := 0) (a := 115) (i := 0) (p := (0, 24)) hh rfl).2
  rw [← e] at r
  dsimp only at c r
  omega
theorem ty_84_2 (hh : HI HT h) (hR : RJ h) : 0 ≤ (ri h 84 2).toInt ∧ (ri h 84 2).toInt ≤ 24 := by
  have e : ri h 84 2 = ri h 115 1 := (hR.1 _ (List.mem_append_left _ (List.mem_cons_of_mem _ (List.mem_cons_of_mem _ (List.mem_cons_of_mem _ (List.mem_cons_of_mem _ (List.mem_cons_of_mem _ (List.mem_cons_of_mem _ (List.mem_cons_of_mem _ (List.mem_cons_of_mem _ (List.mem_cons_of_mem _ (List.mem_cons_of_mem _ (List.mem_cons_of_mem _ List.mem_cons_self)))))))))))))
  have c := (ri_ty (k := 5) (a := 84) (i := 2) (p := ((-2147483648), 2147483647)) hh rfl).2
  have r := (ri_ty (k := 0) (a := 115) (i := 1) (p := (0, 24)) hh rfl).2
  rw [← e] at r
  dsimp only at c r
  omega
theorem ty_86_2 (hh : HI HT h) (hR : RJ h) : 0 ≤ (ri h 86 2).toInt ∧ (ri h 86 2).toInt ≤ 24 := by
  have e : ri h 86 2 = ri h 115 2 := (hR.1 _ (List.mem_append_left _ (List.mem_cons_of_mem _ (List.mem_cons_of_mem _ (List.mem_cons_of_mem _ (List.mem_cons_of_mem _ (List.mem_cons_of_mem _ (List.mem_cons_of_mem _ (List.mem_cons_of_mem _ (List.mem_cons_of_mem _ (List.mem_cons_of_mem _ (List.mem_cons_of_mem _ (List.mem_cons_of_mem _ (List.mem_cons_of_mem _ List.mem_cons_self))))))))))))))
  have c := (ri_ty (k := 5) (a := 86) (i := 2) (p := ((-2147483648), 2147483647)) hh rfl).2
  have r := (ri_ty (k := 0) (a := 115) (i := 2) (p := (0, 24)) hh rfl).2
  rw [← e] at r
  dsimp only at c r
  omega
theorem ty_88_2 (hh : HI HT h) (hR : RJ h) : 0 ≤ (ri h 88 2).toInt ∧ (ri h 88 2).toInt ≤ 24 := by
  have e : ri h 88 2 = ri h 115 3 := (hR.1 _ (List.mem_append_left _ (List.mem_cons_of_mem _ (List.mem_cons_of_mem _ (List.mem_cons_of_mem _ (List.mem_cons_of_mem _ (List.mem_cons_of_mem _ (List.mem_cons_of_mem _ (List.mem_cons_of_mem _ (List.mem_cons_of_mem _ (List.mem_cons_of_mem _ (List.mem_cons_of_mem _ (List.mem_cons_of_mem _ (List.mem_cons_of_mem _ (List.mem_cons_of_mem _ List.mem_cons_self)))))))))))))))
  have c := (ri_ty (k := 5) (a := 88) (i := 2) (p := ((-2147483648), 2147483647)) hh rfl).2
  have r := (ri_ty (k := 0) (a := 115) (i := 3) (p := (0, 24)) hh rfl).2
  rw [← e] at r
  dsimp only at c r
  omega
/-- of the rubbings that there are: kind, raw, size, turned -/
def RRw (w b : Nat) (h : List pC) : Prop := ∀ k f : Nat, k < 9 → f < 4 → (k : Int) + 1 ≤ (ri h w 5).toInt → ri h (w + 5 + k) f = ri h b (21 + 6 * k + f)
theorem clw_i {w b : Nat} {h : List pC} (hr : RRw w b h) : cRel (CLw w b) h := fun c hc b1 b2 => by
  obtain ⟨k, hk, h1⟩ := List.mem_flatMap.mp hc
  obtain ⟨f, hf, rfl⟩ := List.mem_map.mp h1
  exact hr k f (List.mem_range.mp hk) (List.mem_range.mp hf) b1
theorem clw_e {w b : Nat} {h : List pC} (hc : cRel (CLw w b) h) (h9 : (ri h w 5).toInt ≤ 9) : RRw w b h := fun k f hk hf b1 => hc _ (List.mem_flatMap.mpr ⟨k, List.mem_range.mpr hk, List.mem_map.mpr ⟨f, List.mem_range.mpr hf, rfl⟩⟩) b1 h9
theorem cl_i {h : List pC} (h1 : RRw 34 111 h) (h2 : RRw 48 112 h) (h3 : 1 ≤ (ri h 0 9).toInt → (ri h 0 9).toInt ≤ 1 → ri h 48 9 = ri h 112 4) : cRel CL h := fun c hc => by
  rcases List.mem_append.mp hc with hc | hc
  · exact clw_i h1 c hc
  rcases List.mem_append.mp hc with hc | hc
  · exact clw_i h2 c hc
  · obtain rfl := List.mem_singleton.mp hc
    exact h3
theorem cl_1 {h : List pC} (hc : cRel CL h) (h9 : (ri h 34 5).toInt ≤ 9) : RRw 34 111 h := clw_e (fun c hm => hc c (List.mem_append_left _ hm)) h9
theorem cl_2 {h : List pC} (hc : cRel CL h) (h9 : (ri h 48 5).toInt ≤ 9) : RRw 48 112 h := clw_e (fun c hm => hc c (List.mem_append_right _ (List.mem_append_left _ hm))) h9
theorem cl_3 {h : List pC} (hc : cRel CL h) (a : 1 ≤ (ri h 0 9).toInt) (b : (ri h 0 9).toInt ≤ 1) : ri h 48 9 = ri h 112 4 := hc _ (List.mem_append_right _ (List.mem_append_right _ (List.mem_cons_self))) a b
/-- one wall as another: what is moved -/
def MLr (s t m : Nat) : List ((Nat × Nat) × (Nat × Nat)) := (List.range m).flatMap (fun k => (List.range 4).map (fun f => ((t + 5 + k, f), (s + 5 + k, f))))
theorem mlr_mem {s t m k f : Nat} (hk : k < m) (hf : f < 4) : ((t + 5 + k, f), (s + 5 + k, f)) ∈ MLr s t m := List.mem_flatMap.mpr ⟨k, List.mem_range.mpr hk, List.mem_map.mpr ⟨f, List.mem_range.mpr hf, rfl⟩⟩
def ML_keep (m : Nat) : List ((Nat × Nat) × (Nat × Nat)) := [((48, 9), (34, 9)), ((48, 7), (34, 7))] ++ MLr 34 48 m
theorem keep_0 (hh : HI HT h) (hj : JT h) (hR : RJ h) (hm : (ri h 34 5).toInt = 0) : ∃ h1 : List pC, Run prog E pV1 120 mX7_keep [.ref 0] h (some (.int (nI 0)), h1, 0, 0) ∧ HI HT h1 ∧ JT h1 ∧ Fr [(48, 48, 5, 9), (49, 49, 0, 15), (52, 52, 0, 2), (53, 61, 0, 5), (0, 0, 9, 9)] h h1 ∧ (∀ t ∈ ML_keep 0, ri h1 t.1.1 t.1.2 = ri h t.2.1 t.2.2) ∧ (ri h1 48 5).toInt = 0 ∧ ri h1 0 9 = 1 := by
  have hB : pBd ro_keep0 h := (pBd.cs (by show (0 : Int) ≤ (ri h 34 5).toInt; omega) (by show (ri h 34 5).toInt ≤ 0; omega) (pBd.cs (i32_b _).1 (i32_b _).2 (pBd.cs (i32_b _).1 (i32_b _).2 pBd.nl)))
  obtain ⟨r1, h1, q1, hh1, hj1, f1, z1, z2, z4, z3⟩ := ox_ok (E := E) (xs := []) (R' := ro_keep0) (Q := fun r h' => (∀ t ∈ ML_keep 0, ri h' t.1.1 t.1.2 = ri h t.2.1 t.2.2) ∧ (ri h' 48 5).toInt = 0 ∧ ri h' 0 9 = 1 ∧ r = some (.int (nI 0))) ox_keep0 rfl (fun _ h => absurd h List.not_mem_nil) hj hh (kn_rel hR.1 hR.2.1 hB (by decide +kernel)) hB trivial (fun e he => by cases he) (fun σ Γ C Δ x r h' he ha _ hC _ hr => by
    obtain ⟨a1, u, a2, a3⟩ := ecV_ok he hC hr
    refine ⟨fun t ht => mv_ok (xs := []) (bx := []) (R' := ro_keep0) (List.all_eq_true.mp (show (ML_keep 0).all (mvB ro_keep0 [(48, 9, (1, 1, 0, 2)), (48, 7, (1, 1, 0, 3)), (48, 5, (0, 0, 0, 0)), (0, 9, (0, 1, 1, 0))] 0) = true by decide +kernel) t ht) a1 ha rfl, zcn (a1 (48, 5, cn 0) (by decide +kernel)), Int32.toInt_inj.mp (zcn (a1 (0, 9, cn 1) (by decide +kernel))), ?_⟩
    rw [a2, show u = nI 0 from Int32.toInt_inj.mp ((zcn (a3 _ rfl)).trans (by decide))])
  subst z3
  exact ⟨h1, q1, hh1, hj1, f1, z1, z2, z4⟩
theorem keep_1 (hh : HI HT h) (hj : JT h) (hR : RJ h) (hm : (ri h 34 5).toInt = 1) : ∃ h1 : List pC, Run prog E pV1 120 mX7_keep [.ref 0] h (some (.int (nI 1)), h1, 0, 0) ∧ HI HT h1 ∧ JT h1 ∧ Fr [(48, 48, 5, 9), (49, 49, 0, 15), (52, 52, 0, 2), (53, 61, 0, 5), (0, 0, 9, 9)] h h1 ∧ (∀ t ∈ ML_keep 1, ri h1 t.1.1 t.1.2 = ri h t.2.1 t.2.2) ∧ (ri h1 48 5).toInt = 1 ∧ ri h1 0 9 = 1 := by
  have hB : pBd ro_keep1 h := (pBd.cs (by show (1 : Int) ≤ (ri h 34 5).toInt; omega) (by show (ri h 34 5).toInt ≤ 1; omega) (pBd.cs (i32_b _).1 (i32_b _).2 (pBd.cs (i32_b _).1 (i32_b _).2 (pBd.cs (i32_b _).1 (i32_b _).2 (pBd.cs (i32_b _).1 (i32_b _).2 (pBd.cs (rub_ty (a := 39) hh rfl).1 (rub_ty (a := 39) hh rfl).2 (pBd.cs (i32_b _).1 (i32_b _).2 pBd.nl)))))))
  obtain ⟨r1, h1, q1, hh1, hj1, f1, z1, z2, z4, z3⟩ := ox_ok (E := E) (xs := []) (R' := ro_keep1) (Q := fun r h' => (∀ t ∈ ML_keep 1, ri h' t.1.1 t.1.2 = ri h t.2.1 t.2.2) ∧ (ri h' 48 5).toInt = 1 ∧ ri h' 0 9 = 1 ∧ r = some (.int (nI 1))) ox_keep1 rfl (fun _ h => absurd h List.not_mem_nil) hj hh (kn_rel hR.1 hR.2.1 hB (by decide +kernel)) hB trivial (fun e he => by cases he) (fun σ Γ C Δ x r h' he ha _ hC _ hr => by
    obtain ⟨a1, u, a2, a3⟩ := ecV_ok he hC hr
    refine ⟨fun t ht => mv_ok (xs := []) (bx := []) (R' := ro_keep1) (List.all_eq_true.mp (show (ML_keep 1).all (mvB ro_keep1 [(48, 9, (1, 1, 0, 2)), (48, 7, (1, 1, 0, 3)), (53, 0, (1, 1, 0, 4)), (53, 1, (1, 1, 0, 5)), (53, 2, (1, 1, 0, 6)), (53, 3, (1, 1, 0, 7)), (48, 5, (0, 1, 1, 0)), (0, 9, (0, 1, 1, 0))] 0) = true by decide +kernel) t ht) a1 ha rfl, zcn (a1 (48, 5, cn 1) (by decide +kernel)), Int32.toInt_inj.mp (zcn (a1 (0, 9, cn 1) (by decide +kernel))), ?_⟩
    rw [a2, show u = nI 1 from Int32.toInt_inj.mp ((zcn (a3 _ rfl)).trans (by decide))])
  subst z3
  exact ⟨h1, q1, hh1, hj1, f1, z1, z2, z4⟩
theorem keep_2 (hh : HI HT h) (hj : JT h) (hR : RJ h) (hm : (ri h 34 5).toInt = 2) : ∃ h1 : List pC, Run prog E pV1 120 mX7_keep [.ref 0] h (some (.int (nI 2)), h1, 0, 0) ∧ HI HT h1 ∧ JT h1 ∧ Fr [(48, 48, 5, 9), (49, 49, 0, 15), (52, 52, 0, 2), (53, 61, 0, 5), (0, 0, 9, 9)] h h1 ∧ (∀ t ∈ ML_keep 2, ri h1 t.1.1 t.1.2 = ri h t.2.1 t.2.2) ∧ (ri h1 48 5).toInt = 2 ∧ ri h1 0 9 = 1 := by
  have hB : pBd ro_keep2 h := (pBd.cs (by show (2 : Int) ≤ (ri h 34 5).toInt; omega) (by show (ri h 34 5).toInt ≤ 2; omega) (pBd.cs (i32_b _).1 (i32_b _).2 (pBd.cs (i32_b _).1 (i32_b _).2 (pBd.cs (i32_b _).1 (i32_b _).2 (pBd.cs (i32_b _).1 (i32_b _).2 (pBd.cs (rub_ty (a := 39) hh rfl).1 (rub_ty (a := 39) hh rfl).2 (pBd.cs (i32_b _).1 (i32_b _).2 (pBd.cs (i32_b _).1 (i32_b _).2 (pBd.cs (i32_b _).1 (i32_b _).2 (pBd.cs (rub_ty (a := 40) hh rfl).1 (rub_ty (a := 40) hh rfl).2 (pBd.cs (i32_b _).1 (i32_b _).2 pBd.nl)))))))))))
  obtain ⟨r1, h1, q1, hh1, hj1, f1, z1, z2, z4, z3⟩ := ox_ok (E := E) (xs := []) (R' := ro_keep2) (Q := fun r h' => (∀ t ∈ ML_keep 2, ri h' t.1.1 t.1.2 = ri h t.2.1 t.2.2) ∧ (ri h' 48 5).toInt = 2 ∧ ri h' 0 9 = 1 ∧ r = some (.int (nI 2))) ox_keep2 rfl (fun _ h => absurd h List.not_mem_nil) hj hh (kn_rel hR.1 hR.2.1 hB (by decide +kernel)) hB trivial (fun e he => by cases he) (fun σ Γ C Δ x r h' he ha _ hC _ hr => by
    obtain ⟨a1, u, a2, a3⟩ := ecV_ok he hC hr
    refine ⟨fun t ht => mv_ok (xs := []) (bx := []) (R' := ro_keep2) (List.all_eq_true.mp (show (ML_keep 2).all (mvB ro_keep2 [(48, 9, (1, 1, 0, 2)), (48, 7, (1, 1, 0, 3)), (53, 0, (1, 1, 0, 4)), (53, 1, (1, 1, 0, 5)), (53, 2, (1, 1, 0, 6)), (53, 3, (1, 1, 0, 7)), (54, 0, (1, 1, 0, 8)), (54, 1, (1, 1, 0, 9)), (54, 2, (1, 1, 0, 10)), (54, 3, (1, 1, 0, 11)), (48, 5, (0, 2, 2, 0)), (0, 9, (0, 1, 1, 0))] 0) = true by decide +kernel) t ht) a1 ha rfl, zcn (a1 (48, 5, cn 2) (by decide +kernel)), Int32.toInt_inj.mp (zcn (a1 (0, 9, cn 1) (by decide +kernel))), ?_⟩
    rw [a2, show u = nI 2 from Int32.toInt_inj.mp ((zcn (a3 _ rfl)).trans (by decide))])
  subst z3
  exact ⟨h1, q1, hh1, hj1, f1, z1, z2, z4⟩
theorem keep_3 (hh : HI HT h) (hj : JT h) (hR : RJ h) (hm : (ri h 34 5).toInt = 3) : ∃ h1 : List pC, Run prog E pV1 120 mX7_keep [.ref 0] h (some (.int (nI 3)), h1, 0, 0) ∧ HI HT h1 ∧ JT h1 ∧ Fr [(48, 48, 5, 9), (49, 49, 0, 15), (52, 52, 0, 2), (53, 61, 0, 5), (0, 0, 9, 9)] h h1 ∧ (∀ t ∈ ML_keep 3, ri h1 t.1.1 t.1.2 = ri h t.2.1 t.2.2) ∧ (ri h1 48 5).toInt = 3 ∧ ri h1 0 9 = 1 := by
  have hB : pBd ro_keep3 h := (pBd.cs (by show (3 : Int) ≤ (ri h 34 5).toInt; omega) (by show (ri h 34 5).toInt ≤ 3; omega) (pBd.cs (i32_b _).1 (i32_b _).2 (pBd.cs (i32_b _).1 (i32_b _).2 (pBd.cs (i32_b _).1 (i32_b _).2 (pBd.cs (i32_b _).1 (i32_b _).2 (pBd.cs (rub_ty (a := 39) hh rfl).1 (rub_ty (a := 39) hh rfl).2 (pBd.cs (i32_b _).1 (i32_b _).2 (pBd.cs (i32_b _).1 (i32_b _).2 (pBd.cs (i32_b _).1 (i32_b _).2 (pBd.cs (rub_ty (a := 40) hh rfl).1 (rub_ty (a := 40) hh rfl).2 (pBd.cs (i32_b _).1 (i32_b _).2 (pBd.cs (i32_b _).1 (i32_b _).2 (pBd.cs (i32_b _).1 (i32_b _).2 (pBd.cs (rub_ty (a := 41) hh rfl).1 (rub_ty (a := 41) hh rfl).2 (pBd.cs (i32_b _).1 (i32_b _).2 pBd.nl)))))))))))))))
  obtain ⟨r1, h1, q1, hh1, hj1, f1, z1, z2, z4, z3⟩ := ox_ok (E := E) (xs := []) (R' := ro_keep3) (Q := fun r h' => (∀ t ∈ ML_keep 3, ri h' t.1.1 t.1.2 = ri h t.2.1 t.2.2) ∧ (ri h' 48 5).toInt = 3 ∧ ri h' 0 9 = 1 ∧ r = some (.int (nI 3))) ox_keep3 rfl (fun _ h => absurd h List.not_mem_nil) hj hh (kn_rel hR.1 hR.2.1 hB (by decide +kernel)) hB trivial (fun e he => by cases he) (fun σ Γ C Δ x r h' he ha _ hC _ hr => by
    obtain ⟨a1, u, a2, a3⟩ := ecV_ok he hC hr
    refine ⟨fun t ht => mv_ok (xs := []) (bx := []) (R' := ro_keep3) (List.all_eq_true.mp (show (ML_keep 3).all (mvB ro_keep3 [(48, 9, (1, 1, 0, 2)), (48, 7, (1, 1, 0, 3)), (53, 0, (1, 1, 0, 4)), (53, 1, (1, 1, 0, 5)), (53, 2, (1, 1, 0, 6)), (53, 3, (1, 1, 0, 7)), (54, 0, (1, 1, 0, 8)), (54, 1, (1, 1, 0, 9)), (54, 2, (1, 1, 0, 10)), (54, 3, (1, 1, 0, 11)), (55, 0, (1, 1, 0, 12)), (55, 1, (1, 1, 0, 13)), (55, 2, (1, 1, 0, 14)), (55, 3, (1, 1, 0, 15)), (48, 5, (0, 3, 3, 0)), (0, 9, (0, 1, 1, 0))] 0) = true by decide +kernel) t ht) a1 ha rfl, zcn (a1 (48, 5, cn 3) (by decide +kernel)), Int32.toInt_inj.mp (zcn (a1 (0, 9, cn 1) (by decide +kernel))), ?_⟩
    rw [a2, show u = nI 3 from Int32.toInt_inj.mp ((zcn (a3 _ rfl)).trans (by decide))])
  subst z3
  exact ⟨h1, q1, hh1, hj1, f1, z1, z2, z4⟩
theorem keep_4 (hh : HI HT h) (hj : JT h) (hR : RJ h) (hm : (ri h 34 5).toInt = 4) : ∃ h1 : List pC, Run prog E pV1 120 mX7_keep [.ref 0] h (some (.int (nI 4)), h1, 0, 0) ∧ HI HT h1 ∧ JT h1 ∧ Fr [(48, 48, 5, 9), (49, 49, 0, 15), (52, 52, 0, 2), (53, 61, 0, 5), (0, 0, 9, 9)] h h1 ∧ (∀ t ∈ ML_keep 4, ri h1 t.1.1 t.1.2 = ri h t.2.1 t.2.2) ∧ (ri h1 48 5).toInt = 4 ∧ ri h1 0 9 = 1 := by
  have hB : pBd ro_keep4 h := (pBd.cs (by show (4 : Int) ≤ (ri h 34 5).toInt; omega) (by show (ri h 34 5).toInt ≤ 4; omega) (pBd.cs (i32_b _).1 (i32_b _).2 (pBd.cs (i32_b _).1 (i32_b _).2 (pBd.cs (i32_b _).1 (i32_b _).2 (pBd.cs (i32_b _).1 (i32_b _).2 (pBd.cs (rub_ty (a := 39) hh rfl).1 (rub_ty (a := 39) hh rfl).2 (pBd.cs (i32_b _).1 (i32_b _).2 (pBd.cs (i32_b _).1 (i32_b _).2 (pBd.cs (i32_b _).1 (i32_b _).2 (pBd.cs (rub_ty (a := 40) hh rfl).1 (rub_ty (a := 40) hh rfl).2 (pBd.cs (i32_b _).1 (i32_b _).2 (pBd.cs (i32_b _).1 (i32_b _).2 (pBd.cs (i32_b _).1 (i32_b _).2 (pBd.cs (rub_ty (a := 41) hh rfl).1 (rub_ty (a := 41) hh rfl).2 (pBd.cs (i32_b _).1 (i32_b _).2 (pBd.cs (i32_b _).1 (i32_b _).2 (pBd.cs (i32_b _).1 (i32_b _).2 (pBd.cs (rub_ty (a := 42) hh rfl).1 (rub_ty (a := 42) hh rfl).2 (pBd.cs (i32_b _).1 (i32_b _).2 pBd.nl)))))))))))))))))))
  obtain ⟨r1, h1, q1, hh1, hj1, f1, z1, z2, z4, z3⟩ := ox_ok (E := E) (xs := []) (R' := ro_keep4) (Q := fun r h' => (∀ t ∈ ML_keep 4, ri h' t.1.1 t.1.2 = ri h t.2.1 t.2.2) ∧ (ri h' 48 5).toInt = 4 ∧ ri h' 0 9 = 1 ∧ r = some (.int (nI 4))) ox_keep4 rfl (fun _ h => absurd h List.not_mem_nil) hj hh (kn_rel hR.1 hR.2.1 hB (by decide +kernel)) hB trivial (fun e he => by cases he) (fun σ Γ C Δ x r h' he ha _ hC _ hr => by
    obtain ⟨a1, u, a2, a3⟩ := ecV_ok he hC hr
    refine ⟨fun t ht => mv_ok (xs := []) (bx := []) (R' := ro_keep4) (List.all_eq_true.mp (show (ML_keep 4).all (mvB ro_keep4 [(48, 9, (1, 1, 0, 2)), (48, 7, (1, 1, 0, 3)), (53, 0, (1, 1, 0, 4)), (53, 1, (1, 1, 0, 5)), (53, 2, (1, 1, 0, 6)), (53, 3, (1, 1, 0, 7)), (54, 0, (1, 1, 0, 8)), (54, 1, (1, 1, 0, 9)), (54, 2, (1, 1, 0, 10)), (54, 3, (1, 1, 0, 11)), (55, 0, (1, 1, 0, 12)), (55, 1, (1, 1, 0, 13)), (55, 2, (1, 1, 0, 14)), (55, 3, (1, 1, 0, 15)), (56, 0, (1, 1, 0, 16)), (56, 1, (1, 1, 0, 17)), (56, 2, (1, 1, 0, 18)), (56, 3, (1, 1, 0, 19)), (48, 5, (0, 4, 4, 0)), (0, 9, (0, 1, 1, 0))] 0) = true by decide +kernel) t ht) a1 ha rfl, zcn (a1 (48, 5, cn 4) (by decide +kernel)), Int32.toInt_inj.mp (zcn (a1 (0, 9, cn 1) (by decide +kernel))), ?_⟩
    rw [a2, show u = nI 4 from Int32.toInt_inj.mp ((zcn (a3 _ rfl)).trans (by decide))])
  subst z3
  exact ⟨h1, q1, hh1, hj1, f1, z1, z2, z4⟩
theorem keep_5 (hh : HI HT h) (hj : JT h) (hR : RJ h) (hm : (ri h 34 5).toInt = 5) : ∃ h1 : List pC, Run prog E pV1 120 mX7_keep [.ref 0] h (some (.int (nI 5)), h1, 0, 0) ∧ HI HT h1 ∧ JT h1 ∧ Fr [(48, 48, 5, 9), (49, 49, 0, 15), (52, 52, 0, 2), (53, 61, 0, 5), (0, 0, 9, 9)] h h1 ∧ (∀ t ∈ ML_keep 5, ri h1 t.1.1 t.1.2 = ri h t.2.1 t.2.2) ∧ (ri h1 48 5).toInt = 5 ∧ ri h1 0 9 = 1 := by
  have hB : pBd ro_keep5 h := (pBd.cs (by show (5 : Int) ≤ (ri h 34 5).toInt; omega) (by show (ri h 34 5).toInt ≤ 5; omega) (pBd.cs (i32_b _).1 (i32_b _).2 (pBd.cs (i32_b _).1 (i32_b _).2 (pBd.cs (i32_b _).1 (i32_b _).2 (pBd.cs (i32_b _).1 (i32_b _).2 (pBd.cs (rub_ty (a := 39) hh rfl).1 (rub_ty (a := 39) hh rfl).2 (pBd.cs (i32_b _).1 (i32_b _).2 (pBd.cs (i32_b _).1 (i32_b _).2 (pBd.cs (i32_b _).1 (i32_b _).2 (pBd.cs (rub_ty (a := 40) hh rfl).1 (rub_ty (a := 40) hh rfl).2 (pBd.cs (i32_b _).1 (i32_b _).2 (pBd.cs (i32_b _).1 (i32_b _).2 (pBd.cs (i32_b _).1 (i32_b _).2 (pBd.cs (rub_ty (a := 41) hh rfl).1 (rub_ty (a := 41) hh rfl).2 (pBd.cs (i32_b _).1 (i32_b _).2 (pBd.cs (i32_b _).1 (i32_b _).2 (pBd.cs (i32_b _).1 (i32_b _).2 (pBd.cs (rub_ty (a := 42) hh rfl).1 (rub_ty (a := 42) hh rfl).2 (pBd.cs (i32_b _).1 (i32_b _).2 (pBd.cs (i32_b _).1 (i32_b _).2 (pBd.cs (i32_b _).1 (i32_b _).2 (pBd.cs (rub_ty (a := 43) hh rfl).1 (rub_ty (a := 43) hh rfl).2 (pBd.cs (i32_b _).1 (i32_b _).2 pBd.nl)))))))))))))))))))))))
  obtain ⟨r1, h1, q1, hh1, hj1, f1, z1, z2, z4, z3⟩ := ox_ok (E := E) (xs := []) (R' := ro_keep5) (Q := fun r h' => (∀ t ∈ ML_keep 5, ri h' t.1.1 t.1.2 = ri h t.2.1 t.2.2) ∧ (ri h' 48 5).toInt = 5 ∧ ri h' 0 9 = 1 ∧ r = some (.int (nI 5))) ox_keep5 rfl (fun _ h => absurd h List.not_mem_nil) hj hh (kn_rel hR.1 hR.2.1 hB (by decide +kernel)) hB trivial (fun e he => by cases he) (fun σ Γ C Δ x r h' he ha _ hC _ hr => by
    obtain ⟨a1, u, a2, a3⟩ := ecV_ok he hC hr
    refine ⟨fun t ht => mv_ok (xs := []) (bx := []) (R' := ro_keep5) (List.all_eq_true.mp (show (ML_keep 5).all (mvB ro_keep5 [(48, 9, (1, 1, 0, 2)), (48, 7, (1, 1, 0, 3)), (53, 0, (1, 1, 0, 4)), (53, 1, (1, 1, 0, 5)), (53, 2, (1, 1, 0, 6)), (53, 3, (1, 1, 0, 7)), (54, 0, (1, 1, 0, 8)), (54, 1, (1, 1, 0, 9)), (54, 2, (1, 1, 0, 10)), (54, 3, (1, 1, 0, 11)), (55, 0, (1, 1, 0, 12)), (55, 1, (1, 1, 0, 13)), (55, 2, (1, 1, 0, 14)), (55, 3, (1, 1, 0, 15)), (56, 0, (1, 1, 0, 16)), (56, 1, (1, 1, 0, 17)), (56, 2, (1, 1, 0, 18)), (56, 3, (1, 1, 0, 19)), (57, 0, (1, 1, 0, 20)), (57, 1, (1, 1, 0, 21)), (57, 2, (1, 1, 0, 22)), (57, 3, (1, 1, 0, 23)), (48, 5, (0, 5, 5, 0)), (0, 9, (0, 1, 1, 0))] 0) = true by decide +kernel) t ht) a1 ha rfl, zcn (a1 (48, 5, cn 5) (by decide +kernel)), Int32.toInt_inj.mp (zcn (a1 (0, 9, cn 1) (by decide +kernel))), ?_⟩
    rw [a2, show u = nI 5 from Int32.toInt_inj.mp ((zcn (a3 _ rfl)).trans (by decide))])
  subst z3
  exact ⟨h1, q1, hh1, hj1, f1, z1, z2, z4⟩
theorem keep_6 (hh : HI HT h) (hj : JT h) (hR : RJ h) (hm : (ri h 34 5).toInt = 6) : ∃ h1 : List pC, Run prog E pV1 120 mX7_keep [.ref 0] h (some (.int (nI 6)), h1, 0, 0) ∧ HI HT h1 ∧ JT h1 ∧ Fr [(48, 48, 5, 9), (49, 49, 0, 15), (52, 52, 0, 2), (53, 61, 0, 5), (0, 0, 9, 9)] h h1 ∧ (∀ t ∈ ML_keep 6, ri h1 t.1.1 t.1.2 = ri h t.2.1 t.2.2) ∧ (ri h1 48 5).toInt = 6 ∧ ri h1 0 9 = 1 := by
  have hB : pBd ro_keep6 h := (pBd.cs (by show (6 : Int) ≤ (ri h 34 5).toInt; omega) (by show (ri h 34 5).toInt ≤ 6; omega) (pBd.cs (i32_b _).1 (i32_b _).2 (pBd.cs (i32_b _).1 (i32_b _).2 (pBd.cs (i32_b _).1 (i32_b _).2 (pBd.cs (i32_b _).1 (i32_b _).2 (pBd.cs (rub_ty (a := 39) hh rfl).1 (rub_ty (a := 39) hh rfl).2 (pBd.cs (i32_b _).1 (i32_b _).2 (pBd.cs (i32_b _).1 (i32_b _).2 (pBd.cs (i32_b _).1 (i32_b _).2 (pBd.cs (rub_ty (a := 40) hh rfl).1 (rub_ty (a := 40) hh rfl).2 (pBd.cs (i32_b _).1 (i32_b _).2 (pBd.cs (i32_b _).1 (i32_b _).2 (pBd.cs (i32_b _).1 (i32_b _).2 (pBd.cs (rub_ty (a := 41) hh rfl).1 (rub_ty (a := 41) hh rfl).2 (pBd.cs (i32_b _).1 (i32_b _).2 (pBd.cs (i32_b _).1 (i32_b _).2 (pBd.cs (i32_b _).1 (i32_b _).2 (pBd.cs (rub_ty (a := 42) hh rfl).1 (rub_ty (a := 42) hh rfl).2 (pBd.cs (i32_b _).1 (i32_b _).2 (pBd.cs (i32_b _).1 (i32_b _).2 (pBd.cs (i32_b _).1 (i32_b _).2 (pBd.cs (rub_ty (a := 43) hh rfl).1 (rub_ty (a := 43) hh rfl).2 (pBd.cs (i32_b _).1 (i32_b _).2 (pBd.cs (i32_b _).1 (i32_b _).2 (pBd.cs (i32_b _).1 (i32_b _).2 (pBd.cs (rub_ty (a := 44) hh rfl).1 (rub_ty (a := 44) hh rfl).2 (pBd.cs (i32_b _).1 (i32_b _).2 pBd.nl)))))))))))))))))))))))))))
  obtain ⟨r1, h1, q1, hh1, hj1, f1, z1, z2, z4, z3⟩ := ox_ok (E := E) (xs := []) (R' := ro_keep6) (Q := fun r h' => (∀ t ∈ ML_keep 6, ri h' t.1.1 t.1.2 = ri h t.2.1 t.2.2) ∧ (ri h' 48 5).toInt = 6 ∧ ri h' 0 9 = 1 ∧ r = some (.int (nI 6))) ox_keep6 rfl (fun _ h => absurd h List.not_mem_nil) hj hh (kn_rel hR.1 hR.2.1 hB (by decide +kernel)) hB trivial (fun e he => by cases he) (fun σ Γ C Δ x r h' he ha _ hC _ hr => by
    obtain ⟨a1, u, a2, a3⟩ := ecV_ok he hC hr
    refine ⟨fun t ht => mv_ok (xs := []) (bx := []) (R' := ro_keep6) (List.all_eq_true.mp (show (ML_keep 6).all (mvB ro_keep6 [(48, 9, (1, 1, 0, 2)), (48, 7, (1, 1, 0, 3)), (53, 0, (1, 1, 0, 4)), (53, 1, (1, 1, 0, 5)), (53, 2, (1, 1, 0, 6)), (53, 3, (1, 1, 0, 7)), (54, 0, (1, 1, 0, 8)), (54, 1, (1, 1, 0, 9)), (54, 2, (1, 1, 0, 10)), (54, 3, (1, 1, 0, 11)), (55, 0, (1, 1, 0, 12)), (55, 1, (1, 1, 0, 13)), (55, 2, (1, 1, 0, 14)), (55, 3, (1, 1, 0, 15)), (56, 0, (1, 1, 0, 16)), (56, 1, (1, 1, 0, 17)), (56, 2, (1, 1, 0, 18)), (56, 3, (1, 1, 0, 19)), (57, 0, (1, 1, 0, 20)), (57, 1, (1, 1, 0, 21)), (57, 2, (1, 1, 0, 22)), (57, 3, (1, 1, 0, 23)), (58, 0, (1, 1, 0, 24)), (58, 1, (1, 1, 0, 25)), (58, 2, (1, 1, 0, 26)), (58, 3, (1, 1, 0, 27)), (48, 5, (0, 6, 6, 0)), (0, 9, (0, 1, 1, 0))] 0) = true by decide +kernel) t ht) a1 ha rfl, zcn (a1 (48, 5, cn 6) (by decide +kernel)), Int32.toInt_inj.mp (zcn (a1 (0, 9, cn 1) (by decide +kernel))), ?_⟩
    rw [a2, show u = nI 6 from Int32.toInt_inj.mp ((zcn (a3 _ rfl)).trans (by decide))])
  subst z3
  exact ⟨h1, q1, hh1, hj1, f1, z1, z2, z4⟩
theorem keep_7 (hh : HI HT h) (hj : JT h) (hR : RJ h) (hm : (ri h 34 5).toInt = 7) : ∃ h1 : List pC, Run prog E pV1 120 mX7_keep [.ref 0] h (some (.int (nI 7)), h1, 0, 0) ∧ HI HT h1 ∧ JT h1 ∧ Fr [(48, 48, 5, 9), (49, 49, 0, 15), (52, 52, 0, 2), (53, 61, 0, 5), (0, 0, 9, 9)] h h1 ∧ (∀ t ∈ ML_keep 7, ri h1 t.1.1 t.1.2 = ri h t.2.1 t.2.2) ∧ (ri h1 48 5).toInt = 7 ∧ ri h1 0 9 = 1 := by
  have hB : pBd ro_keep7 h := (pBd.cs (by show (7 : Int) ≤ (ri h 34 5).toInt; omega) (by show (ri h 34 5).toInt ≤ 7; omega) (pBd.cs (i32_b _).1 (i32_b _).2 (pBd.cs (i32_b _).1 (i32_b _).2 (pBd.cs (i32_b _).1 (i32_b _).2 (pBd.cs (i32_b _).1 (i32_b _).2 (pBd.cs (rub_ty (a := 39) hh rfl).1 (rub_ty (a := 39) hh rfl).2 (pBd.cs (i32_b _).1 (i32_b _).2 (pBd.cs (i32_b _).1 (i32_b _).2 (pBd.cs (i32_b _).1 (i32_b _).2 (pBd.cs (rub_ty (a := 40) hh rfl).1 (rub_ty (a := 40) hh rfl).2 (pBd.cs (i32_b _).1 (i32_b _).2 (pBd.cs (i32_b _).1 (i32_b _).2 (pBd.cs (i32_b _).1 (i32_b _).2 (pBd.cs (rub_ty (a := 41) hh rfl).1 (rub_ty (a := 41) hh rfl).2 (pBd.cs (i32_b _).1 (i32_b _).2 (pBd.cs (i32_b _).1 (i32_b _).2 (pBd.cs (i32_b _).1 (i32_b _).2 (pBd.cs (rub_ty (a := 42) hh rfl).1 (rub_ty (a := 42) hh rfl).2 (pBd.cs (i32_b _).1 (i32_b _).2 (pBd.cs (i32_b _).1 (i32_b _).2 (pBd.cs (i32_b _).1 (i32_b _).2 (pBd.cs (rub_ty (a := 43) hh rfl).1 (rub_ty (a := 43) hh rfl).2 (pBd.cs (i32_b _).1 (i32_b _).2 (pBd.cs (i32_b _).1 (i32_b _).2 (pBd.cs (i32_b _).1 (i32_b _).2 (pBd.cs (rub_ty (a := 44) hh rfl).1 (rub_ty (a := 44) hh rfl).2 (pBd.cs (i32_b _).1 (i32_b _).2 (pBd.cs (i32_b _).1 (i32_b _).2 (pBd.cs (i32_b _).1 (i32_b _).2 (pBd.cs (rub_ty (a := 45) hh rfl).1 (rub_ty (a := 45) hh rfl).2 (pBd.cs (i32_b _).1 (i32_b _).2 pBd.nl)))))))))))))))))))))))))))))))
  obtain ⟨r1, h1, q1, hh1, hj1, f1, z1, z2, z4, z3⟩ := ox_ok (E := E) (xs := []) (R' := ro_keep7) (Q := fun r h' => (∀ t ∈ ML_keep 7, ri h' t.1.1 t.1.2 = ri h t.2.1 t.2.2) ∧ (ri h' 48 5).toInt = 7 ∧ ri h' 0 9 = 1 ∧ r = some (.int (nI 7))) ox_keep7 rfl (fun _ h => absurd h List.not_mem_nil) hj hh (kn_rel hR.1 hR.2.1 hB (by decide +kernel)) hB trivial (fun e he => by cases he) (fun σ Γ C Δ x r h' he ha _ hC _ hr => by
    obtain ⟨a1, u, a2, a3⟩ := ecV_ok he hC hr
    refine ⟨fun t ht => mv_ok (xs := []) (bx := []) (R' := ro_keep7) (List.all_eq_true.mp (show (ML_keep 7).all (mvB ro_keep7 [(48, 9, (1, 1, 0, 2)), (48, 7, (1, 1, 0, 3)), (53, 0, (1, 1, 0, 4)), (53, 1, (1, 1, 0, 5)), (53, 2, (1, 1, 0, 6)), (53, 3, (1, 1, 0, 7)), (54, 0, (1, 1, 0, 8)), (54, 1, (1, 1, 0, 9)), (54, 2, (1, 1, 0, 10)), (54, 3, (1, 1, 0, 11)), (55, 0, (1, 1, 0, 12)), (55, 1, (1, 1, 0, 13)), (55, 2, (1, 1, 0, 14)), (55, 3, (1, 1, 0, 15)), (56, 0, (1, 1, 0, 16)), (56, 1, (1, 1, 0, 17)), (56, 2, (1, 1, 0, 18)), (56, 3, (1, 1, 0, 19)), (57, 0, (1, 1, 0, 20)), (57, 1, (1, 1, 0, 21)), (57, 2, (1, 1, 0, 22)), (57, 3, (1, 1, 0, 23)), (58, 0, (1, 1, 0, 24)), (58, 1, (1, 1, 0, 25)), (58, 2, (1, 1, 0, 26)), (58, 3, (1, 1, 0, 27)), (59, 0, (1, 1, 0, 28)), (59, 1, (1, 1, 0, 29)), (59, 2, (1, 1, 0, 30)), (59, 3, (1, 1, 0, 31)), (48, 5, (0, 7, 7, 0)), (0, 9, (0, 1, 1, 0))] 0) = true by decide +kernel) t ht) a1 ha rfl, zcn (a1 (48, 5, cn 7) (by decide +kernel)), Int32.toInt_inj.mp (zcn (a1 (0, 9, cn 1) (by decide +kernel))), ?_⟩
    rw [a2, show u = nI 7 from Int32.toInt_inj.mp ((zcn (a3 _ rfl)).trans (by decide))])
  subst z3
  exact ⟨h1, q1, hh1, hj1, f1, z1, z2, z4⟩
theorem keep_8 (hh : HI HT h) (hj : JT h) (hR : RJ h) (hm : (ri h 34 5).toInt = 8) : ∃ h1 : List pC, Run prog E pV1 120 mX7_keep [.ref 0] h (some (.int (nI 8)), h1, 0, 0) ∧ HI HT h1 ∧ JT h1 ∧ Fr [(48, 48, 5, 9), (49, 49, 0, 15), (52, 52, 0, 2), (53, 61, 0, 5), (0, 0, 9, 9)] h h1 ∧ (∀ t ∈ ML_keep 8, ri h1 t.1.1 t.1.2 = ri h t.2.1 t.2.2) ∧ (ri h1 48 5).toInt = 8 ∧ ri h1 0 9 = 1 := by
  have hB : pBd ro_keep8 h := (pBd.cs (by show (8 : Int) ≤ (ri h 34 5).toInt; omega) (by show (ri h 34 5).toInt ≤ 8; omega) (pBd.cs (i32_b _).1 (i32_b _).2 (pBd.cs (i32_b _).1 (i32_b _).2 (pBd.cs (i32_b _).1 (i32_b _).2 (pBd.cs (i32_b _).1 (i32_b _).2 (pBd.cs (rub_ty (a := 39) hh rfl).1 (rub_ty (a := 39) hh rfl).2 (pBd.cs (i32_b _).1 (i32_b _).2 (pBd.cs (i32_b _).1 (i32_b _).2 (pBd.cs (i32_b _).1 (i32_b _).2 (pBd.cs (rub_ty (a := 40) hh rfl).1 (rub_ty (a := 40) hh rfl).2 (pBd.cs (i32_b _).1 (i32_b _).2 (pBd.cs (i32_b _).1 (i32_b _).2 (pBd.cs (i32_b _).1 (i32_b _).2 (pBd.cs (rub_ty (a := 41) hh rfl).1 (rub_ty (a := 41) hh rfl).2 (pBd.cs (i32_b _).1 (i32_b _).2 (pBd.cs (i32_b _).1 (i32_b _).2 (pBd.cs (i32_b _).1 (i32_b _).2 (pBd.cs (rub_ty (a := 42) hh rfl).1 (rub_ty (a := 42) hh rfl).2 (pBd.cs (i32_b _).1 (i32_b _).2 (pBd.cs (i32_b _).1 (i32_b _).2 (pBd.cs (i32_b _).1 (i32_b _).2 (pBd.cs (rub_ty (a := 43) hh rfl).1 (rub_ty (a := 43) hh rfl).2 (pBd.cs (i32_b _).1 (i32_b _).2 (pBd.cs (i32_b _).1 (i32_b _).2 (pBd.cs (i32_b _).1 (i32_b _).2 (pBd.cs (rub_ty (a := 44) hh rfl).1 (rub_ty (a := 44) hh rfl).2 (pBd.cs (i32_b _).1 (i32_b _).2 (pBd.cs (i32_b _).1 (i32_b _).2 (pBd.cs (i32_b _).1 (i32_b _).2 (pBd.cs (rub_ty (a := 45) hh rfl).1 (rub_ty (a := 45) hh rfl).2 (pBd.cs (i32_b _).1 (i32_b _).2 (pBd.cs (i32_b _).1 (i32_b _).2 (pBd.cs (i32_b _).1 (i32_b _).2 (pBd.cs (rub_ty (a := 46) hh rfl).1 (rub_ty (a := 46) hh rfl).2 (pBd.cs (i32_b _).1 (i32_b _).2 pBd.nl)))))))))))))))))))))))))))))))))))
  obtain ⟨r1, h1, q1, hh1, hj1, f1, z1, z2, z4, z3⟩ := ox_ok (E := E) (xs := []) (R' := ro_keep8) (Q := fun r h' => (∀ t ∈ ML_keep 8, ri h' t.1.1 t.1.2 = ri h t.2.1 t.2.2) ∧ (ri h' 48 5).toInt = 8 ∧ ri h' 0 9 = 1 ∧ r = some (.int (nI 8))) ox_keep8 rfl (fun _ h => absurd h List.not_mem_nil) hj hh (kn_rel hR.1 hR.2.1 hB (by decide +kernel)) hB trivial (fun e he => by cases he) (fun σ Γ C Δ x r h' he ha _ hC _ hr => by
    obtain ⟨a1, u, a2, a3⟩ := ecV_ok he hC hr
    refine ⟨fun t ht => mv_ok (xs := []) (bx := []) (R' := ro_keep8) (List.all_eq_true.mp (show (ML_keep 8).all (mvB ro_keep8 [(48, 9, (1, 1, 0, 2)), (48, 7, (1, 1, 0, 3)), (53, 0, (1, 1, 0, 4)), (53, 1, (1, 1, 0, 5)), (53, 2, (1, 1, 0, 6)), (53, 3, (1, 1, 0, 7)), (54, 0, (1, 1, 0, 8)), (54, 1, (1, 1, 0, 9)), (54, 2, (1, 1, 0, 10)), (54, 3, (1, 1, 0, 11)), (55, 0, (1, 1, 0, 12)), (55, 1, (1, 1, 0, 13)), (55, 2, (1, 1, 0, 14)), (55, 3, (1, 1, 0, 15)), (56, 0, (1, 1, 0, 16)), (56, 1, (1, 1, 0, 17)), (56, 2, (1, 1, 0, 18)), (56, 3, (1, 1, 0, 19)), (57, 0, (1, 1, 0, 20)), (57, 1, (1, 1, 0, 21)), (57, 2, (1, 1, 0, 22)), (57, 3, (1, 1, 0, 23)), (58, 0, (1, 1, 0, 24)), (58, 1, (1, 1, 0, 25)), (58, 2, (1, 1, 0, 26)), (58, 3, (1, 1, 0, 27)), (59, 0, (1, 1, 0, 28)), (59, 1, (1, 1, 0, 29)), (59, 2, (1, 1, 0, 30)), (59, 3, (1, 1, 0, 31)), (60, 0, (1, 1, 0, 32)), (60, 1, (1, 1, 0, 33)), (60, 2, (1, 1, 0, 34)), (60, 3, (1, 1, 0, 35)), (48, 5, (0, 8, 8, 0)), (0, 9, (0, 1, 1, 0))] 0) = true by decide +kernel) t ht) a1 ha rfl, zcn (a1 (48, 5, cn 8) (by decide +kernel)), Int32.toInt_inj.mp (zcn (a1 (0, 9, cn 1) (by decide +kernel))), ?_⟩
    rw [a2, show u = nI 8 from Int32.toInt_inj.mp ((zcn (a3 _ rfl)).trans (by decide))])
  subst z3
  exact ⟨h1, q1, hh1, hj1, f1, z1, z2, z4⟩
theorem keep_9 (hh : HI HT h) (hj : JT h) (hR : RJ h) (hm : (ri h 34 5).toInt = 9) : ∃ h1 : List pC, Run prog E pV1 120 mX7_keep [.ref 0] h (some (.int (nI 9)), h1, 0, 0) ∧ HI HT h1 ∧ JT h1 ∧ Fr [(48, 48, 5, 9), (49, 49, 0, 15), (52, 52, 0, 2), (53, 61, 0, 5), (0, 0, 9, 9)] h h1 ∧ (∀ t ∈ ML_keep 9, ri h1 t.1.1 t.1.2 = ri h t.2.1 t.2.2) ∧ (ri h1 48 5).toInt = 9 ∧ ri h1 0 9 = 1 := by
  have hB : pBd ro_keep9 h := (pBd.cs (by show (9 : Int) ≤ (ri h 34 5).toInt; omega) (by show (ri h 34 5).toInt ≤ 9; omega) (pBd.cs (i32_b _).1 (i32_b _).2 (pBd.cs (i32_b _).1 (i32_b _).2 (pBd.cs (i32_b _).1 (i32_b _).2 (pBd.cs (i32_b _).1 (i32_b _).2 (pBd.cs (rub_ty (a := 39) hh rfl).1 (rub_ty (a := 39) hh rfl).2 (pBd.cs (i32_b _).1 (i32_b _).2 (pBd.cs (i32_b _).1 (i32_b _).2 (pBd.cs (i32_b _).1 (i32_b _).2 (pBd.cs (rub_ty (a := 40) hh rfl).1 (rub_ty (a := 40) hh rfl).2 (pBd.cs (i32_b _).1 (i32_b _).2 (pBd.cs (i32_b _).1 (i32_b _).2 (pBd.cs (i32_b _).1 (i32_b _).2 (pBd.cs (rub_ty (a := 41) hh rfl).1 (rub_ty (a := 41) hh rfl).2 (pBd.cs (i32_b _).1 (i32_b _).2 (pBd.cs (i32_b _).1 (i32_b _).2 (pBd.cs (i32_b _).1 (i32_b _).2 (pBd.cs (rub_ty (a := 42) hh rfl).1 (rub_ty (a := 42) hh rfl).2 (pBd.cs (i32_b _).1 (i32_b _).2 (pBd.cs (i32_b _).1 (i32_b _).2 (pBd.cs (i32_b _).1 (i32_b _).2 (pBd.cs (rub_ty (a := 43) hh rfl).1 (rub_ty (a := 43) hh rfl).2 (pBd.cs (i32_b _).1 (i32_b _).2 (pBd.cs (i32_b _).1 (i32_b _).2 (pBd.cs (i32_b _).1 (i32_b _).2 (pBd.cs (rub_ty (a := 44) hh rfl).1 (rub_ty (a := 44) hh rfl).2 (pBd.cs (i32_b _).1 (i32_b _).2 (pBd.cs (i32_b _).1 (i32_b _).2 (pBd.cs (i32_b _).1 (i32_b _).2 (pBd.cs (rub_ty (a := 45) hh rfl).1 (rub_ty (a := 45) hh rfl).2 (pBd.cs (i32_b _).1 (i32_b _).2 (pBd.cs (i32_b _).1 (i32_b _).2 (pBd.cs (i32_b _).1 (i32_b _).2 (pBd.cs (rub_ty (a := 46) hh rfl).1 (rub_ty (a := 46) hh rfl).2 (pBd.cs (i32_b _).1 (i32_b _).2 (pBd.cs (i32_b _).1 (i32_b _).2 (pBd.cs (i32_b _).1 (i32_b _).2 (pBd.cs (rub_ty (a := 47) hh rfl).1 (rub_ty (a := 47) hh rfl).2 (pBd.cs (i32_b _).1 (i32_b _).2 pBd.nl)))))))))))))))))))))))))))))))))))))))
  obtain ⟨r1, h1, q1, hh1, hj1, f1, z1, z2, z4, z3⟩ := ox_ok (E := E) (xs := []) (R' := ro_keep9) (Q := fun r h' => (∀ t ∈ ML_keep 9, ri h' t.1.1 t.1.2 = ri h t.2.1 t.2.2) ∧ (ri h' 48 5).toInt = 9 ∧ ri h' 0 9 = 1 ∧ r = some (.int (nI 9))) ox_keep9 rfl (fun _ h => absurd h List.not_mem_nil) hj hh (kn_rel hR.1 hR.2.1 hB (by decide +kernel)) hB trivial (fun e he => by cases he) (fun σ Γ C Δ x r h' he ha _ hC _ hr => by
    obtain ⟨a1, u, a2, a3⟩ := ecV_ok he hC hr
    refine ⟨fun t ht => mv_ok (xs := []) (bx := []) (R' := ro_keep9) (List.all_eq_true.mp (show (ML_keep 9).all (mvB ro_keep9 [(48, 9, (1, 1, 0, 2)), (48, 7, (1, 1, 0, 3)), (53, 0, (1, 1, 0, 4)), (53, 1, (1, 1, 0, 5)), (53, 2, (1, 1, 0, 6)), (53, 3, (1, 1, 0, 7)), (54, 0, (1, 1, 0, 8)), (54, 1, (1, 1, 0, 9)), (54, 2, (1, 1, 0, 10)), (54, 3, (1, 1, 0, 11)), (55, 0, (1, 1, 0, 12)), (55, 1, (1, 1, 0, 13)), (55, 2, (1, 1, 0, 14)), (55, 3, (1, 1, 0, 15)), (56, 0, (1, 1, 0, 16)), (56, 1, (1, 1, 0, 17)), (56, 2, (1, 1, 0, 18)), (56, 3, (1, 1, 0, 19)), (57, 0, (1, 1, 0, 20)), (57, 1, (1, 1, 0, 21)), (57, 2, (1, 1, 0, 22)), (57, 3, (1, 1, 0, 23)), (58, 0, (1, 1, 0, 24)), (58, 1, (1, 1, 0, 25)), (58, 2, (1, 1, 0, 26)), (58, 3, (1, 1, 0, 27)), (59, 0, (1, 1, 0, 28)), (59, 1, (1, 1, 0, 29)), (59, 2, (1, 1, 0, 30)), (59, 3, (1, 1, 0, 31)), (60, 0, (1, 1, 0, 32)), (60, 1, (1, 1, 0, 33)), (60, 2, (1, 1, 0, 34)), (60, 3, (1, 1, 0, 35)), (61, 0, (1, 1, 0, 36)), (61, 1, (1, 1, 0, 37)), (61, 2, (1, 1, 0, 38)), (61, 3, (1, 1, 0, 39)), (48, 5, (0, 9, 9, 0)), (0, 9, (0, 1, 1, 0))] 0) = true by decide +kernel) t ht) a1 ha rfl, zcn (a1 (48, 5, cn 9) (by decide +kernel)), Int32.toInt_inj.mp (zcn (a1 (0, 9, cn 1) (by decide +kernel))), ?_⟩
    rw [a2, show u = nI 9 from Int32.toInt_inj.mp ((zcn (a3 _ rfl)).trans (by decide))])
  subst z3
  exact ⟨h1, q1, hh1, hj1, f1, z1, z2, z4⟩
theorem keep_all (hh : HI HT h) (hj : JT h) (hR : RJ h) : ∃ (m : Nat) (h1 : List pC), m ≤ 9 ∧ (ri h 34 5).toInt = m ∧ Run prog E pV1 120 mX7_keep [.ref 0] h (some (.int (nI m)), h1, 0, 0) ∧ HI HT h1 ∧ JT h1 ∧ Fr [(48, 48, 5, 9), (49, 49, 0, 15), (52, 52, 0, 2), (53, 61, 0, 5), (0, 0, 9, 9)] h h1 ∧ (∀ t ∈ ML_keep m, ri h1 t.1.1 t.1.2 = ri h t.2.1 t.2.2) ∧ (ri h1 48 5).toInt = m ∧ ri h1 0 9 = 1 := by
  have t5 := ty_34_5 hh hR
  rcases (show (ri h 34 5).toInt = 0 ∨ (ri h 34 5).toInt = 1 ∨ (ri h 34 5).toInt = 2 ∨ (ri h 34 5).toInt = 3 ∨ (ri h 34 5).toInt = 4 ∨ (ri h 34 5).toInt = 5 ∨ (ri h 34 5).toInt = 6 ∨ (ri h 34 5).toInt = 7 ∨ (ri h 34 5).toInt = 8 ∨ (ri h 34 5).toInt = 9 by omega) with e | e | e | e | e | e | e | e | e | e
  · obtain ⟨h1, k⟩ := keep_0 (E := E) hh hj hR e
    exact ⟨0, h1, by decide, e, k⟩
  · obtain ⟨h1, k⟩ := keep_1 (E := E) hh hj hR e
    exact ⟨1, h1, by decide, e, k⟩
  · obtain ⟨h1, k⟩ := keep_2 (E := E) hh hj hR e
    exact ⟨2, h1, by decide, e, k⟩
  · obtain ⟨h1, k⟩ := keep_3 (E := E) hh hj hR e
    exact ⟨3, h1, by decide, e, k⟩
  · obtain ⟨h1, k⟩ := keep_4 (E := E) hh hj hR e
    exact ⟨4, h1, by decide, e, k⟩
  · obtain ⟨h1, k⟩ := keep_5 (E := E) hh hj hR e
    exact ⟨5, h1, by decide, e, k⟩
  · obtain ⟨h1, k⟩ := keep_6 (E := E) hh hj hR e
    exact ⟨6, h1, by decide, e, k⟩
  · obtain ⟨h1, k⟩ := keep_7 (E := E) hh hj hR e
    exact ⟨7, h1, by decide, e, k⟩
  · obtain ⟨h1, k⟩ := keep_8 (E := E) hh hj hR e
    exact ⟨8, h1, by decide, e, k⟩
  · obtain ⟨h1, k⟩ := keep_9 (E := E) hh hj hR e
    exact ⟨9, h1, by decide, e, k⟩
def ML_backy (m : Nat) : List ((Nat × Nat) × (Nat × Nat)) := [((34, 9), (48, 9)), ((34, 7), (48, 7))] ++ MLr 48 34 m
theorem backy_0 (hh : HI HT h) (hj : JT h) (hR : RJ h) (hm : (ri h 48 5).toInt = 0) (hi : (ri h 0 9).toInt = 1) : ∃ h1 : List pC, Run prog E pV1 120 mX7_back [.ref 0] h (some (.int (nI 0)), h1, 0, 0) ∧ HI HT h1 ∧ JT h1 ∧ Fr [(34, 34, 5, 9), (35, 35, 0, 15), (38, 38, 0, 2), (39, 47, 0, 5)] h h1 ∧ (∀ t ∈ ML_backy 0, ri h1 t.1.1 t.1.2 = ri h t.2.1 t.2.2) ∧ (ri h1 34 5).toInt = 0 := by
  have hB : pBd ro_backy0 h := (pBd.cs (by show (0 : Int) ≤ (ri h 48 5).toInt; omega) (by show (ri h 48 5).toInt ≤ 0; omega) (pBd.cs (i32_b _).1 (i32_b _).2 (pBd.cs (i32_b _).1 (i32_b _).2 (pBd.cs (by show (1 : Int) ≤ (ri h 0 9).toInt; omega) (by show (ri h 0 9).toInt ≤ 1; omega) pBd.nl))))
  obtain ⟨r1, h1, q1, hh1, hj1, f1, z1, z2, z3⟩ := ox_ok (E := E) (xs := []) (R' := ro_backy0) (Q := fun r h' => (∀ t ∈ ML_backy 0, ri h' t.1.1 t.1.2 = ri h t.2.1 t.2.2) ∧ (ri h' 34 5).toInt = 0 ∧ r = some (.int (nI 0))) ox_backy0 rfl (fun _ h => absurd h List.not_mem_nil) hj hh (kn_rel hR.1 hR.2.1 hB (by decide +kernel)) hB trivial (fun e he => by cases he) (fun σ Γ C Δ x r h' he ha _ hC _ hr => by
    obtain ⟨a1, u, a2, a3⟩ := ecV_ok he hC hr
    refine ⟨fun t ht => mv_ok (xs := []) (bx := []) (R' := ro_backy0) (List.all_eq_true.mp (show (ML_backy 0).all (mvB ro_backy0 [(34, 9, (1, 1, 0, 2)), (34, 7, (1, 1, 0, 3)), (34, 5, (0, 0, 0, 0))] 0) = true by decide +kernel) t ht) a1 ha rfl, zcn (a1 (34, 5, cn 0) (by decide +kernel)), ?_⟩
    rw [a2, show u = nI 0 from Int32.toInt_inj.mp ((zcn (a3 _ rfl)).trans (by decide))])
  subst z3
  exact ⟨h1, q1, hh1, hj1, f1, z1, z2⟩
theorem backy_1 (hh : HI HT h) (hj : JT h) (hR : RJ h) (hm : (ri h 48 5).toInt = 1) (hi : (ri h 0 9).toInt = 1) : ∃ h1 : List pC, Run prog E pV1 120 mX7_back [.ref 0] h (some (.int (nI 1)), h1, 0, 0) ∧ HI HT h1 ∧ JT h1 ∧ Fr [(34, 34, 5, 9), (35, 35, 0, 15), (38, 38, 0, 2), (39, 47, 0, 5)] h h1 ∧ (∀ t ∈ ML_backy 1, ri h1 t.1.1 t.1.2 = ri h t.2.1 t.2.2) ∧ (ri h1 34 5).toInt = 1 := by
  have hB : pBd ro_backy1 h := (pBd.cs (by show (1 : Int) ≤ (ri h 48 5).toInt; omega) (by show (ri h 48 5).toInt ≤ 1; omega) (pBd.cs (i32_b _).1 (i32_b _).2 (pBd.cs (i32_b _).1 (i32_b _).2 (pBd.cs (i32_b _).1 (i32_b _).2 (pBd.cs (i32_b _).1 (i32_b _).2 (pBd.cs (rub_ty (a := 53) hh rfl).1 (rub_ty (a := 53) hh rfl).2 (pBd.cs (i32_b _).1 (i32_b _).2 (pBd.cs (by show (1 : Int) ≤ (ri h 0 9).toInt; omega) (by show (ri h 0 9).toInt ≤ 1; omega) pBd.nl))))))))
  obtain ⟨r1, h1, q1, hh1, hj1, f1, z1, z2, z3⟩ := ox_ok (E := E) (xs := []) (R' := ro_backy1) (Q := fun r h' => (∀ t ∈ ML_backy 1, ri h' t.1.1 t.1.2 = ri h t.2.1 t.2.2) ∧ (ri h' 34 5).toInt = 1 ∧ r = some (.int (nI 1))) ox_backy1 rfl (fun _ h => absurd h List.not_mem_nil) hj hh (kn_rel hR.1 hR.2.1 hB (by decide +kernel)) hB trivial (fun e he => by cases he) (fun σ Γ C Δ x r h' he ha _ hC _ hr => by
    obtain ⟨a1, u, a2, a3⟩ := ecV_ok he hC hr
    refine ⟨fun t ht => mv_ok (xs := []) (bx := []) (R' := ro_backy1) (List.all_eq_true.mp (show (ML_backy 1).all (mvB ro_backy1 [(34, 9, (1, 1, 0, 2)), (34, 7, (1, 1, 0, 3)), (39, 0, (1, 1, 0, 4)), (39, 1, (1, 1, 0, 5)), (39, 2, (1, 1, 0, 6)), (39, 3, (1, 1, 0, 7)), (34, 5, (0, 1, 1, 0))] 0) = true by decide +kernel) t ht) a1 ha rfl, zcn (a1 (34, 5, cn 1) (by decide +kernel)), ?_⟩
    rw [a2, show u = nI 1 from Int32.toInt_inj.mp ((zcn (a3 _ rfl)).trans (by decide))])
  subst z3
  exact ⟨h1, q1, hh1, hj1, f1, z1, z2⟩
theorem backy_2 (hh : HI HT h) (hj : JT h) (hR : RJ h) (hm : (ri h 48 5).toInt = 2) (hi : (ri h 0 9).toInt = 1) : ∃ h1 : List pC, Run prog E pV1 120 mX7_back [.ref 0] h (some (.int (nI 2)), h1, 0, 0) ∧ HI HT h1 ∧ JT h1 ∧ Fr [(34, 34, 5, 9), (35, 35, 0, 15), (38, 38, 0, 2), (39, 47, 0, 5)] h h1 ∧ (∀ t ∈ ML_backy 2, ri h1 t.1.1 t.1.2 = ri h t.2.1 t.2.2) ∧ (ri h1 34 5).toInt = 2 := by
  have hB : pBd ro_backy2 h := (pBd.cs (by show (2 : Int) ≤ (ri h 48 5).toInt; omega) (by show (ri h 48 5).toInt ≤ 2; omega) (pBd.cs (i32_b _).1 (i32_b _).2 (pBd.cs (i32_b _).1 (i32_b _).2 (pBd.cs (i32_b _).1 (i32_b _).2 (pBd.cs (i32_b _).1 (i32_b _).2 (pBd.cs (rub_ty (a := 53) hh rfl).1 (rub_ty (a := 53) hh rfl).2 (pBd.cs (i32_b _).1 (i32_b _).2 (pBd.cs (i32_b _).1 (i32_b _).2 (pBd.cs (i32_b _).1 (i32_b _).2 (pBd.cs (rub_ty (a := 54) hh rfl).1 (rub_ty (a := 54) hh rfl).2 (pBd.cs (i32_b _).1 (i32_b _).2 (pBd.cs (by show (1 : Int) ≤ (ri h 0 9).toInt; omega) (by show (ri h 0 9).toInt ≤ 1; omega) pBd.nl))))))))))))
  obtain ⟨r1, h1, q1, hh1, hj1, f1, z1, z2, z3⟩ := ox_ok (E := E) (xs := []) (R' := ro_backy2) (Q := fun r h' => (∀ t ∈ ML_backy 2, ri h' t.1.1 t.1.2 = ri h t.2.1 t.2.2) ∧ (ri h' 34 5).toInt = 2 ∧ r = some (.int (nI 2))) ox_backy2 rfl (fun _ h => absurd h List.not_mem_nil) hj hh (kn_rel hR.1 hR.2.1 hB (by decide +kernel)) hB trivial (fun e he => by cases he) (fun σ Γ C Δ x r h' he ha _ hC _ hr => by
    obtain ⟨a1, u, a2, a3⟩ := ecV_ok he hC hr
    refine ⟨fun t ht => mv_ok (xs := []) (bx := []) (R' := ro_backy2) (List.all_eq_true.mp (show (ML_backy 2).all (mvB ro_backy2 [(34, 9, (1, 1, 0, 2)), (34, 7, (1, 1, 0, 3)), (39, 0, (1, 1, 0, 4)), (39, 1, (1, 1, 0, 5)), (39, 2, (1, 1, 0, 6)), (39, 3, (1, 1, 0, 7)), (40, 0, (1, 1, 0, 8)), (40, 1, (1, 1, 0, 9)), (40, 2, (1, 1, 0, 10)), (40, 3, (1, 1, 0, 11)), (34, 5, (0, 2, 2, 0))] 0) = true by decide +kernel) t ht) a1 ha rfl, zcn (a1 (34, 5, cn 2) (by decide +kernel)), ?_⟩
    rw [a2, show u = nI 2 from Int32.toInt_inj.mp ((zcn (a3 _ rfl)).trans (by decide))])
  subst z3
  exact ⟨h1, q1, hh1, hj1, f1, z1, z2⟩
theorem backy_3 (hh : HI HT h) (hj : JT h) (hR : RJ h) (hm : (ri h 48 5).toInt = 3) (hi : (ri h 0 9).toInt = 1) : ∃ h1 : List pC, Run prog E pV1 120 mX7_back [.ref 0] h (some (.int (nI 3)), h1, 0, 0) ∧ HI HT h1 ∧ JT h1 ∧ Fr [(34, 34, 5, 9), (35, 35, 0, 15), (38, 38, 0, 2), (39, 47, 0, 5)] h h1 ∧ (∀ t ∈ ML_backy 3, ri h1 t.1.1 t.1.2 = ri h t.2.1 t.2.2) ∧ (ri h1 34 5).toInt = 3 := by
  have hB : pBd ro_backy3 h := (pBd.cs (by show (3 : Int) ≤ (ri h 48 5).toInt; omega) (by show (ri h 48 5).toInt ≤ 3; omega) (pBd.cs (i32_b _).1 (i32_b _).2 (pBd.cs (i32_b _).1 (i32_b _).2 (pBd.cs (i32_b _).1 (i32_b _).2 (pBd.cs (i32_b _).1 (i32_b _).2 (pBd.cs (rub_ty (a := 53) hh rfl).1 (rub_ty (a := 53) hh rfl).2 (pBd.cs (i32_b _).1 (i32_b _).2 (pBd.cs (i32_b _).1 (i32_b _).2 (pBd.cs (i32_b _).1 (i32_b _).2 (pBd.cs (rub_ty (a := 54) hh rfl).1 (rub_ty (a := 54) hh rfl).2 (pBd.cs (i32_b _).1 (i32_b _).2 (pBd.cs (i32_b _).1 (i32_b _).2 (pBd.cs (i32_b _).1 (i32_b _).2 (pBd.cs (rub_ty (a := 55) hh rfl).1 (rub_ty (a := 55) hh rfl).2 (pBd.cs (i32_b _).1 (i32_b _).2 (pBd.cs (by show (1 : Int) ≤ (ri h 0 9).toInt; omega) (by show (ri h 0 9).toInt ≤ 1; omega) pBd.nl))))))))))))))))
  obtain ⟨r1, h1, q1, hh1, hj1, f1, z1, z2, z3⟩ := ox_ok (E := E) (xs := []) (R' := ro_backy3) (Q := fun r h' => (∀ t ∈ ML_backy 3, ri h' t.1.1 t.1.2 = ri h t.2.1 t.2.2) ∧ (ri h' 34 5).toInt = 3 ∧ r = some (.int (nI 3))) ox_backy3 rfl (fun _ h => absurd h List.not_mem_nil) hj hh (kn_rel hR.1 hR.2.1 hB (by decide +kernel)) hB trivial (fun e he => by cases he) (fun σ Γ C Δ x r h' he ha _ hC _ hr => by
    obtain ⟨a1, u, a2, a3⟩ := ecV_ok he hC hr
    refine ⟨fun t ht => mv_ok (xs := []) (bx := []) (R' := ro_backy3) (List.all_eq_true.mp (show (ML_backy 3).all (mvB ro_backy3 [(34, 9, (1, 1, 0, 2)), (34, 7, (1, 1, 0, 3)), (39, 0, (1, 1, 0, 4)), (39, 1, (1, 1, 0, 5)), (39, 2, (1, 1, 0, 6)), (39, 3, (1, 1, 0, 7)), (40, 0, (1, 1, 0, 8)), (40, 1, (1, 1, 0, 9)), (40, 2, (1, 1, 0, 10)), (40, 3, (1, 1, 0, 11)), (41, 0, (1, 1, 0, 12)), (41, 1, (1, 1, 0, 13)), (41, 2, (1, 1, 0, 14)), (41, 3, (1, 1, 0, 15)), (34, 5, (0, 3, 3, 0))] 0) = true by decide +kernel) t ht) a1 ha rfl, zcn (a1 (34, 5, cn 3) (by decide +kernel)), ?_⟩
    rw [a2, show u = nI 3 from Int32.toInt_inj.mp ((zcn (a3 _ rfl)).trans (by decide))])
  subst z3
  exact ⟨h1, q1, hh1, hj1, f1, z1, z2⟩
theorem backy_4 (hh : HI HT h) (hj : JT h) (hR : RJ h) (hm : (ri h 48 5).toInt = 4) (hi : (ri h 0 9).toInt = 1) : ∃ h1 : List pC, Run prog E pV1 120 mX7_back [.ref 0] h (some (.int (nI 4)), h1, 0, 0) ∧ HI HT h1 ∧ JT h1 ∧ Fr [(34, 34, 5, 9), (35, 35, 0, 15), (38, 38, 0, 2), (39, 47, 0, 5)] h h1 ∧ (∀ t ∈ ML_backy 4, ri h1 t.1.1 t.1.2 = ri h t.2.1 t.2.2) ∧ (ri h1 34 5).toInt = 4 := by
  have hB : pBd ro_backy4 h := (pBd.cs (by show (4 : Int) ≤ (ri h 48 5).toInt; omega) (by show (ri h 48 5).toInt ≤ 4; omega) (pBd.cs (i32_b _).1 (i32_b _).2 (pBd.cs (i32_b _).1 (i32_b _).2 (pBd.cs (i32_b _).1 (i32_b _).2 (pBd.cs (i32_b _).1 (i32_b _).2 (pBd.cs (rub_ty (a := 53) hh rfl).1 (rub_ty (a := 53) hh rfl).2 (pBd.cs (i32_b _).1 (i32_b _).2 (pBd.cs (i32_b _).1 (i32_b _).2 (pBd.cs (i32_b _).1 (i32_b _).2 (pBd.cs (rub_ty (a := 54) hh rfl).1 (rub_ty (a := 54) hh rfl).2 (pBd.cs (i32_b _).1 (i32_b _).2 (pBd.cs (i32_b _).1 (i32_b _).2 (pBd.cs (i32_b _).1 (i32_b _).2 (pBd.cs (rub_ty (a := 55) hh rfl).1 (rub_ty (a := 55) hh rfl).2 (pBd.cs (i32_b _).1 (i32_b _).2 (pBd.cs (i32_b _).1 (i32_b _).2 (pBd.cs (i32_b _).1 (i32_b _).2 (pBd.cs (rub_ty (a := 56) hh rfl).1 (rub_ty (a := 56) hh rfl).2 (pBd.cs (i32_b _).1 (i32_b _).2 (pBd.cs (by show (1 : Int) ≤ (ri h 0 9).toInt; omega) (by show (ri h 0 9).toInt ≤ 1; omega) pBd.nl))))))))))))))))))))
  obtain ⟨r1, h1, q1, hh1, hj1, f1, z1, z2, z3⟩ := ox_ok (E := E) (xs := []) (R' := ro_backy4) (Q := fun r h' => (∀ t ∈ ML_backy 4, ri h' t.1.1 t.1.2 = ri h t.2.1 t.2.2) ∧ (ri h' 34 5).toInt = 4 ∧ r = some (.int (nI 4))) ox_backy4 rfl (fun _ h => absurd h List.not_mem_nil) hj hh (kn_rel hR.1 hR.2.1 hB (by decide +kernel)) hB trivial (fun e he => by cases he) (fun σ Γ C Δ x r h' he ha _ hC _ hr => by
    obtain ⟨a1, u, a2, a3⟩ := ecV_ok he hC hr
    refine ⟨fun t ht => mv_ok (xs := []) (bx := []) (R' := ro_backy4) (List.all_eq_true.mp (show (ML_backy 4).all (mvB ro_backy4 [(34, 9, (1, 1, 0, 2)), (34, 7, (1, 1, 0, 3)), (39, 0, (1, 1, 0, 4)), (39, 1, (1, 1, 0, 5)), (39, 2, (1, 1, 0, 6)), (39, 3, (1, 1, 0, 7)), (40, 0, (1, 1, 0, 8)), (40, 1, (1, 1, 0, 9)), (40, 2, (1, 1, 0, 10)), (40, 3, (1, 1, 0, 11)), (41, 0, (1, 1, 0, 12)), (41, 1, (1, 1, 0, 13)), (41, 2, (1, 1, 0, 14)), (41, 3, (1, 1, 0, 15)), (42, 0, (1, 1, 0, 16)), (42, 1, (1, 1, 0, 17)), (42, 2, (1, 1, 0, 18)), (42, 3, (1, 1, 0, 19)), (34, 5, (0, 4, 4, 0))] 0) = true by decide +kernel) t ht) a1 ha rfl, zcn (a1 (34, 5, cn 4) (by decide +kernel)), ?_⟩
    rw [a2, show u = nI 4 from Int32.toInt_inj.mp ((zcn (a3 _ rfl)).trans (by decide))])
  subst z3
  exact ⟨h1, q1, hh1, hj1, f1, z1, z2⟩
theorem backy_5 (hh : HI HT h) (hj : JT h) (hR : RJ h) (hm : (ri h 48 5).toInt = 5) (hi : (ri h 0 9).toInt = 1) : ∃ h1 : List pC, Run prog E pV1 120 mX7_back [.ref 0] h (some (.int (nI 5)), h1, 0, 0) ∧ HI HT h1 ∧ JT h1 ∧ Fr [(34, 34, 5, 9), (35, 35, 0, 15), (38, 38, 0, 2), (39, 47, 0, 5)] h h1 ∧ (∀ t ∈ ML_backy 5, ri h1 t.1.1 t.1.2 = ri h t.2.1 t.2.2) ∧ (ri h1 34 5).toInt = 5 := by
  have hB : pBd ro_backy5 h := (pBd.cs (by show (5 : Int) ≤ (ri h 48 5).toInt; omega) (by show (ri h 48 5).toInt ≤ 5; omega) (pBd.cs (i32_b _).1 (i32_b _).2 (pBd.cs (i32_b _).1 (i32_b _).2 (pBd.cs (i32_b _).1 (i32_b _).2 (pBd.cs (i32_b _).1 (i32_b _).2 (pBd.cs (rub_ty (a := 53) hh rfl).1 (rub_ty (a := 53) hh rfl).2 (pBd.cs (i32_b _).1 (i32_b _).2 (pBd.cs (i32_b _).1 (i32_b _).2 (pBd.cs (i32_b _).1 (i32_b _).2 (pBd.cs (rub_ty (a := 54) hh rfl).1 (rub_ty (a := 54) hh rfl).2 (pBd.cs (i32_b _).1 (i32_b _).2 (pBd.cs (i32_b _).1 (i32_b _).2 (pBd.cs (i32_b _).1 (i32_b _).2 (pBd.cs (rub_ty (a := 55) hh rfl).1 (rub_ty (a := 55) hh rfl).2 (pBd.cs (i32_b _).1 (i32_b _).2 (pBd.cs (i32_b _).1 (i32_b _).2 (pBd.cs (i32_b _).1 (i32_b _).2 (pBd.cs (rub_ty (a := 56) hh rfl).1 (rub_ty (a := 56) hh rfl).2 (pBd.cs (i32_b _).1 (i32_b _).2 (pBd.cs (i32_b _).1 (i32_b _).2 (pBd.cs (i32_b _).1 (i32_b _).2 (pBd.cs (rub_ty (a := 57) hh rfl).1 (rub_ty (a := 57) hh rfl).2 (pBd.cs (i32_b _).1 (i32_b _).2 (pBd.cs (by show (1 : Int) ≤ (ri h 0 9).toInt; omega) (by show (ri h 0 9).toInt ≤ 1; omega) pBd.nl))))))))))))))))))))))))
  obtain ⟨r1, h1, q1, hh1, hj1, f1, z1, z2, z3⟩ := ox_ok (E := E) (xs := []) (R' := ro_backy5) (Q := fun r h' => (∀ t ∈ ML_backy 5, ri h' t.1.1 t.1.2 = ri h t.2.1 t.2.2) ∧ (ri h' 34 5).toInt = 5 ∧ r = some (.int (nI 5))) ox_backy5 rfl (fun _ h => absurd h List.not_mem_nil) hj hh (kn_rel hR.1 hR.2.1 hB (by decide +kernel)) hB trivial (fun e he => by cases he) (fun σ Γ C Δ x r h' he ha _ hC _ hr => by
    obtain ⟨a1, u, a2, a3⟩ := ecV_ok he hC hr
    refine ⟨fun t ht => mv_ok (xs := []) (bx := []) (R' := ro_backy5) (List.all_eq_true.mp (show (ML_backy 5).all (mvB ro_backy5 [(34, 9, (1, 1, 0, 2)), (34, 7, (1, 1, 0, 3)), (39, 0, (1, 1, 0, 4)), (39, 1, (1, 1, 0, 5)), (39, 2, (1, 1, 0, 6)), (39, 3, (1, 1, 0, 7)), (40, 0, (1, 1, 0, 8)), (40, 1, (1, 1, 0, 9)), (40, 2, (1, 1, 0, 10)), (40, 3, (1, 1, 0, 11)), (41, 0, (1, 1, 0, 12)), (41, 1, (1, 1, 0, 13)), (41, 2, (1, 1, 0, 14)), (41, 3, (1, 1, 0, 15)), (42, 0, (1, 1, 0, 16)), (42, 1, (1, 1, 0, 17)), (42, 2, (1, 1, 0, 18)), (42, 3, (1, 1, 0, 19)), (43, 0, (1, 1, 0, 20)), (43, 1, (1, 1, 0, 21)), (43, 2, (1, 1, 0, 22)), (43, 3, (1, 1, 0, 23)), (34, 5, (0, 5, 5, 0))] 0) = true by decide +kernel) t ht) a1 ha rfl, zcn (a1 (34, 5, cn 5) (by decide +kernel)), ?_⟩
    rw [a2, show u = nI 5 from Int32.toInt_inj.mp ((zcn (a3 _ rfl)).trans (by decide))])
  subst z3
  exact ⟨h1, q1, hh1, hj1, f1, z1, z2⟩
theorem backy_6 (hh : HI HT h) (hj : JT h) (hR : RJ h) (hm : (ri h 48 5).toInt = 6) (hi : (ri h 0 9).toInt = 1) : ∃ h1 : List pC, Run prog E pV1 120 mX7_back [.ref 0] h (some (.int (nI 6)), h1, 0, 0) ∧ HI HT h1 ∧ JT h1 ∧ Fr [(34, 34, 5, 9), (35, 35, 0, 15), (38, 38, 0, 2), (39, 47, 0, 5)] h h1 ∧ (∀ t ∈ ML_backy 6, ri h1 t.1.1 t.1.2 = ri h t.2.1 t.2.2) ∧ (ri h1 34 5).toInt = 6 := by
  have hB : pBd ro_backy6 h := (pBd.cs (by show (6 : Int) ≤ (ri h 48 5).toInt; omega) (by show (ri h 48 5).toInt ≤ 6; omega) (pBd.cs (i32_b _).1 (i32_b _).2 (pBd.cs (i32_b _).1 (i32_b _).2 (pBd.cs (i32_b _).1 (i32_b _).2 (pBd.cs (i32_b _).1 (i32_b _).2 (pBd.cs (rub_ty (a := 53) hh rfl).1 (rub_ty (a := 53) hh rfl).2 (pBd.cs (i32_b _).1 (i32_b _).2 (pBd.cs (i32_b _).1 (i32_b _).2 (pBd.cs (i32_b _).1 (i32_b _).2 (pBd.cs (rub_ty (a := 54) hh rfl).1 (rub_ty (a := 54) hh rfl).2 (pBd.cs (i32_b _).1 (i32_b _).2 (pBd.cs (i32_b _).1 (i32_b _).2 (pBd.cs (i32_b _).1 (i32_b _).2 (pBd.cs (rub_ty (a := 55) hh rfl).1 (rub_ty (a := 55) hh rfl).2 (pBd.cs (i32_b _).1 (i32_b _).2 (pBd.cs (i32_b _).1 (i32_b _).2 (pBd.cs (i32_b _).1 (i32_b _).2 (pBd.cs (rub_ty (a := 56) hh rfl).1 (rub_ty (a := 56) hh rfl).2 (pBd.cs (i32_b _).1 (i32_b _).2 (pBd.cs (i32_b _).1 (i32_b _).2 (pBd.cs (i32_b _).1 (i32_b _).2 (pBd.cs (rub_ty (a := 57) hh rfl).1 (rub_ty (a := 57) hh rfl).2 (pBd.cs (i32_b _).1 (i32_b _).2 (pBd.cs (i32_b _).1 (i32_b _).2 (pBd.cs (i32_b _).1 (i32_b _).2 (pBd.cs (rub_ty (a := 58) hh rfl).1 (rub_ty (a := 58) hh rfl).2 (pBd.cs (i32_b _).1 (i32_b _).2 (pBd.cs (by show (1 : Int) ≤ (ri h 0 9).toInt; omega) (by show (ri h 0 9).toInt ≤ 1; omega) pBd.nl))))))))))))))))))))))))))))
  obtain ⟨r1, h1, q1, hh1, hj1, f1, z1, z2, z3⟩ := ox_ok (E := E) (xs := []) (R' := ro_backy6) (Q := fun r h' => (∀ t ∈ ML_backy 6, ri h' t.1.1 t.1.2 = ri h t.2.1 t.2.2) ∧ (ri h' 34 5).toInt = 6 ∧ r = some (.int (nI 6))) ox_backy6 rfl (fun _ h => absurd h List.not_mem_nil) hj hh (kn_rel hR.1 hR.2.1 hB (by decide +kernel)) hB trivial (fun e he => by cases he) (fun σ Γ C Δ x r h' he ha _ hC _ hr => by
    obtain ⟨a1, u, a2, a3⟩ := ecV_ok he hC hr
    refine ⟨fun t ht => mv_ok (xs := []) (bx := []) (R' := ro_backy6) (List.all_eq_true.mp (show (ML_backy 6).all (mvB ro_backy6 [(34, 9, (1, 1, 0, 2)), (34, 7, (1, 1, 0, 3)), (39, 0, (1, 1, 0, 4)), (39, 1, (1, 1, 0, 5)), (39, 2, (1, 1, 0, 6)), (39, 3, (1, 1, 0, 7)), (40, 0, (1, 1, 0, 8)), (40, 1, (1, 1, 0, 9)), (40, 2, (1, 1, 0, 10)), (40, 3, (1, 1, 0, 11)), (41, 0, (1, 1, 0, 12)), (41, 1, (1, 1, 0, 13)), (41, 2, (1, 1, 0, 14)), (41, 3, (1, 1, 0, 15)), (42, 0, (1, 1, 0, 16)), (42, 1, (1, 1, 0, 17)), (42, 2, (1, 1, 0, 18)), (42, 3, (1, 1, 0, 19)), (43, 0, (1, 1, 0, 20)), (43, 1, (1, 1, 0, 21)), (43, 2, (1, 1, 0, 22)), (43, 3, (1, 1, 0, 23)), (44, 0, (1, 1, 0, 24)), (44, 1, (1, 1, 0, 25)), (44, 2, (1, 1, 0, 26)), (44, 3, (1, 1, 0, 27)), (34, 5, (0, 6, 6, 0))] 0) = true by decide +kernel) t ht) a1 ha rfl, zcn (a1 (34, 5, cn 6) (by decide +kernel)), ?_⟩
    rw [a2, show u = nI 6 from Int32.toInt_inj.mp ((zcn (a3 _ rfl)).trans (by decide))])
  subst z3
  exact ⟨h1, q1, hh1, hj1, f1, z1, z2⟩
theorem backy_7 (hh : HI HT h) (hj : JT h) (hR : RJ h) (hm : (ri h 48 5).toInt = 7) (hi : (ri h 0 9).toInt = 1) : ∃ h1 : List pC, Run prog E pV1 120 mX7_back [.ref 0] h (some (.int (nI 7)), h1, 0, 0) ∧ HI HT h1 ∧ JT h1 ∧ Fr [(34, 34, 5, 9), (35, 35, 0, 15), (38, 38, 0, 2), (39, 47, 0, 5)] h h1 ∧ (∀ t ∈ ML_backy 7, ri h1 t.1.1 t.1.2 = ri h t.2.1 t.2.2) ∧ (ri h1 34 5).toInt = 7 := by
  have hB : pBd ro_backy7 h := (pBd.cs (by show (7 : Int) ≤ (ri h 48 5).toInt; omega) (by show (ri h 48 5).toInt ≤ 7; omega) (pBd.cs (i32_b _).1 (i32_b _).2 (pBd.cs (i32_b _).1 (i32_b _).2 (pBd.cs (i32_b _).1 (i32_b _).2 (pBd.cs (i32_b _).1 (i32_b _).2 (pBd.cs (rub_ty (a := 53) hh rfl).1 (rub_ty (a := 53) hh rfl).2 (pBd.cs (i32_b _).1 (i32_b _).2 (pBd.cs (i32_b _).1 (i32_b _).2 (pBd.cs (i32_b _).1 (i32_b _).2 (pBd.cs (rub_ty (a := 54) hh rfl).1 (rub_ty (a := 54) hh rfl).2 (pBd.cs (i32_b _).1 (i32_b _).2 (pBd.cs (i32_b _).1 (i32_b _).2 (pBd.cs (i32_b _).1 (i32_b _).2 (pBd.cs (rub_ty (a := 55) hh rfl).1 (rub_ty (a := 55) hh rfl).2 (pBd.cs (i32_b _).1 (i32_b _).2 (pBd.cs (i32_b _).1 (i32_b _).2 (pBd.cs (i32_b _).1 (i32_b _).2 (pBd.cs (rub_ty (a := 56) hh rfl).1 (rub_ty (a := 56) hh rfl).2 (pBd.cs (i32_b _).1 (i32_b _).2 (pBd.cs (i32_b _).1 (i32_b _).2 (pBd.cs (i32_b _).1 (i32_b _).2 (pBd.cs (rub_ty (a := 57) hh rfl).1 (rub_ty (a := 57) hh rfl).2 (pBd.cs (i32_b _).1 (i32_b _).2 (pBd.cs (i32_b _).1 (i32_b _).2 (pBd.cs (i32_b _).1 (i32_b _).2 (pBd.cs (rub_ty (a := 58) hh rfl).1 (rub_ty (a := 58) hh rfl).2 (pBd.cs (i32_b _).1 (i32_b _).2 (pBd.cs (i32_b _).1 (i32_b _).2 (pBd.cs (i32_b _).1 (i32_b _).2 (pBd.cs (rub_ty (a := 59) hh rfl).1 (rub_ty (a := 59) hh rfl).2 (pBd.cs (i32_b _).1 (i32_b _).2 (pBd.cs (by show (1 : Int) ≤ (ri h 0 9).toInt; omega) (by show (ri h 0 9).toInt ≤ 1; omega) pBd.nl))))))))))))))))))))))))))))))))
  obtain ⟨r1, h1, q1, hh1, hj1, f1, z1, z2, z3⟩ := ox_ok (E := E) (xs := []) (R' := ro_backy7) (Q := fun r h' => (∀ t ∈ ML_backy 7, ri h' t.1.1 t.1.2 = ri h t.2.1 t.2.2) ∧ (ri h' 34 5).toInt = 7 ∧ r = some (.int (nI 7))) ox_backy7 rfl (fun _ h => absurd h List.not_mem_nil) hj hh (kn_rel hR.1 hR.2.1 hB (by decide +kernel)) hB trivial (fun e he => by cases he) (fun σ Γ C Δ x r h' he ha _ hC _ hr => by
    obtain ⟨a1, u, a2, a3⟩ := ecV_ok he hC hr
    refine ⟨fun t ht => mv_ok (xs := []) (bx := []) (R' := ro_backy7) (List.all_eq_true.mp (show (ML_backy 7).all (mvB ro_backy7 [(34, 9, (1, 1, 0, 2)), (34, 7, (1, 1, 0, 3)), (39, 0, (1, 1, 0, 4)), (39, 1, (1, 1, 0, 5)), (39, 2, (1, 1, 0, 6)), (39, 3, (1, 1, 0, 7)), (40, 0, (1, 1, 0, 8)), (40, 1, (1, 1, 0, 9)), (40, 2, (1, 1, 0, 10)), (40, 3, (1, 1, 0, 11)), (41, 0, (1, 1, 0, 12)), (41, 1, (1, 1, 0, 13)), (41, 2, (1, 1, 0, 14)), (41, 3, (1, 1, 0, 15)), (42, 0, (1, 1, 0, 16)), (42, 1, (1, 1, 0, 17)), (42, 2, (1, 1, 0, 18)), (42, 3, (1, 1, 0, 19)), (43, 0, (1, 1, 0, 20)), (43, 1, (1, 1, 0, 21)), (43, 2, (1, 1, 0, 22)), (43, 3, (1, 1, 0, 23)), (44, 0, (1, 1, 0, 24)), (44, 1, (1, 1, 0, 25)), (44, 2, (1, 1, 0, 26)), (44, 3, (1, 1, 0, 27)), (45, 0, (1, 1, 0, 28)), (45, 1, (1, 1, 0, 29)), (45, 2, (1, 1, 0, 30)), (45, 3, (1, 1, 0, 31)), (34, 5, (0, 7, 7, 0))] 0) = true by decide +kernel) t ht) a1 ha rfl, zcn (a1 (34, 5, cn 7) (by decide +kernel)), ?_⟩
    rw [a2, show u = nI 7 from Int32.toInt_inj.mp ((zcn (a3 _ rfl)).trans (by decide))])
  subst z3
  exact ⟨h1, q1, hh1, hj1, f1, z1, z2⟩
theorem backy_8 (hh : HI HT h) (hj : JT h) (hR : RJ h) (hm : (ri h 48 5).toInt = 8) (hi : (ri h 0 9).toInt = 1) : ∃ h1 : List pC, Run prog E pV1 120 mX7_back [.ref 0] h (some (.int (nI 8)), h1, 0, 0) ∧ HI HT h1 ∧ JT h1 ∧ Fr [(34, 34, 5, 9), (35, 35, 0, 15), (38, 38, 0, 2), (39, 47, 0, 5)] h h1 ∧ (∀ t ∈ ML_backy 8, ri h1 t.1.1 t.1.2 = ri h t.2.1 t.2.2) ∧ (ri h1 34 5).toInt = 8 := by
  have hB : pBd ro_backy8 h := (pBd.cs (by show (8 : Int) ≤ (ri h 48 5).toInt; omega) (by show (ri h 48 5).toInt ≤ 8; omega) (pBd.cs (i32_b _).1 (i32_b _).2 (pBd.cs (i32_b _).1 (i32_b _).2 (pBd.cs (i32_b _).1 (i32_b _).2 (pBd.cs (i32_b _).1 (i32_b _).2 (pBd.cs (rub_ty (a := 53) hh rfl).1 (rub_ty (a := 53) hh rfl).2 (pBd.cs (i32_b _).1 (i32_b _).2 (pBd.cs (i32_b _).1 (i32_b _).2 (pBd.cs (i32_b _).1 (i32_b _).2 (pBd.cs (rub_ty (a := 54) hh rfl).1 (rub_ty (a := 54) hh rfl).2 (pBd.cs (i32_b _).1 (i32_b _).2 (pBd.cs (i32_b _).1 (i32_b _).2 (pBd.cs (i32_b _).1 (i32_b _).2 (pBd.cs (rub_ty (a := 55) hh rfl).1 (rub_ty (a := 55) hh rfl).2 (pBd.cs (i32_b _).1 (i32_b _).2 (pBd.cs (i32_b _).1 (i32_b _).2 (pBd.cs (i32_b _).1 (i32_b _).2 (pBd.cs (rub_ty (a := 56) hh rfl).1 (rub_ty (a := 56) hh rfl).2 (pBd.cs (i32_b _).1 (i32_b _).2 (pBd.cs (i32_b _).1 (i32_b _).2 (pBd.cs (i32_b _).1 (i32_b _).2 (pBd.cs (rub_ty (a := 57) hh rfl).1 (rub_ty (a := 57) hh rfl).2 (pBd.cs (i32_b _).1 (i32_b _).2 (pBd.cs (i32_b _).1 (i32_b _).2 (pBd.cs (i32_b _).1 (i32_b _).2 (pBd.cs (rub_ty (a := 58) hh rfl).1 (rub_ty (a := 58) hh rfl).2 (pBd.cs (i32_b _).1 (i32_b _).2 (pBd.cs (i32_b _).1 (i32_b _).2 (pBd.cs (i32_b _).1 (i32_b _).2 (pBd.cs (rub_ty (a := 59) hh rfl).1 (rub_ty (a := 59) hh rfl).2 (pBd.cs (i32_b _).1 (i32_b _).2 (pBd.cs (i32_b _).1 (i32_b _).2 (pBd.cs (i32_b _).1 (i32_b _).2 (pBd.cs (rub_ty (a := 60) hh rfl).1 (rub_ty (a := 60) hh rfl).2 (pBd.cs (i32_b _).1 (i32_b _).2 (pBd.cs (by show (1 : Int) ≤ (ri h 0 9).toInt; omega) (by show (ri h 0 9).toInt ≤ 1; omega) pBd.nl))))))))))))))))))))))))))))))))))))
  obtain ⟨r1, h1, q1, hh1, hj1, f1, z1, z2, z3⟩ := ox_ok (E := E) (xs := []) (R' := ro_backy8) (Q := fun r h' => (∀ t ∈ ML_backy 8, ri h' t.1.1 t.1.2 = ri h t.2.1 t.2.2) ∧ (ri h' 34 5).toInt = 8 ∧ r = some (.int (nI 8))) ox_backy8 rfl (fun _ h => absurd h List.not_mem_nil) hj hh (kn_rel hR.1 hR.2.1 hB (by decide +kernel)) hB trivial (fun e he => by cases he) (fun σ Γ C Δ x r h' he ha _ hC _ hr => by
    obtain ⟨a1, u, a2, a3⟩ := ecV_ok he hC hr
    refine ⟨fun t ht => mv_ok (xs := []) (bx := []) (R' := ro_backy8) (List.all_eq_true.mp (show (ML_backy 8).all (mvB ro_backy8 [(34, 9, (1, 1, 0, 2)), (34, 7, (1, 1, 0, 3)), (39, 0, (1, 1, 0, 4)), (39, 1, (1, 1, 0, 5)), (39, 2, (1, 1, 0, 6)), (39, 3, (1, 1, 0, 7)), (40, 0, (1, 1, 0, 8)), (40, 1, (1, 1, 0, 9)), (40, 2, (1, 1, 0, 10)), (40, 3, (1, 1, 0, 11)), (41, 0, (1, 1, 0, 12)), (41, 1, (1, 1, 0, 13)), (41, 2, (1, 1, 0, 14)), (41, 3, (1, 1, 0, 15)), (42, 0, (1, 1, 0, 16)), (42, 1, (1, 1, 0, 17)), (42, 2, (1, 1, 0, 18)), (42, 3, (1, 1, 0, 19)), (43, 0, (1, 1, 0, 20)), (43, 1, (1, 1, 0, 21)), (43, 2, (1, 1, 0, 22)), (43, 3, (1, 1, 0, 23)), (44, 0, (1, 1, 0, 24)), (44, 1, (1, 1, 0, 25)), (44, 2, (1, 1, 0, 26)), (44, 3, (1, 1, 0, 27)), (45, 0, (1, 1, 0, 28)), (45, 1, (1, 1, 0, 29)), (45, 2, (1, 1, 0, 30)), (45, 3, (1, 1, 0, 31)), (46, 0, (1, 1, 0, 32)), (46, 1, (1, 1, 0, 33)), (46, 2, (1, 1, 0, 34)), (46, 3, (1, 1, 0, 35)), (34, 5, (0, 8, 8, 0))] 0) = true by decide +kernel) t ht) a1 ha rfl, zcn (a1 (34, 5, cn 8) (by decide +kernel)), ?_⟩
    rw [a2, show u = nI 8 from Int32.toInt_inj.mp ((zcn (a3 _ rfl)).trans (by decide))])
  subst z3
  exact ⟨h1, q1, hh1, hj1, f1, z1, z2⟩
theorem backy_9 (hh : HI HT h) (hj : JT h) (hR : RJ h) (hm : (ri h 48 5).toInt = 9) (hi : (ri h 0 9).toInt = 1) : ∃ h1 : List pC, Run prog E pV1 120 mX7_back [.ref 0] h (some (.int (nI 9)), h1, 0, 0) ∧ HI HT h1 ∧ JT h1 ∧ Fr [(34, 34, 5, 9), (35, 35, 0, 15), (38, 38, 0, 2), (39, 47, 0, 5)] h h1 ∧ (∀ t ∈ ML_backy 9, ri h1 t.1.1 t.1.2 = ri h t.2.1 t.2.2) ∧ (ri h1 34 5).toInt = 9 := by
  have hB : pBd ro_backy9 h := (pBd.cs (by show (9 : Int) ≤ (ri h 48 5).toInt; omega) (by show (ri h 48 5).toInt ≤ 9; omega) (pBd.cs (i32_b _).1 (i32_b _).2 (pBd.cs (i32_b _).1 (i32_b _).2 (pBd.cs (i32_b _).1 (i32_b _).2 (pBd.cs (i32_b _).1 (i32_b _).2 (pBd.cs (rub_ty (a := 53) hh rfl).1 (rub_ty (a := 53) hh rfl).2 (pBd.cs (i32_b _).1 (i32_b _).2 (pBd.cs (i32_b _).1 (i32_b _).2 (pBd.cs (i32_b _).1 (i32_b _).2 (pBd.cs (rub_ty (a := 54) hh rfl).1 (rub_ty (a := 54) hh rfl).2 (pBd.cs (i32_b _).1 (i32_b _).2 (pBd.cs (i32_b _).1 (i32_b _).2 (pBd.cs (i32_b _).1 (i32_b _).2 (pBd.cs (rub_ty (a := 55) hh rfl).1 (rub_ty (a := 55) hh rfl).2 (pBd.cs (i32_b _).1 (i32_b _).2 (pBd.cs (i32_b _).1 (i32_b _).2 (pBd.cs (i32_b _).1 (i32_b _).2 (pBd.cs (rub_ty (a := 56) hh rfl).1 (rub_ty (a := 56) hh rfl).2 (pBd.cs (i32_b _).1 (i32_b _).2 (pBd.cs (i32_b _).1 (i32_b _).2 (pBd.cs (i32_b _).1 (i32_b _).2 (pBd.cs (rub_ty (a := 57) hh rfl).1 (rub_ty (a := 57) hh rfl).2 (pBd.cs (i32_b _).1 (i32_b _).2 (pBd.cs (i32_b _).1 (i32_b _).2 (pBd.cs (i32_b _).1 (i32_b _).2 (pBd.cs (rub_ty (a := 58) hh rfl).1 (rub_ty (a := 58) hh rfl).2 (pBd.cs (i32_b _).1 (i32_b _).2 (pBd.cs (i32_b _).1 (i32_b _).2 (pBd.cs (i32_b _).1 (i32_b _).2 (pBd.cs (rub_ty (a := 59) hh rfl).1 (rub_ty (a := 59) hh rfl).2 (pBd.cs (i32_b _).1 (i32_b _).2 (pBd.cs (i32_b _).1 (i32_b _).2 (pBd.cs (i32_b _).1 (i32_b _).2 (pBd.cs (rub_ty (a := 60) hh rfl).1 (rub_ty (a := 60) hh rfl).2 (pBd.cs (i32_b _).1 (i32_b _).2 (pBd.cs (i32_b _).1 (i32_b _).2 (pBd.cs (i32_b _).1 (i32_b _).2 (pBd.cs (rub_ty (a := 61) hh rfl).1 (rub_ty (a := 61) hh rfl).2 (pBd.cs (i32_b _).1 (i32_b _).2 (pBd.cs (by show (1 : Int) ≤ (ri h 0 9).toInt; omega) (by show (ri h 0 9).toInt ≤ 1; omega) pBd.nl))))))))))))))))))))))))))))))))))))))))
  obtain ⟨r1, h1, q1, hh1, hj1, f1, z1, z2, z3⟩ := ox_ok (E := E) (xs := []) (R' := ro_backy9) (Q := fun r h' => (∀ t ∈ ML_backy 9, ri h' t.1.1 t.1.2 = ri h t.2.1 t.2.2) ∧ (ri h' 34 5).toInt = 9 ∧ r = some (.int (nI 9))) ox_backy9 rfl (fun _ h => absurd h List.not_mem_nil) hj hh (kn_rel hR.1 hR.2.1 hB (by decide +kernel)) hB trivial (fun e he => by cases he) (fun σ Γ C Δ x r h' he ha _ hC _ hr => by
    obtain ⟨a1, u, a2, a3⟩ := ecV_ok he hC hr
    refine ⟨fun t ht => mv_ok (xs := []) (bx := []) (R' := ro_backy9) (List.all_eq_true.mp (show (ML_backy 9).all (mvB ro_backy9 [(34, 9, (1, 1, 0, 2)), (34, 7, (1, 1, 0, 3)), (39, 0, (1, 1, 0, 4)), (39, 1, (1, 1, 0, 5)), (39, 2, (1, 1, 0, 6)), (39, 3, (1, 1, 0, 7)), (40, 0, (1, 1, 0, 8)), (40, 1, (1, 1, 0, 9)), (40, 2, (1, 1, 0, 10)), (40, 3, (1, 1, 0, 11)), (41, 0, (1, 1, 0, 12)), (41, 1, (1, 1, 0, 13)), (41, 2, (1, 1, 0, 14)), (41, 3, (1, 1, 0, 15)), (42, 0, (1, 1, 0, 16)), (42, 1, (1, 1, 0, 17)), (42, 2, (1, 1, 0, 18)), (42, 3, (1, 1, 0, 19)), (43, 0, (1, 1, 0, 20)), (43, 1, (1, 1, 0, 21)), (43, 2, (1, 1, 0, 22)), (43, 3, (1, 1, 0, 23)), (44, 0, (1, 1, 0, 24)), (44, 1, (1, 1, 0, 25)), (44, 2, (1, 1, 0, 26)), (44, 3, (1, 1, 0, 27)), (45, 0, (1, 1, 0, 28)), (45, 1, (1, 1, 0, 29)), (45, 2, (1, 1, 0, 30)), (45, 3, (1, 1, 0, 31)), (46, 0, (1, 1, 0, 32)), (46, 1, (1, 1, 0, 33)), (46, 2, (1, 1, 0, 34)), (46, 3, (1, 1, 0, 35)), (47, 0, (1, 1, 0, 36)), (47, 1, (1, 1, 0, 37)), (47, 2, (1, 1, 0, 38)), (47, 3, (1, 1, 0, 39)), (34, 5, (0, 9, 9, 0))] 0) = true by decide +kernel) t ht) a1 ha rfl, zcn (a1 (34, 5, cn 9) (by decide +kernel)), ?_⟩
    rw [a2, show u = nI 9 from Int32.toInt_inj.mp ((zcn (a3 _ rfl)).trans (by decide))])
  subst z3
  exact ⟨h1, q1, hh1, hj1, f1, z1, z2⟩
theorem backy_all (hh : HI HT h) (hj : JT h) (hR : RJ h) (hi : (ri h 0 9).toInt = 1) : ∃ (m : Nat) (h1 : List pC), m ≤ 9 ∧ (ri h 48 5).toInt = m ∧ Run prog E pV1 120 mX7_back [.ref 0] h (some (.int (nI m)), h1, 0, 0) ∧ HI HT h1 ∧ JT h1 ∧ Fr [(34, 34, 5, 9), (35, 35, 0, 15), (38, 38, 0, 2), (39, 47, 0, 5)] h h1 ∧ (∀ t ∈ ML_backy m, ri h1 t.1.1 t.1.2 = ri h t.2.1 t.2.2) ∧ (ri h1 34 5).toInt = m := by
  have t5 := ty_48_5 hh hR
  rcases (show (ri h 48 5).toInt = 0 ∨ (ri h 48 5).toInt = 1 ∨ (ri h 48 5).toInt = 2 ∨ (ri h 48 5).toInt = 3 ∨ (ri h 48 5).toInt = 4 ∨ (ri h 48 5).toInt = 5 ∨ (ri h 48 5).toInt = 6 ∨ (ri h 48 5).toInt = 7 ∨ (ri h 48 5).toInt = 8 ∨ (ri h 48 5).toInt = 9 by omega) with e | e | e | e | e | e | e | e | e | e
  · obtain ⟨h1, k⟩ := backy_0 (E := E) hh hj hR e hi
    exact ⟨0, h1, by decide, e, k⟩
  · obtain ⟨h1, k⟩ := backy_1 (E := E) hh hj hR e hi
    exact ⟨1, h1, by decide, e, k⟩
  · obtain ⟨h1, k⟩ := backy_2 (E := E) hh hj hR e hi
    exact ⟨2, h1, by decide, e, k⟩
  · obtain ⟨h1, k⟩ := backy_3 (E := E) hh hj hR e hi
    exact ⟨3, h1, by decide, e, k⟩
  · obtain ⟨h1, k⟩ := backy_4 (E := E) hh hj hR e hi
    exact ⟨4, h1, by decide, e, k⟩
  · obtain ⟨h1, k⟩ := backy_5 (E := E) hh hj hR e hi
    exact ⟨5, h1, by decide, e, k⟩
  · obtain ⟨h1, k⟩ := backy_6 (E := E) hh hj hR e hi
    exact ⟨6, h1, by decide, e, k⟩
  · obtain ⟨h1, k⟩ := backy_7 (E := E) hh hj hR e hi
    exact ⟨7, h1, by decide, e, k⟩
  · obtain ⟨h1, k⟩ := backy_8 (E := E) hh hj hR e hi
    exact ⟨8, h1, by decide, e, k⟩
  · obtain ⟨h1, k⟩ := backy_9 (E := E) hh hj hR e hi
    exact ⟨9, h1, by decide, e, k⟩
theorem lf_rubbing0 (x1 x2 x3 : Int32) (hh : HI HT h) (hj : JT h) (hR : RJ h) (b34_5 : 0 ≤ (ri h 34 5).toInt ∧ (ri h 34 5).toInt ≤ 0) : ∃ (r1 r2 : Int32) (h1 h2 : List pC), Run prog E pV1 120 mX7_rubbing [.ref 0, .int x1, .int x2, .int x3] h (some (.int r1), h1, 0, 0) ∧ Run prog E pV1 120 mX8_rubbing [.ref 110, .int x1, .int x2, .int x3] h1 (some (.int r2), h2, 0, 0) ∧ (∃ o, pobj h1 110 = some o ∧ o.1 = 8) ∧ HI HT h2 ∧ JT h2 ∧ RJ h2 := by
  obtain ⟨r, h1, h2, q1, q2, q3, p1, p2, p3, p4⟩ := pr_ok3 (E := E) (x1 := x1) (x2 := x2) (x3 := x3) cp_rubbing0 rfl rfl (List.cons_ne_nil _ _) (List.cons_ne_nil _ _) (fun _ h => absurd h List.not_mem_nil) hh hj hR.1 hR.2.1 ⟨i32_b x1, i32_b x2, i32_b x3, trivial⟩ (pBd.cs b34_5.1 b34_5.2 pBd.nl) (fun e he => by cases he)
  exact ⟨r, r, h1, h2, q1, q2, q3, p1, p2, p3.1, p3.2, xj_fr hR.2.2 p4 (by decide +kernel)⟩
theorem lf_rubbing1 (x1 x2 x3 : Int32) (hh : HI HT h) (hj : JT h) (hR : RJ h) (b34_5 : 1 ≤ (ri h 34 5).toInt ∧ (ri h 34 5).toInt ≤ 1) : ∃ (r1 r2 : Int32) (h1 h2 : List pC), Run prog E pV1 120 mX7_rubbing [.ref 0, .int x1, .int x2, .int x3] h (some (.int r1), h1, 0, 0) ∧ Run prog E pV1 120 mX8_rubbing [.ref 110, .int x1, .int x2, .int x3] h1 (some (.int r2), h2, 0, 0) ∧ (∃ o, pobj h1 110 = some o ∧ o.1 = 8) ∧ HI HT h2 ∧ JT h2 ∧ RJ h2 := by
  obtain ⟨r, h1, h2, q1, q2, q3, p1, p2, p3, p4⟩ := pr_ok3 (E := E) (x1 := x1) (x2 := x2) (x3 := x3) cp_rubbing1 rfl rfl (List.cons_ne_nil _ _) (List.cons_ne_nil _ _) (fun _ h => absurd h List.not_mem_nil) hh hj hR.1 hR.2.1 ⟨i32_b x1, i32_b x2, i32_b x3, trivial⟩ (pBd.cs b34_5.1 b34_5.2 pBd.nl) (fun e he => by cases he)
  exact ⟨r, r, h1, h2, q1, q2, q3, p1, p2, p3.1, p3.2, xj_fr hR.2.2 p4 (by decide +kernel)⟩
theorem lf_rubbing2 (x1 x2 x3 : Int32) (hh : HI HT h) (hj : JT h) (hR : RJ h) (b34_5 : 2 ≤ (ri h 34 5).toInt ∧ (ri h 34 5).toInt ≤ 2) : ∃ (r1 r2 : Int32) (h1 h2 : List pC), Run prog E pV1 120 mX7_rubbing [.ref 0, .int x1, .int x2, .int x3] h (some (.int r1), h1, 0, 0) ∧ Run prog E pV1 120 mX8_rubbing [.ref 110, .int x1, .int x2, .int x3] h1 (some (.int r2), h2, 0, 0) ∧ (∃ o, pobj h1 110 = some o ∧ o.1 = 8) ∧ HI HT h2 ∧ JT h2 ∧ RJ h2 := by
  obtain ⟨r, h1, h2, q1, q2, q3, p1, p2, p3, p4⟩ := pr_ok3 (E := E) (x1 := x1) (x2 := x2) (x3 := x3) cp_rubbing2 rfl rfl (List.cons_ne_nil _ _) (List.cons_ne_nil _ _) (fun _ h => absurd h List.not_mem_nil) hh hj hR.1 hR.2.1 ⟨i32_b x1, i32_b x2, i32_b x3, trivial⟩ (pBd.cs b34_5.1 b34_5.2 pBd.nl) (fun e he => by cases he)
  exact ⟨r, r, h1, h2, q1, q2, q3, p1, p2, p3.1, p3.2, xj_fr hR.2.2 p4 (by decide +kernel)⟩
theorem lf_rubbing3 (x1 x2 x3 : Int32) (hh : HI HT h) (hj : JT h) (hR : RJ h) (b34_5 : 3 ≤ (ri h 34 5).toInt ∧ (ri h 34 5).toInt ≤ 3) : ∃ (r1 r2 : Int32) (h1 h2 : List pC), Run prog E pV1 120 mX7_rubbing [.ref 0, .int x1, .int x2, .int x3] h (some (.int r1), h1, 0, 0) ∧ Run prog E pV1 120 mX8_rubbing [.ref 110, .int x1, .int x2, .int x3] h1 (some (.int r2), h2, 0, 0) ∧ (∃ o, pobj h1 110 = some o ∧ o.1 = 8) ∧ HI HT h2 ∧ JT h2 ∧ RJ h2 := by
  obtain ⟨r, h1, h2, q1, q2, q3, p1, p2, p3, p4⟩ := pr_ok3 (E := E) (x1 := x1) (x2 := x2) (x3 := x3) cp_rubbing3 rfl rfl (List.cons_ne_nil _ _) (List.cons_ne_nil _ _) (fun _ h => absurd h List.not_mem_nil) hh hj hR.1 hR.2.1 ⟨i32_b x1, i32_b x2, i32_b x3, trivial⟩ (pBd.cs b34_5.1 b34_5.2 pBd.nl) (fun e he => by cases he)
  exact ⟨r, r, h1, h2, q1, q2, q3, p1, p2, p3.1, p3.2, xj_fr hR.2.2 p4 (by decide +kernel)⟩
theorem lf_rubbing4 (x1 x2 x3 : Int32) (hh : HI HT h) (hj : JT h) (hR : RJ h) (b34_5 : 4 ≤ (ri h 34 5).toInt ∧ (ri h 34 5).toInt ≤ 4) : ∃ (r1 r2 : Int32) (h1 h2 : List pC), Run prog E pV1 120 mX7_rubbing [.ref 0, .int x1, .int x2, .int x3] h (some (.int r1), h1, 0, 0) ∧ Run prog E pV1 120 mX8_rubbing [.ref 110, .int x1, .int x2, .int x3] h1 (some (.int r2), h2, 0, 0) ∧ (∃ o, pobj h1 110 = some o ∧ o.1 = 8) ∧ HI HT h2 ∧ JT h2 ∧ RJ h2 := by
  obtain ⟨r, h1, h2, q1, q2, q3, p1, p2, p3, p4⟩ := pr_ok3 (E := E) (x1 := x1) (x2 := x2) (x3 := x3) cp_rubbing4 rfl rfl (List.cons_ne_nil _ _) (List.cons_ne_nil _ _) (fun _ h => absurd h List.not_mem_nil) hh hj hR.1 hR.2.1 ⟨i32_b x1, i32_b x2, i32_b x3, trivial⟩ (pBd.cs b34_5.1 b34_5.2 pBd.nl) (fun e he => by cases he)
  exact ⟨r, r, h1, h2, q1, q2, q3, p1, p2, p3.1, p3.2, xj_fr hR.2.2 p4 (by decide +kernel)⟩
theorem lf_rubbing5 (x1 x2 x3 : Int32) (hh : HI HT h) (hj : JT h) (hR : RJ h) (b34_5 : 5 ≤ (ri h 34 5).toInt ∧ (ri h 34 5).toInt ≤ 5) : ∃ (r1 r2 : Int32) (h1 h2 : List pC), Run prog E pV1 120 mX7_rubbing [.ref 0, .int x1, .int x2, .int x3] h (some (.int r1), h1, 0, 0) ∧ Run prog E pV1 120 mX8_rubbing [.ref 110, .int x1, .int x2, .int x3] h1 (some (.int r2), h2, 0, 0) ∧ (∃ o, pobj h1 110 = some o ∧ o.1 = 8) ∧ HI HT h2 ∧ JT h2 ∧ RJ h2 := by
  obtain ⟨r, h1, h2, q1, q2, q3, p1, p2, p3, p4⟩ := pr_ok3 (E := E) (x1 := x1) (x2 := x2) (x3 := x3) cp_rubbing5 rfl rfl (List.cons_ne_nil _ _) (List.cons_ne_nil _ _) (fun _ h => absurd h List.not_mem_nil) hh hj hR.1 hR.2.1 ⟨i32_b x1, i32_b x2, i32_b x3, trivial⟩ (pBd.cs b34_5.1 b34_5.2 pBd.nl) (fun e he => by cases he)
  exact ⟨r, r, h1, h2, q1, q2, q3, p1, p2, p3.1, p3.2, xj_fr hR.2.2 p4 (by decide +kernel)⟩
theorem lf_rubbing6 (x1 x2 x3 : Int32) (hh : HI HT h) (hj : JT h) (hR : RJ h) (b34_5 : 6 ≤ (ri h 34 5).toInt ∧ (ri h 34 5).toInt ≤ 6) : ∃ (r1 r2 : Int32) (h1 h2 : List pC), Run prog E pV1 120 mX7_rubbing [.ref 0, .int x1, .int x2, .int x3] h (some (.int r1), h1, 0, 0) ∧ Run prog E pV1 120 mX8_rubbing [.ref 110, .int x1, .int x2, .int x3] h1 (some (.int r2), h2, 0, 0) ∧ (∃ o, pobj h1 110 = some o ∧ o.1 = 8) ∧ HI HT h2 ∧ JT h2 ∧ RJ h2 := by
  obtain ⟨r, h1, h2, q1, q2, q3, p1, p2, p3, p4⟩ := pr_ok3 (E := E) (x1 := x1) (x2 := x2) (x3 := x3) cp_rubbing6 rfl rfl (List.cons_ne_nil _ _) (List.cons_ne_nil _ _) (fun _ h => absurd h List.not_mem_nil) hh hj hR.1 hR.2.1 ⟨i32_b x1, i32_b x2, i32_b x3, trivial⟩ (pBd.cs b34_5.1 b34_5.2 pBd.nl) (fun e he => by cases he)
  exact ⟨r, r, h1, h2, q1, q2, q3, p1, p2, p3.1, p3.2, xj_fr hR.2.2 p4 (by decide +kernel)⟩
theorem lf_rubbing7 (x1 x2 x3 : Int32) (hh : HI HT h) (hj : JT h) (hR : RJ h) (b34_5 : 7 ≤ (ri h 34 5).toInt ∧ (ri h 34 5).toInt ≤ 7) : ∃ (r1 r2 : Int32) (h1 h2 : List pC), Run prog E pV1 120 mX7_rubbing [.ref 0, .int x1, .int x2, .int x3] h (some (.int r1), h1, 0, 0) ∧ Run prog E pV1 120 mX8_rubbing [.ref 110, .int x1, .int x2, .int x3] h1 (some (.int r2), h2, 0, 0) ∧ (∃ o, pobj h1 110 = some o ∧ o.1 = 8) ∧ HI HT h2 ∧ JT h2 ∧ RJ h2 := by
  obtain ⟨r, h1, h2, q1, q2, q3, p1, p2, p3, p4⟩ := pr_ok3 (E := E) (x1 := x1) (x2 := x2) (x3 := x3) cp_rubbing7 rfl rfl (List.cons_ne_nil _ _) (List.cons_ne_nil _ _) (fun _ h => absurd h List.not_mem_nil) hh hj hR.1 hR.2.1 ⟨i32_b x1, i32_b x2, i32_b x3, trivial⟩ (pBd.cs b34_5.1 b34_5.2 pBd.nl) (fun e he => by cases he)
  exact ⟨r, r, h1, h2, q1, q2, q3, p1, p2, p3.1, p3.2, xj_fr hR.2.2 p4 (by decide +kernel)⟩
theorem lf_rubbing8 (x1 x2 x3 : Int32) (hh : HI HT h) (hj : JT h) (hR : RJ h) (b34_5 : 8 ≤ (ri h 34 5).toInt ∧ (ri h 34 5).toInt ≤ 8) : ∃ (r1 r2 : Int32) (h1 h2 : List pC), Run prog E pV1 120 mX7_rubbing [.ref 0, .int x1, .int x2, .int x3] h (some (.int r1), h1, 0, 0) ∧ Run prog E pV1 120 mX8_rubbing [.ref 110, .int x1, .int x2, .int x3] h1 (some (.int r2), h2, 0, 0) ∧ (∃ o, pobj h1 110 = some o ∧ o.1 = 8) ∧ HI HT h2 ∧ JT h2 ∧ RJ h2 := by
  obtain ⟨r, h1, h2, q1, q2, q3, p1, p2, p3, p4⟩ := pr_ok3 (E := E) (x1 := x1) (x2 := x2) (x3 := x3) cp_rubbing8 rfl rfl (List.cons_ne_nil _ _) (List.cons_ne_nil _ _) (fun _ h => absurd h List.not_mem_nil) hh hj hR.1 hR.2.1 ⟨i32_b x1, i32_b x2, i32_b x3, trivial⟩ (pBd.cs b34_5.1 b34_5.2 pBd.nl) (fun e he => by cases he)
  exact ⟨r, r, h1, h2, q1, q2, q3, p1, p2, p3.1, p3.2, xj_fr hR.2.2 p4 (by decide +kernel)⟩
theorem lf_rubbing9 (x1 x2 x3 : Int32) (hh : HI HT h) (hj : JT h) (hR : RJ h) (b34_5 : 9 ≤ (ri h 34 5).toInt ∧ (ri h 34 5).toInt ≤ 9) : ∃ (r1 r2 : Int32) (h1 h2 : List pC), Run prog E pV1 120 mX7_rubbing [.ref 0, .int x1, .int x2, .int x3] h (some (.int r1), h1, 0, 0) ∧ Run prog E pV1 120 mX8_rubbing [.ref 110, .int x1, .int x2, .int x3] h1 (some (.int r2), h2, 0, 0) ∧ (∃ o, pobj h1 110 = some o ∧ o.1 = 8) ∧ HI HT h2 ∧ JT h2 ∧ RJ h2 := by
  obtain ⟨r, h1, h2, q1, q2, q3, p1, p2, p3, p4⟩ := pr_ok3 (E := E) (x1 := x1) (x2 := x2) (x3 := x3) cp_rubbing9 rfl rfl (List.cons_ne_nil _ _) (List.cons_ne_nil _ _) (fun _ h => absurd h List.not_mem_nil) hh hj hR.1 hR.2.1 ⟨i32_b x1, i32_b x2, i32_b x3, trivial⟩ (pBd.cs b34_5.1 b34_5.2 pBd.nl) (fun e he => by cases he)
  exact ⟨r, r, h1, h2, q1, q2, q3, p1, p2, p3.1, p3.2, xj_fr hR.2.2 p4 (by decide +kernel)⟩
theorem lw_rubbing (x1 x2 x3 : Int32) (hh : HI HT h) (hj : JT h) (hR : RJ h) : ∃ (r1 r2 : Int32) (h1 h2 : List pC), Run prog E pV1 120 mX7_rubbing [.ref 0, .int x1, .int x2, .int x3] h (some (.int r1), h1, 0, 0) ∧ Run prog E pV1 120 mX8_rubbing [.ref 110, .int x1, .int x2, .int x3] h1 (some (.int r2), h2, 0, 0) ∧ (∃ o, pobj h1 110 = some o ∧ o.1 = 8) ∧ HI HT h2 ∧ JT h2 ∧ RJ h2 := by
  have ex1 := i32_b x1
  have ex2 := i32_b x2
  have ex3 := i32_b x3
  have t34_5 := ty_34_5 hh hR
  by_cases c1 : (ri h 34 5).toInt ≤ 0
  · exact lf_rubbing0 x1 x2 x3 hh hj hR ⟨by omega, by omega⟩
  by_cases c2 : (ri h 34 5).toInt ≤ 1
  · exact lf_rubbing1 x1 x2 x3 hh hj hR ⟨by omega, by omega⟩
  by_cases c3 : (ri h 34 5).toInt ≤ 2
  · exact lf_rubbing2 x1 x2 x3 hh hj hR ⟨by omega, by omega⟩
  by_cases c4 : (ri h 34 5).toInt ≤ 3
  · exact lf_rubbing3 x1 x2 x3 hh hj hR ⟨by omega, by omega⟩
  by_cases c5 : (ri h 34 5).toInt ≤ 4
  · exact lf_rubbing4 x1 x2 x3 hh hj hR ⟨by omega, by omega⟩
  by_cases c6 : (ri h 34 5).toInt ≤ 5
  · exact lf_rubbing5 x1 x2 x3 hh hj hR ⟨by omega, by omega⟩
  by_cases c7 : (ri h 34 5).toInt ≤ 6
  · exact lf_rubbing6 x1 x2 x3 hh hj hR ⟨by omega, by omega⟩
  by_cases c8 : (ri h 34 5).toInt ≤ 7
  · exact lf_rubbing7 x1 x2 x3 hh hj hR ⟨by omega, by omega⟩
  by_cases c9 : (ri h 34 5).toInt ≤ 8
  · exact lf_rubbing8 x1 x2 x3 hh hj hR ⟨by omega, by omega⟩
  exact lf_rubbing9 x1 x2 x3 hh hj hR ⟨by omega, by omega⟩
theorem lw_told (x1 x2 : Int32) (hh : HI HT h) (hj : JT h) (hR : RJ h) : ∃ (r1 r2 : Int32) (h1 h2 : List pC), Run prog E pV1 120 mX7_told [.ref 0, .int x1, .int x2] h (some (.int r1), h1, 0, 0) ∧ Run prog E pV1 120 mX8_told [.ref 110, .int x1, .int x2] h1 (some (.int r2), h2, 0, 0) ∧ (∃ o, pobj h1 110 = some o ∧ o.1 = 8) ∧ HI HT h2 ∧ JT h2 ∧ RJ h2 := by
  obtain ⟨r1, h1, q1, hh1, f1, hj1⟩ := pub_of (E := E) (a := 0) (kg_c_told JT_P hands) (N := mX7_told) rfl (List.cons_ne_nil _ _) [x1, x2] rfl (fun q => by cases q) (Nat.le_of_ble_eq_true rfl) hh hj
  obtain ⟨r2, h2, q2, hh2, f2, hj2⟩ := pub_of (E := E) (a := 110) (kg_r_told JT_P hands) (N := mX8_told) rfl (List.cons_ne_nil _ _) [x1, x2] rfl (fun q => by cases q) (Nat.le_of_ble_eq_true rfl) hh1 hj1
  exact ⟨r1, r2, h1, h2, q1, q2, mobj hh1, hh2, hj2, ⟨pRel_fr (pRel_fr hR.1 f1 (by decide +kernel)) f2 (by decide +kernel), cRel_fr (cRel_fr hR.2.1 f1 (by decide +kernel)) f2 (by decide +kernel), xj_fr (xj_fr hR.2.2 f1 (by decide +kernel)) f2 (by decide +kernel)⟩⟩
theorem lw_says (x1 x2 : Int32) (hh : HI HT h) (hj : JT h) (hR : RJ h) : ∃ (r1 r2 : Int32) (h1 h2 : List pC), Run prog E pV1 120 mX7_says [.ref 0, .int x1, .int x2] h (some (.int r1), h1, 0, 0) ∧ Run prog E pV1 120 mX8_says [.ref 110, .int x1, .int x2] h1 (some (.int r2), h2, 0, 0) ∧ (∃ o, pobj h1 110 = some o ∧ o.1 = 8) ∧ HI HT h2 ∧ JT h2 ∧ RJ h2 := by
  obtain ⟨r1, h1, q1, hh1, f1, hj1⟩ := pub_of (E := E) (a := 0) (kg_c_says JT_P hands) (N := mX7_says) rfl (List.cons_ne_nil _ _) [x1, x2] rfl (fun q => by cases q) (Nat.le_of_ble_eq_true rfl) hh hj
  obtain ⟨r2, h2, q2, hh2, f2, hj2⟩ := pub_of (E := E) (a := 110) (kg_r_says JT_P hands) (N := mX8_says) rfl (List.cons_ne_nil _ _) [x1, x2] rfl (fun q => by cases q) (Nat.le_of_ble_eq_true rfl) hh1 hj1
  exact ⟨r1, r2, h1, h2, q1, q2, mobj hh1, hh2, hj2, ⟨pRel_fr (pRel_fr hR.1 f1 (by decide +kernel)) f2 (by decide +kernel), cRel_fr (cRel_fr hR.2.1 f1 (by decide +kernel)) f2 (by decide +kernel), xj_fr (xj_fr hR.2.2 f1 (by decide +kernel)) f2 (by decide +kernel)⟩⟩
theorem lw_as (x1 x2 : Int32) (hh : HI HT h) (hj : JT h) (hR : RJ h) : ∃ (r1 r2 : Int32) (h1 h2 : List pC), Run prog E pV1 120 mX7_as [.ref 0, .int x1, .int x2] h (some (.int r1), h1, 0, 0) ∧ Run prog E pV1 120 mX8_as [.ref 110, .int x1, .int x2] h1 (some (.int r2), h2, 0, 0) ∧ (∃ o, pobj h1 110 = some o ∧ o.1 = 8) ∧ HI HT h2 ∧ JT h2 ∧ RJ h2 := by
  obtain ⟨r1, h1, q1, hh1, f1, hj1⟩ := pub_of (E := E) (a := 0) (kg_c_as JT_P hands) (N := mX7_as) rfl (List.cons_ne_nil _ _) [x1, x2] rfl (fun q => by cases q) (Nat.le_of_ble_eq_true rfl) hh hj
  obtain ⟨r2, h2, q2, hh2, f2, hj2⟩ := pub_of (E := E) (a := 110) (kg_r_as JT_P hands) (N := mX8_as) rfl (List.cons_ne_nil _ _) [x1, x2] rfl (fun q => by cases q) (Nat.le_of_ble_eq_true rfl) hh1 hj1
  exact ⟨r1, r2, h1, h2, q1, q2, mobj hh1, hh2, hj2, ⟨pRel_fr (pRel_fr hR.1 f1 (by decide +kernel)) f2 (by decide +kernel), cRel_fr (cRel_fr hR.2.1 f1 (by decide +kernel)) f2 (by decide +kernel), xj_fr (xj_fr hR.2.2 f1 (by decide +kernel)) f2 (by decide +kernel)⟩⟩
theorem lf_turns0n (x1 x2 : Int32) (hh : HI HT h) (hj : JT h) (hR : RJ h) (a1 : 0 ≤ x1.toInt ∧ x1.toInt ≤ 0) (b34_5 : 0 ≤ (ri h 34 5).toInt ∧ (ri h 34 5).toInt ≤ 0) : ∃ (r1 r2 : Int32) (h1 h2 : List pC), Run prog E pV1 120 mX7_turns [.ref 0, .int x1, .int x2] h (some (.int r1), h1, 0, 0) ∧ Run prog E pV1 120 mX8_turns [.ref 110, .int x1, .int x2] h1 (some (.int r2), h2, 0, 0) ∧ (∃ o, pobj h1 110 = some o ∧ o.1 = 8) ∧ HI HT h2 ∧ JT h2 ∧ RJ h2 := by
  obtain ⟨r1, r2, h1, h2, q1, q2, q3, p1, p2, p3, p4⟩ := po_ok2 (E := E) (x1 := x1) (x2 := x2) cp_turns0n rfl rfl (List.cons_ne_nil _ _) (List.cons_ne_nil _ _) (fun _ h => absurd h List.not_mem_nil) hh hj hR.1 hR.2.1 ⟨a1, i32_b x2, trivial⟩ (pBd.cs b34_5.1 b34_5.2 pBd.nl) (fun e he => by cases he)
  exact ⟨r1, r2, h1, h2, q1, q2, q3, p1, p2, p3.1, p3.2, xj_fr hR.2.2 p4 (by decide +kernel)⟩
theorem lf_turns0y (x1 x2 : Int32) (hh : HI HT h) (hj : JT h) (hR : RJ h) (a1 : 0 ≤ x1.toInt ∧ x1.toInt ≤ 0) (b34_5 : 1 ≤ (ri h 34 5).toInt ∧ (ri h 34 5).toInt ≤ 9) : ∃ (r1 r2 : Int32) (h1 h2 : List pC), Run prog E pV1 120 mX7_turns [.ref 0, .int x1, .int x2] h (some (.int r1), h1, 0, 0) ∧ Run prog E pV1 120 mX8_turns [.ref 110, .int x1, .int x2] h1 (some (.int r2), h2, 0, 0) ∧ (∃ o, pobj h1 110 = some o ∧ o.1 = 8) ∧ HI HT h2 ∧ JT h2 ∧ RJ h2 := by
  obtain ⟨r1, r2, h1, h2, q1, q2, q3, p1, p2, p3, p4⟩ := po_ok2 (E := E) (x1 := x1) (x2 := x2) cp_turns0y rfl rfl (List.cons_ne_nil _ _) (List.cons_ne_nil _ _) (fun _ h => absurd h List.not_mem_nil) hh hj hR.1 hR.2.1 ⟨a1, i32_b x2, trivial⟩ (pBd.cs b34_5.1 b34_5.2 (pBd.cs (i32_b (ri h 39 0)).1 (i32_b (ri h 39 0)).2 pBd.nl)) (fun e he => by cases he)
  exact ⟨r1, r2, h1, h2, q1, q2, q3, p1, p2, p3.1, p3.2, xj_fr hR.2.2 p4 (by decide +kernel)⟩
theorem lf_turns1n (x1 x2 : Int32) (hh : HI HT h) (hj : JT h) (hR : RJ h) (a1 : 1 ≤ x1.toInt ∧ x1.toInt ≤ 1) (b34_5 : 0 ≤ (ri h 34 5).toInt ∧ (ri h 34 5).toInt ≤ 1) : ∃ (r1 r2 : Int32) (h1 h2 : List pC), Run prog E pV1 120 mX7_turns [.ref 0, .int x1, .int x2] h (some (.int r1), h1, 0, 0) ∧ Run prog E pV1 120 mX8_turns [.ref 110, .int x1, .int x2] h1 (some (.int r2), h2, 0, 0) ∧ (∃ o, pobj h1 110 = some o ∧ o.1 = 8) ∧ HI HT h2 ∧ JT h2 ∧ RJ h2 := by
  obtain ⟨r1, r2, h1, h2, q1, q2, q3, p1, p2, p3, p4⟩ := po_ok2 (E := E) (x1 := x1) (x2 := x2) cp_turns1n rfl rfl (List.cons_ne_nil _ _) (List.cons_ne_nil _ _) (fun _ h => absurd h List.not_mem_nil) hh hj hR.1 hR.2.1 ⟨a1, i32_b x2, trivial⟩ (pBd.cs b34_5.1 b34_5.2 pBd.nl) (fun e he => by cases he)
  exact ⟨r1, r2, h1, h2, q1, q2, q3, p1, p2, p3.1, p3.2, xj_fr hR.2.2 p4 (by decide +kernel)⟩
theorem lf_turns1y (x1 x2 : Int32) (hh : HI HT h) (hj : JT h) (hR : RJ h) (a1 : 1 ≤ x1.toInt ∧ x1.toInt ≤ 1) (b34_5 : 2 ≤ (ri h 34 5).toInt ∧ (ri h 34 5).toInt ≤ 9) : ∃ (r1 r2 : Int32) (h1 h2 : List pC), Run prog E pV1 120 mX7_turns [.ref 0, .int x1, .int x2] h (some (.int r1), h1, 0, 0) ∧ Run prog E pV1 120 mX8_turns [.ref 110, .int x1, .int x2] h1 (some (.int r2), h2, 0, 0) ∧ (∃ o, pobj h1 110 = some o ∧ o.1 = 8) ∧ HI HT h2 ∧ JT h2 ∧ RJ h2 := by
  obtain ⟨r1, r2, h1, h2, q1, q2, q3, p1, p2, p3, p4⟩ := po_ok2 (E := E) (x1 := x1) (x2 := x2) cp_turns1y rfl rfl (List.cons_ne_nil _ _) (List.cons_ne_nil _ _) (fun _ h => absurd h List.not_mem_nil) hh hj hR.1 hR.2.1 ⟨a1, i32_b x2, trivial⟩ (pBd.cs b34_5.1 b34_5.2 (pBd.cs (i32_b (ri h 40 0)).1 (i32_b (ri h 40 0)).2 pBd.nl)) (fun e he => by cases he)
  exact ⟨r1, r2, h1, h2, q1, q2, q3, p1, p2, p3.1, p3.2, xj_fr hR.2.2 p4 (by decide +kernel)⟩
theorem lf_turns2n (x1 x2 : Int32) (hh : HI HT h) (hj : JT h) (hR : RJ h) (a1 : 2 ≤ x1.toInt ∧ x1.toInt ≤ 2) (b34_5 : 0 ≤ (ri h 34 5).toInt ∧ (ri h 34 5).toInt ≤ 2) : ∃ (r1 r2 : Int32) (h1 h2 : List pC), Run prog E pV1 120 mX7_turns [.ref 0, .int x1, .int x2] h (some (.int r1), h1, 0, 0) ∧ Run prog E pV1 120 mX8_turns [.ref 110, .int x1, .int x2] h1 (some (.int r2), h2, 0, 0) ∧ (∃ o, pobj h1 110 = some o ∧ o.1 = 8) ∧ HI HT h2 ∧ JT h2 ∧ RJ h2 := by
  obtain ⟨r1, r2, h1, h2, q1, q2, q3, p1, p2, p3, p4⟩ := po_ok2 (E := E) (x1 := x1) (x2 := x2) cp_turns2n rfl rfl (List.cons_ne_nil _ _) (List.cons_ne_nil _ _) (fun _ h => absurd h List.not_mem_nil) hh hj hR.1 hR.2.1 ⟨a1, i32_b x2, trivial⟩ (pBd.cs b34_5.1 b34_5.2 pBd.nl) (fun e he => by cases he)
  exact ⟨r1, r2, h1, h2, q1, q2, q3, p1, p2, p3.1, p3.2, xj_fr hR.2.2 p4 (by decide +kernel)⟩
theorem lf_turns2y (x1 x2 : Int32) (hh : HI HT h) (hj : JT h) (hR : RJ h) (a1 : 2 ≤ x1.toInt ∧ x1.toInt ≤ 2) (b34_5 : 3 ≤ (ri h 34 5).toInt ∧ (ri h 34 5).toInt ≤ 9) : ∃ (r1 r2 : Int32) (h1 h2 : List pC), Run prog E pV1 120 mX7_turns [.ref 0, .int x1, .int x2] h (some (.int r1), h1, 0, 0) ∧ Run prog E pV1 120 mX8_turns [.ref 110, .int x1, .int x2] h1 (some (.int r2), h2, 0, 0) ∧ (∃ o, pobj h1 110 = some o ∧ o.1 = 8) ∧ HI HT h2 ∧ JT h2 ∧ RJ h2 := by
  obtain ⟨r1, r2, h1, h2, q1, q2, q3, p1, p2, p3, p4⟩ := po_ok2 (E := E) (x1 := x1) (x2 := x2) cp_turns2y rfl rfl (List.cons_ne_nil _ _) (List.cons_ne_nil _ _) (fun _ h => absurd h List.not_mem_nil) hh hj hR.1 hR.2.1 ⟨a1, i32_b x2, trivial⟩ (pBd.cs b34_5.1 b34_5.2 (pBd.cs (i32_b (ri h 41 0)).1 (i32_b (ri h 41 0)).2 pBd.nl)) (fun e he => by cases he)
  exact ⟨r1, r2, h1, h2, q1, q2, q3, p1, p2, p3.1, p3.2, xj_fr hR.2.2 p4 (by decide +kernel)⟩
theorem lf_turns3n (x1 x2 : Int32) (hh : HI HT h) (hj : JT h) (hR : RJ h) (a1 : 3 ≤ x1.toInt ∧ x1.toInt ≤ 3) (b34_5 : 0 ≤ (ri h 34 5).toInt ∧ (ri h 34 5).toInt ≤ 3) : ∃ (r1 r2 : Int32) (h1 h2 : List pC), Run prog E pV1 120 mX7_turns [.ref 0, .int x1, .int x2] h (some (.int r1), h1, 0, 0) ∧ Run prog E pV1 120 mX8_turns [.ref 110, .int x1, .int x2] h1 (some (.int r2), h2, 0, 0) ∧ (∃ o, pobj h1 110 = some o ∧ o.1 = 8) ∧ HI HT h2 ∧ JT h2 ∧ RJ h2 := by
  obtain ⟨r1, r2, h1, h2, q1, q2, q3, p1, p2, p3, p4⟩ := po_ok2 (E := E) (x1 := x1) (x2 := x2) cp_turns3n rfl rfl (List.cons_ne_nil _ _) (List.cons_ne_nil _ _) (fun _ h => absurd h List.not_mem_nil) hh hj hR.1 hR.2.1 ⟨a1, i32_b x2, trivial⟩ (pBd.cs b34_5.1 b34_5.2 pBd.nl) (fun e he => by cases he)
  exact ⟨r1, r2, h1, h2, q1, q2, q3, p1, p2, p3.1, p3.2, xj_fr hR.2.2 p4 (by decide +kernel)⟩
theorem lf_turns3y (x1 x2 : Int32) (hh : HI HT h) (hj : JT h) (hR : RJ h) (a1 : 3 ≤ x1.toInt ∧ x1.toInt ≤ 3) (b34_5 : 4 ≤ (ri h 34 5).toInt ∧ (ri h 34 5).toInt ≤ 9) : ∃ (r1 r2 : Int32) (h1 h2 : List pC), Run prog E pV1 120 mX7_turns [.ref 0, .int x1, .int x2] h (some (.int r1), h1, 0, 0) ∧ Run prog E pV1 120 mX8_turns [.ref 110, .int x1, .int x2] h1 (some (.int r2), h2, 0, 0) ∧ (∃ o, pobj h1 110 = some o ∧ o.1 = 8) ∧ HI HT h2 ∧ JT h2 ∧ RJ h2 := by
  obtain ⟨r1, r2, h1, h2, q1, q2, q3, p1, p2, p3, p4⟩ := po_ok2 (E := E) (x1 := x1) (x2 := x2) cp_turns3y rfl rfl (List.cons_ne_nil _ _) (List.cons_ne_nil _ _) (fun _ h => absurd h List.not_mem_nil) hh hj hR.1 hR.2.1 ⟨a1, i32_b x2, trivial⟩ (pBd.cs b34_5.1 b34_5.2 (pBd.cs (i32_b (ri h 42 0)).1 (i32_b (ri h 42 0)).2 pBd.nl)) (fun e he => by cases he)
  exact ⟨r1, r2, h1, h2, q1, q2, q3, p1, p2, p3.1, p3.2, xj_fr hR.2.2 p4 (by decide +kernel)⟩
theorem lf_turns4n (x1 x2 : Int32) (hh : HI HT h) (hj : JT h) (hR : RJ h) (a1 : 4 ≤ x1.toInt ∧ x1.toInt ≤ 4) (b34_5 : 0 ≤ (ri h 34 5).toInt ∧ (ri h 34 5).toInt ≤ 4) : ∃ (r1 r2 : Int32) (h1 h2 : List pC), Run prog E pV1 120 mX7_turns [.ref 0, .int x1, .int x2] h (some (.int r1), h1, 0, 0) ∧ Run prog E pV1 120 mX8_turns [.ref 110, .int x1, .int x2] h1 (some (.int r2), h2, 0, 0) ∧ (∃ o, pobj h1 110 = some o ∧ o.1 = 8) ∧ HI HT h2 ∧ JT h2 ∧ RJ h2 := by
  obtain ⟨r1, r2, h1, h2, q1, q2, q3, p1, p2, p3, p4⟩ := po_ok2 (E := E) (x1 := x1) (x2 := x2) cp_turns4n rfl rfl (List.cons_ne_nil _ _) (List.cons_ne_nil _ _) (fun _ h => absurd h List.not_mem_nil) hh hj hR.1 hR.2.1 ⟨a1, i32_b x2, trivial⟩ (pBd.cs b34_5.1 b34_5.2 pBd.nl) (fun e he => by cases he)
  exact ⟨r1, r2, h1, h2, q1, q2, q3, p1, p2, p3.1, p3.2, xj_fr hR.2.2 p4 (by decide +kernel)⟩
theorem lf_turns4y (x1 x2 : Int32) (hh : HI HT h) (hj : JT h) (hR : RJ h) (a1 : 4 ≤ x1.toInt ∧ x1.toInt ≤ 4) (b34_5 : 5 ≤ (ri h 34 5).toInt ∧ (ri h 34 5).toInt ≤ 9) : ∃ (r1 r2 : Int32) (h1 h2 : List pC), Run prog E pV1 120 mX7_turns [.ref 0, .int x1, .int x2] h (some (.int r1), h1, 0, 0) ∧ Run prog E pV1 120 mX8_turns [.ref 110, .int x1, .int x2] h1 (some (.int r2), h2, 0, 0) ∧ (∃ o, pobj h1 110 = some o ∧ o.1 = 8) ∧ HI HT h2 ∧ JT h2 ∧ RJ h2 := by
  obtain ⟨r1, r2, h1, h2, q1, q2, q3, p1, p2, p3, p4⟩ := po_ok2 (E := E) (x1 := x1) (x2 := x2) cp_turns4y rfl rfl (List.cons_ne_nil _ _) (List.cons_ne_nil _ _) (fun _ h => absurd h List.not_mem_nil) hh hj hR.1 hR.2.1 ⟨a1, i32_b x2, trivial⟩ (pBd.cs b34_5.1 b34_5.2 (pBd.cs (i32_b (ri h 43 0)).1 (i32_b (ri h 43 0)).2 pBd.nl)) (fun e he => by cases he)
  exact ⟨r1, r2, h1, h2, q1, q2, q3, p1, p2, p3.1, p3.2, xj_fr hR.2.2 p4 (by decide +kernel)⟩
theorem lf_turns5n (x1 x2 : Int32) (hh : HI HT h) (hj : JT h) (hR : RJ h) (a1 : 5 ≤ x1.toInt ∧ x1.toInt ≤ 5) (b34_5 : 0 ≤ (ri h 34 5).toInt ∧ (ri h 34 5).toInt ≤ 5) : ∃ (r1 r2 : Int32) (h1 h2 : List pC), Run prog E pV1 120 mX7_turns [.ref 0, .int x1, .int x2] h (some (.int r1), h1, 0, 0) ∧ Run prog E pV1 120 mX8_turns [.ref 110, .int x1, .int x2] h1 (some (.int r2), h2, 0, 0) ∧ (∃ o, pobj h1 110 = some o ∧ o.1 = 8) ∧ HI HT h2 ∧ JT h2 ∧ RJ h2 := by
  obtain ⟨r1, r2, h1, h2, q1, q2, q3, p1, p2, p3, p4⟩ := po_ok2 (E := E) (x1 := x1) (x2 := x2) cp_turns5n rfl rfl (List.cons_ne_nil _ _) (List.cons_ne_nil _ _) (fun _ h => absurd h List.not_mem_nil) hh hj hR.1 hR.2.1 ⟨a1, i32_b x2, trivial⟩ (pBd.cs b34_5.1 b34_5.2 pBd.nl) (fun e he => by cases he)
  exact ⟨r1, r2, h1, h2, q1, q2, q3, p1, p2, p3.1, p3.2, xj_fr hR.2.2 p4 (by decide +kernel)⟩
theorem lf_turns5y (x1 x2 : Int32) (hh : HI HT h) (hj : JT h) (hR : RJ h) (a1 : 5 ≤ x1.toInt ∧ x1.toInt ≤ 5) (b34_5 : 6 ≤ (ri h 34 5).toInt ∧ (ri h 34 5).toInt ≤ 9) : ∃ (r1 r2 : Int32) (h1 h2 : List pC), Run prog E pV1 120 mX7_turns [.ref 0, .int x1, .int x2] h (some (.int r1), h1, 0, 0) ∧ Run prog E pV1 120 mX8_turns [.ref 110, .int x1, .int x2] h1 (some (.int r2), h2, 0, 0) ∧ (∃ o, pobj h1 110 = some o ∧ o.1 = 8) ∧ HI HT h2 ∧ JT h2 ∧ RJ h2 := by
  obtain ⟨r1, r2, h1, h2, q1, q2, q3, p1, p2, p3, p4⟩ := po_ok2 (E := E) (x1 := x1) (x2 := x2) cp_turns5y rfl rfl (List.cons_ne_nil _ _) (List.cons_ne_nil _ _) (fun _ h => absurd h List.not_mem_nil) hh hj hR.1 hR.2.1 ⟨a1, i32_b x2, trivial⟩ (pBd.cs b34_5.1 b34_5.2 (pBd.cs (i32_b (ri h 44 0)).1 (i32_b (ri h 44 0)).2 pBd.nl)) (fun e he => by cases he)
  exact ⟨r1, r2, h1, h2, q1, q2, q3, p1, p2, p3.1, p3.2, xj_fr hR.2.2 p4 (by decide +kernel)⟩
theorem lf_turns6n (x1 x2 : Int32) (hh : HI HT h) (hj : JT h) (hR : RJ h) (a1 : 6 ≤ x1.toInt ∧ x1.toInt ≤ 6) (b34_5 : 0 ≤ (ri h 34 5).toInt ∧ (ri h 34 5).toInt ≤ 6) : ∃ (r1 r2 : Int32) (h1 h2 : List pC), Run prog E pV1 120 mX7_turns [.ref 0, .int x1, .int x2] h (some (.int r1), h1, 0, 0) ∧ Run prog E pV1 120 mX8_turns [.ref 110, .int x1, .int x2] h1 (some (.int r2), h2, 0, 0) ∧ (∃ o, pobj h1 110 = some o ∧ o.1 = 8) ∧ HI HT h2 ∧ JT h2 ∧ RJ h2 := by
  obtain ⟨r1, r2, h1, h2, q1, q2, q3, p1, p2, p3, p4⟩ := po_ok2 (E := E) (x1 := x1) (x2 := x2) cp_turns6n rfl rfl (List.cons_ne_nil _ _) (List.cons_ne_nil _ _) (fun _ h => absurd h List.not_mem_nil) hh hj hR.1 hR.2.1 ⟨a1, i32_b x2, trivial⟩ (pBd.cs b34_5.1 b34_5.2 pBd.nl) (fun e he => by cases he)
  exact ⟨r1, r2, h1, h2, q1, q2, q3, p1, p2, p3.1, p3.2, xj_fr hR.2.2 p4 (by decide +kernel)⟩
theorem lf_turns6y (x1 x2 : Int32) (hh : HI HT h) (hj : JT h) (hR : RJ h) (a1 : 6 ≤ x1.toInt ∧ x1.toInt ≤ 6) (b34_5 : 7 ≤ (ri h 34 5).toInt ∧ (ri h 34 5).toInt ≤ 9) : ∃ (r1 r2 : Int32) (h1 h2 : List pC), Run prog E pV1 120 mX7_turns [.ref 0, .int x1, .int x2] h (some (.int r1), h1, 0, 0) ∧ Run prog E pV1 120 mX8_turns [.ref 110, .int x1, .int x2] h1 (some (.int r2), h2, 0, 0) ∧ (∃ o, pobj h1 110 = some o ∧ o.1 = 8) ∧ HI HT h2 ∧ JT h2 ∧ RJ h2 := by
  obtain ⟨r1, r2, h1, h2, q1, q2, q3, p1, p2, p3, p4⟩ := po_ok2 (E := E) (x1 := x1) (x2 := x2) cp_turns6y rfl rfl (List.cons_ne_nil _ _) (List.cons_ne_nil _ _) (fun _ h => absurd h List.not_mem_nil) hh hj hR.1 hR.2.1 ⟨a1, i32_b x2, trivial⟩ (pBd.cs b34_5.1 b34_5.2 (pBd.cs (i32_b (ri h 45 0)).1 (i32_b (ri h 45 0)).2 pBd.nl)) (fun e he => by cases he)
  exact ⟨r1, r2, h1, h2, q1, q2, q3, p1, p2, p3.1, p3.2, xj_fr hR.2.2 p4 (by decide +kernel)⟩
theorem lf_turns7n (x1 x2 : Int32) (hh : HI HT h) (hj : JT h) (hR : RJ h) (a1 : 7 ≤ x1.toInt ∧ x1.toInt ≤ 7) (b34_5 : 0 ≤ (ri h 34 5).toInt ∧ (ri h 34 5).toInt ≤ 7) : ∃ (r1 r2 : Int32) (h1 h2 : List pC), Run prog E pV1 120 mX7_turns [.ref 0, .int x1, .int x2] h (some (.int r1), h1, 0, 0) ∧ Run prog E pV1 120 mX8_turns [.ref 110, .int x1, .int x2] h1 (some (.int r2), h2, 0, 0) ∧ (∃ o, pobj h1 110 = some o ∧ o.1 = 8) ∧ HI HT h2 ∧ JT h2 ∧ RJ h2 := by
  obtain ⟨r1, r2, h1, h2, q1, q2, q3, p1, p2, p3, p4⟩ := po_ok2 (E := E) (x1 := x1) (x2 := x2) cp_turns7n rfl rfl (List.cons_ne_nil _ _) (List.cons_ne_nil _ _) (fun _ h => absurd h List.not_mem_nil) hh hj hR.1 hR.2.1 ⟨a1, i32_b x2, trivial⟩ (pBd.cs b34_5.1 b34_5.2 pBd.nl) (fun e he => by cases he)
  exact ⟨r1, r2, h1, h2, q1, q2, q3, p1, p2, p3.1, p3.2, xj_fr hR.2.2 p4 (by decide +kernel)⟩
theorem lf_turns7y (x1 x2 : Int32) (hh : HI HT h) (hj : JT h) (hR : RJ h) (a1 : 7 ≤ x1.toInt ∧ x1.toInt ≤ 7) (b34_5 : 8 ≤ (ri h 34 5).toInt ∧ (ri h 34 5).toInt ≤ 9) : ∃ (r1 r2 : Int32) (h1 h2 : List pC), Run prog E pV1 120 mX7_turns [.ref 0, .int x1, .int x2] h (some (.int r1), h1, 0, 0) ∧ Run prog E pV1 120 mX8_turns [.ref 110, .int x1, .int x2] h1 (some (.int r2), h2, 0, 0) ∧ (∃ o, pobj h1 110 = some o ∧ o.1 = 8) ∧ HI HT h2 ∧ JT h2 ∧ RJ h2 := by
  obtain ⟨r1, r2, h1, h2, q1, q2, q3, p1, p2, p3, p4⟩ := po_ok2 (E := E) (x1 := x1) (x2 := x2) cp_turns7y rfl rfl (List.cons_ne_nil _ _) (List.cons_ne_nil _ _) (fun _ h => absurd h List.not_mem_nil) hh hj hR.1 hR.2.1 ⟨a1, i32_b x2, trivial⟩ (pBd.cs b34_5.1 b34_5.2 (pBd.cs (i32_b (ri h 46 0)).1 (i32_b (ri h 46 0)).2 pBd.nl)) (fun e he => by cases he)
  exact ⟨r1, r2, h1, h2, q1, q2, q3, p1, p2, p3.1, p3.2, xj_fr hR.2.2 p4 (by decide +kernel)⟩
theorem lf_turns8n (x1 x2 : Int32) (hh : HI HT h) (hj : JT h) (hR : RJ h) (a1 : 8 ≤ x1.toInt ∧ x1.toInt ≤ 8) (b34_5 : 0 ≤ (ri h 34 5).toInt ∧ (ri h 34 5).toInt ≤ 8) : ∃ (r1 r2 : Int32) (h1 h2 : List pC), Run prog E pV1 120 mX7_turns [.ref 0, .int x1, .int x2] h (some (.int r1), h1, 0, 0) ∧ Run prog E pV1 120 mX8_turns [.ref 110, .int x1, .int x2] h1 (some (.int r2), h2, 0, 0) ∧ (∃ o, pobj h1 110 = some o ∧ o.1 = 8) ∧ HI HT h2 ∧ JT h2 ∧ RJ h2 := by
  obtain ⟨r1, r2, h1, h2, q1, q2, q3, p1, p2, p3, p4⟩ := po_ok2 (E := E) (x1 := x1) (x2 := x2) cp_turns8n rfl rfl (List.cons_ne_nil _ _) (List.cons_ne_nil _ _) (fun _ h => absurd h List.not_mem_nil) hh hj hR.1 hR.2.1 ⟨a1, i32_b x2, trivial⟩ (pBd.cs b34_5.1 b34_5.2 pBd.nl) (fun e he => by cases he)
  exact ⟨r1, r2, h1, h2, q1, q2, q3, p1, p2, p3.1, p3.2, xj_fr hR.2.2 p4 (by decide +kernel)⟩
theorem lf_turns8y (x1 x2 : Int32) (hh : HI HT h) (hj : JT h) (hR : RJ h) (a1 : 8 ≤ x1.toInt ∧ x1.toInt ≤ 8) (b34_5 : 9 ≤ (ri h 34 5).toInt ∧ (ri h 34 5).toInt ≤ 9) : ∃ (r1 r2 : Int32) (h1 h2 : List pC), Run prog E pV1 120 mX7_turns [.ref 0, .int x1, .int x2] h (some (.int r1), h1, 0, 0) ∧ Run prog E pV1 120 mX8_turns [.ref 110, .int x1, .int x2] h1 (some (.int r2), h2, 0, 0) ∧ (∃ o, pobj h1 110 = some o ∧ o.1 = 8) ∧ HI HT h2 ∧ JT h2 ∧ RJ h2 := by
  obtain ⟨r1, r2, h1, h2, q1, q2, q3, p1, p2, p3, p4⟩ := po_ok2 (E := E) (x1 := x1) (x2 := x2) cp_turns8y rfl rfl (List.cons_ne_nil _ _) (List.cons_ne_nil _ _) (fun _ h => absurd h List.not_mem_nil) hh hj hR.1 hR.2.1 ⟨a1, i32_b x2, trivial⟩ (pBd.cs b34_5.1 b34_5.2 (pBd.cs (i32_b (ri h 47 0)).1 (i32_b (ri h 47 0)).2 pBd.nl)) (fun e he => by cases he)
  exact ⟨r1, r2, h1, h2, q1, q2, q3, p1, p2, p3.1, p3.2, xj_fr hR.2.2 p4 (by decide +kernel)⟩
theorem lf_turnsl (x1 x2 : Int32) (hh : HI HT h) (hj : JT h) (hR : RJ h) (a1 : (-2147483648) ≤ x1.toInt ∧ x1.toInt ≤ (-1)) : ∃ (r1 r2 : Int32) (h1 h2 : List pC), Run prog E pV1 120 mX7_turns [.ref 0, .int x1, .int x2] h (some (.int r1), h1, 0, 0) ∧ Run prog E pV1 120 mX8_turns [.ref 110, .int x1, .int x2] h1 (some (.int r2), h2, 0, 0) ∧ (∃ o, pobj h1 110 = some o ∧ o.1 = 8) ∧ HI HT h2 ∧ JT h2 ∧ RJ h2 := by
  obtain ⟨r1, r2, h1, h2, q1, q2, q3, p1, p2, p3, p4⟩ := po_ok2 (E := E) (x1 := x1) (x2 := x2) cp_turnsl rfl rfl (List.cons_ne_nil _ _) (List.cons_ne_nil _ _) (fun _ h => absurd h List.not_mem_nil) hh hj hR.1 hR.2.1 ⟨a1, i32_b x2, trivial⟩ pBd.nl (fun e he => by cases he)
  exact ⟨r1, r2, h1, h2, q1, q2, q3, p1, p2, p3.1, p3.2, xj_fr hR.2.2 p4 (by decide +kernel)⟩
theorem lf_turnsh (x1 x2 : Int32) (hh : HI HT h) (hj : JT h) (hR : RJ h) (a1 : 9 ≤ x1.toInt ∧ x1.toInt ≤ 2147483647) : ∃ (r1 r2 : Int32) (h1 h2 : List pC), Run prog E pV1 120 mX7_turns [.ref 0, .int x1, .int x2] h (some (.int r1), h1, 0, 0) ∧ Run prog E pV1 120 mX8_turns [.ref 110, .int x1, .int x2] h1 (some (.int r2), h2, 0, 0) ∧ (∃ o, pobj h1 110 = some o ∧ o.1 = 8) ∧ HI HT h2 ∧ JT h2 ∧ RJ h2 := by
  obtain ⟨r1, r2, h1, h2, q1, q2, q3, p1, p2, p3, p4⟩ := po_ok2 (E := E) (x1 := x1) (x2 := x2) cp_turnsh rfl rfl (List.cons_ne_nil _ _) (List.cons_ne_nil _ _) (fun _ h => absurd h List.not_mem_nil) hh hj hR.1 hR.2.1 ⟨a1, i32_b x2, trivial⟩ pBd.nl (fun e he => by cases he)
  exact ⟨r1, r2, h1, h2, q1, q2, q3, p1, p2, p3.1, p3.2, xj_fr hR.2.2 p4 (by decide +kernel)⟩
theorem lw_turns (x1 x2 : Int32) (hh : HI HT h) (hj : JT h) (hR : RJ h) : ∃ (r1 r2 : Int32) (h1 h2 : List pC), Run prog E pV1 120 mX7_turns [.ref 0, .int x1, .int x2] h (some (.int r1), h1, 0, 0) ∧ Run prog E pV1 120 mX8_turns [.ref 110, .int x1, .int x2] h1 (some (.int r2), h2, 0, 0) ∧ (∃ o, pobj h1 110 = some o ∧ o.1 = 8) ∧ HI HT h2 ∧ JT h2 ∧ RJ h2 := by
  have ex1 := i32_b x1
  have ex2 := i32_b x2
  have t34_5 := ty_34_5 hh hR
  by_cases c1 : x1.toInt ≤ (-1)
  · exact lf_turnsl x1 x2 hh hj hR ⟨by omega, by omega⟩
  by_cases c2 : x1.toInt ≤ 0
  · by_cases c3 : (ri h 34 5).toInt ≤ 0
    · exact lf_turns0n x1 x2 hh hj hR ⟨by omega, by omega⟩ ⟨by omega, by omega⟩
    exact lf_turns0y x1 x2 hh hj hR ⟨by omega, by omega⟩ ⟨by omega, by omega⟩
  by_cases c4 : x1.toInt ≤ 1
  · by_cases c5 : (ri h 34 5).toInt ≤ 1
    · exact lf_turns1n x1 x2 hh hj hR ⟨by omega, by omega⟩ ⟨by omega, by omega⟩
    exact lf_turns1y x1 x2 hh hj hR ⟨by omega, by omega⟩ ⟨by omega, by omega⟩
  by_cases c6 : x1.toInt ≤ 2
  · by_cases c7 : (ri h 34 5).toInt ≤ 2
    · exact lf_turns2n x1 x2 hh hj hR ⟨by omega, by omega⟩ ⟨by omega, by omega⟩
    exact lf_turns2y x1 x2 hh hj hR ⟨by omega, by omega⟩ ⟨by omega, by omega⟩
  by_cases c8 : x1.toInt ≤ 3
  · by_cases c9 : (ri h 34 5).toInt ≤ 3
    · exact lf_turns3n x1 x2 hh hj hR ⟨by omega, by omega⟩ ⟨by omega, by omega⟩
    exact lf_turns3y x1 x2 hh hj hR ⟨by omega, by omega⟩ ⟨by omega, by omega⟩
  by_cases c10 : x1.toInt ≤ 4
  · by_cases c11 : (ri h 34 5).toInt ≤ 4
    · exact lf_turns4n x1 x2 hh hj hR ⟨by omega, by omega⟩ ⟨by omega, by omega⟩
    exact lf_turns4y x1 x2 hh hj hR ⟨by omega, by omega⟩ ⟨by omega, by omega⟩
  by_cases c12 : x1.toInt ≤ 5
  · by_cases c13 : (ri h 34 5).toInt ≤ 5
    · exact lf_turns5n x1 x2 hh hj hR ⟨by omega, by omega⟩ ⟨by omega, by omega⟩
    exact lf_turns5y x1 x2 hh hj hR ⟨by omega, by omega⟩ ⟨by omega, by omega⟩
  by_cases c14 : x1.toInt ≤ 6
  · by_cases c15 : (ri h 34 5).toInt ≤ 6
    · exact lf_turns6n x1 x2 hh hj hR ⟨by omega, by omega⟩ ⟨by omega, by omega⟩
    exact lf_turns6y x1 x2 hh hj hR ⟨by omega, by omega⟩ ⟨by omega, by omega⟩
  by_cases c16 : x1.toInt ≤ 7
  · by_cases c17 : (ri h 34 5).toInt ≤ 7
    · exact lf_turns7n x1 x2 hh hj hR ⟨by omega, by omega⟩ ⟨by omega, by omega⟩
    exact lf_turns7y x1 x2 hh hj hR ⟨by omega, by omega⟩ ⟨by omega, by omega⟩
  by_cases c18 : x1.toInt ≤ 8
  · by_cases c19 : (ri h 34 5).toInt ≤ 8
    · exact lf_turns8n x1 x2 hh hj hR ⟨by omega, by omega⟩ ⟨by omega, by omega⟩
    exact lf_turns8y x1 x2 hh hj hR ⟨by omega, by omega⟩ ⟨by omega, by omega⟩
  exact lf_turnsh x1 x2 hh hj hR ⟨by omega, by omega⟩
theorem lf_set0n (x1 x2 x3 : Int32) (hh : HI HT h) (hj : JT h) (hR : RJ h) (a1 : 0 ≤ x1.toInt ∧ x1.toInt ≤ 0) (b34_5 : 0 ≤ (ri h 34 5).toInt ∧ (ri h 34 5).toInt ≤ 0) : ∃ (r1 r2 : Int32) (h1 h2 : List pC), Run prog E pV1 120 mX7_set [.ref 0, .int x1, .int x2, .int x3] h (some (.int r1), h1, 0, 0) ∧ Run prog E pV1 120 mX8_set [.ref 110, .int x1, .int x2, .int x3] h1 (some (.int r2), h2, 0, 0) ∧ (∃ o, pobj h1 110 = some o ∧ o.1 = 8) ∧ HI HT h2 ∧ JT h2 ∧ RJ h2 := by
  obtain ⟨r1, r2, h1, h2, q1, q2, q3, p1, p2, p3, p4⟩ := po_ok3 (E := E) (x1 := x1) (x2 := x2) (x3 := x3) cp_set0n rfl rfl (List.cons_ne_nil _ _) (List.cons_ne_nil _ _) (fun _ h => absurd h List.not_mem_nil) hh hj hR.1 hR.2.1 ⟨a1, i32_b x2, i32_b x3, trivial⟩ (pBd.cs b34_5.1 b34_5.2 pBd.nl) (fun e he => by cases he)
  exact ⟨r1, r2, h1, h2, q1, q2, q3, p1, p2, p3.1, p3.2, xj_fr hR.2.2 p4 (by decide +kernel)⟩
theorem lf_set0y (x1 x2 x3 : Int32) (hh : HI HT h) (hj : JT h) (hR : RJ h) (a1 : 0 ≤ x1.toInt ∧ x1.toInt ≤ 0) (b34_5 : 1 ≤ (ri h 34 5).toInt ∧ (ri h 34 5).toInt ≤ 9) : ∃ (r1 r2 : Int32) (h1 h2 : List pC), Run prog E pV1 120 mX7_set [.ref 0, .int x1, .int x2, .int x3] h (some (.int r1), h1, 0, 0) ∧ Run prog E pV1 120 mX8_set [.ref 110, .int x1, .int x2, .int x3] h1 (some (.int r2), h2, 0, 0) ∧ (∃ o, pobj h1 110 = some o ∧ o.1 = 8) ∧ HI HT h2 ∧ JT h2 ∧ RJ h2 := by
  obtain ⟨r1, r2, h1, h2, q1, q2, q3, p1, p2, p3, p4⟩ := po_ok3 (E := E) (x1 := x1) (x2 := x2) (x3 := x3) cp_set0y rfl rfl (List.cons_ne_nil _ _) (List.cons_ne_nil _ _) (fun _ h => absurd h List.not_mem_nil) hh hj hR.1 hR.2.1 ⟨a1, i32_b x2, i32_b x3, trivial⟩ (pBd.cs b34_5.1 b34_5.2 (pBd.cs (i32_b (ri h 39 1)).1 (i32_b (ri h 39 1)).2 (pBd.cs (rub_ty (a := 39) hh rfl).1 (rub_ty (a := 39) hh rfl).2 (pBd.cs (i32_b (ri h 39 3)).1 (i32_b (ri h 39 3)).2 pBd.nl)))) (fun e he => by cases he)
  exact ⟨r1, r2, h1, h2, q1, q2, q3, p1, p2, p3.1, p3.2, xj_fr hR.2.2 p4 (by decide +kernel)⟩
theorem lf_set1n (x1 x2 x3 : Int32) (hh : HI HT h) (hj : JT h) (hR : RJ h) (a1 : 1 ≤ x1.toInt ∧ x1.toInt ≤ 1) (b34_5 : 0 ≤ (ri h 34 5).toInt ∧ (ri h 34 5).toInt ≤ 1) : ∃ (r1 r2 : Int32) (h1 h2 : List pC), Run prog E pV1 120 mX7_set [.ref 0, .int x1, .int x2, .int x3] h (some (.int r1), h1, 0, 0) ∧ Run prog E pV1 120 mX8_set [.ref 110, .int x1, .int x2, .int x3] h1 (some (.int r2), h2, 0, 0) ∧ (∃ o, pobj h1 110 = some o ∧ o.1 = 8) ∧ HI HT h2 ∧ JT h2 ∧ RJ h2 := by
  obtain ⟨r1, r2, h1, h2, q1, q2, q3, p1, p2, p3, p4⟩ := po_ok3 (E := E) (x1 := x1) (x2 := x2) (x3 := x3) cp_set1n rfl rfl (List.cons_ne_nil _ _) (List.cons_ne_nil _ _) (fun _ h => absurd h List.not_mem_nil) hh hj hR.1 hR.2.1 ⟨a1, i32_b x2, i32_b x3, trivial⟩ (pBd.cs b34_5.1 b34_5.2 pBd.nl) (fun e he => by cases he)
  exact ⟨r1, r2, h1, h2, q1, q2, q3, p1, p2, p3.1, p3.2, xj_fr hR.2.2 p4 (by decide +kernel)⟩
theorem lf_set1y (x1 x2 x3 : Int32) (hh : HI HT h) (hj : JT h) (hR : RJ h) (a1 : 1 ≤ x1.toInt ∧ x1.toInt ≤ 1) (b34_5 : 2 ≤ (ri h 34 5).toInt ∧ (ri h 34 5).toInt ≤ 9) : ∃ (r1 r2 : Int32) (h1 h2 : List pC), Run prog E pV1 120 mX7_set [.ref 0, .int x1, .int x2, .int x3] h (some (.int r1), h1, 0, 0) ∧ Run prog E pV1 120 mX8_set [.ref 110, .int x1, .int x2, .int x3] h1 (some (.int r2), h2, 0, 0) ∧ (∃ o, pobj h1 110 = some o ∧ o.1 = 8) ∧ HI HT h2 ∧ JT h2 ∧ RJ h2 := by
  obtain ⟨r1, r2, h1, h2, q1, q2, q3, p1, p2, p3, p4⟩ := po_ok3 (E := E) (x1 := x1) (x2 := x2) (x3 := x3) cp_set1y rfl rfl (List.cons_ne_nil _ _) (List.cons_ne_nil _ _) (fun _ h => absurd h List.not_mem_nil) hh hj hR.1 hR.2.1 ⟨a1, i32_b x2, i32_b x3, trivial⟩ (pBd.cs b34_5.1 b34_5.2 (pBd.cs (i32_b (ri h 40 1)).1 (i32_b (ri h 40 1)).2 (pBd.cs (rub_ty (a := 40) hh rfl).1 (rub_ty (a := 40) hh rfl).2 (pBd.cs (i32_b (ri h 40 3)).1 (i32_b (ri h 40 3)).2 pBd.nl)))) (fun e he => by cases he)
  exact ⟨r1, r2, h1, h2, q1, q2, q3, p1, p2, p3.1, p3.2, xj_fr hR.2.2 p4 (by decide +kernel)⟩
theorem lf_set2n (x1 x2 x3 : Int32) (hh : HI HT h) (hj : JT h) (hR : RJ h) (a1 : 2 ≤ x1.toInt ∧ x1.toInt ≤ 2) (b34_5 : 0 ≤ (ri h 34 5).toInt ∧ (ri h 34 5).toInt ≤ 2) : ∃ (r1 r2 : Int32) (h1 h2 : List pC), Run prog E pV1 120 mX7_set [.ref 0, .int x1, .int x2, .int x3] h (some (.int r1), h1, 0, 0) ∧ Run prog E pV1 120 mX8_set [.ref 110, .int x1, .int x2, .int x3] h1 (some (.int r2), h2, 0, 0) ∧ (∃ o, pobj h1 110 = some o ∧ o.1 = 8) ∧ HI HT h2 ∧ JT h2 ∧ RJ h2 := by
  obtain ⟨r1, r2, h1, h2, q1, q2, q3, p1, p2, p3, p4⟩ := po_ok3 (E := E) (x1 := x1) (x2 := x2) (x3 := x3) cp_set2n rfl rfl (List.cons_ne_nil _ _) (List.cons_ne_nil _ _) (fun _ h => absurd h List.not_mem_nil) hh hj hR.1 hR.2.1 ⟨a1, i32_b x2, i32_b x3, trivial⟩ (pBd.cs b34_5.1 b34_5.2 pBd.nl) (fun e he => by cases he)
  exact ⟨r1, r2, h1, h2, q1, q2, q3, p1, p2, p3.1, p3.2, xj_fr hR.2.2 p4 (by decide +kernel)⟩
theorem lf_set2y (x1 x2 x3 : Int32) (hh : HI HT h) (hj : JT h) (hR : RJ h) (a1 : 2 ≤ x1.toInt ∧ x1.toInt ≤ 2) (b34_5 : 3 ≤ (ri h 34 5).toInt ∧ (ri h 34 5).toInt ≤ 9) : ∃ (r1 r2 : Int32) (h1 h2 : List pC), Run prog E pV1 120 mX7_set [.ref 0, .int x1, .int x2, .int x3] h (some (.int r1), h1, 0, 0) ∧ Run prog E pV1 120 mX8_set [.ref 110, .int x1, .int x2, .int x3] h1 (some (.int r2), h2, 0, 0) ∧ (∃ o, pobj h1 110 = some o ∧ o.1 = 8) ∧ HI HT h2 ∧ JT h2 ∧ RJ h2 := by
  obtain ⟨r1, r2, h1, h2, q1, q2, q3, p1, p2, p3, p4⟩ := po_ok3 (E := E) (x1 := x1) (x2 := x2) (x3 := x3) cp_set2y rfl rfl (List.cons_ne_nil _ _) (List.cons_ne_nil _ _) (fun _ h => absurd h List.not_mem_nil) hh hj hR.1 hR.2.1 ⟨a1, i32_b x2, i32_b x3, trivial⟩ (pBd.cs b34_5.1 b34_5.2 (pBd.cs (i32_b (ri h 41 1)).1 (i32_b (ri h 41 1)).2 (pBd.cs (rub_ty (a := 41) hh rfl).1 (rub_ty (a := 41) hh rfl).2 (pBd.cs (i32_b (ri h 41 3)).1 (i32_b (ri h 41 3)).2 pBd.nl)))) (fun e he => by cases he)
  exact ⟨r1, r2, h1, h2, q1, q2, q3, p1, p2, p3.1, p3.2, xj_fr hR.2.2 p4 (by decide +kernel)⟩
theorem lf_set3n (x1 x2 x3 : Int32) (hh : HI HT h) (hj : JT h) (hR : RJ h) (a1 : 3 ≤ x1.toInt ∧ x1.toInt ≤ 3) (b34_5 : 0 ≤ (ri h 34 5).toInt ∧ (ri h 34 5).toInt ≤ 3) : ∃ (r1 r2 : Int32) (h1 h2 : List pC), Run prog E pV1 120 mX7_set [.ref 0, .int x1, .int x2, .int x3] h (some (.int r1), h1, 0, 0) ∧ Run prog E pV1 120 mX8_set [.ref 110, .int x1, .int x2, .int x3] h1 (some (.int r2), h2, 0, 0) ∧ (∃ o, pobj h1 110 = some o ∧ o.1 = 8) ∧ HI HT h2 ∧ JT h2 ∧ RJ h2 := by
  obtain ⟨r1, r2, h1, h2, q1, q2, q3, p1, p2, p3, p4⟩ := po_ok3 (E := E) (x1 := x1) (x2 := x2) (x3 := x3) cp_set3n rfl rfl (List.cons_ne_nil _ _) (List.cons_ne_nil _ _) (fun _ h => absurd h List.not_mem_nil) hh hj hR.1 hR.2.1 ⟨a1, i32_b x2, i32_b x3, trivial⟩ (pBd.cs b34_5.1 b34_5.2 pBd.nl) (fun e he => by cases he)
  exact ⟨r1, r2, h1, h2, q1, q2, q3, p1, p2, p3.1, p3.2, xj_fr hR.2.2 p4 (by decide +kernel)⟩
theorem lf_set3y (x1 x2 x3 : Int32) (hh : HI HT h) (hj : JT h) (hR : RJ h) (a1 : 3 ≤ x1.toInt ∧ x1.toInt ≤ 3) (b34_5 : 4 ≤ (ri h 34 5).toInt ∧ (ri h 34 5).toInt ≤ 9) : ∃ (r1 r2 : Int32) (h1 h2 : List pC), Run prog E pV1 120 mX7_set [.ref 0, .int x1, .int x2, .int x3] h (some (.int r1), h1, 0, 0) ∧ Run prog E pV1 120 mX8_set [.ref 110, .int x1, .int x2, .int x3] h1 (some (.int r2), h2, 0, 0) ∧ (∃ o, pobj h1 110 = some o ∧ o.1 = 8) ∧ HI HT h2 ∧ JT h2 ∧ RJ h2 := by
  obtain ⟨r1, r2, h1, h2, q1, q2, q3, p1, p2, p3, p4⟩ := po_ok3 (E := E) (x1 := x1) (x2 := x2) (x3 := x3) cp_set3y rfl rfl (List.cons_ne_nil _ _) (List.cons_ne_nil _ _) (fun _ h => absurd h List.not_mem_nil) hh hj hR.1 hR.2.1 ⟨a1, i32_b x2, i32_b x3, trivial⟩ (pBd.cs b34_5.1 b34_5.2 (pBd.cs (i32_b (ri h 42 1)).1 (i32_b (ri h 42 1)).2 (pBd.cs (rub_ty (a := 42) hh rfl).1 (rub_ty (a := 42) hh rfl).2 (pBd.cs (i32_b (ri h 42 3)).1 (i32_b (ri h 42 3)).2 pBd.nl)))) (fun e he => by cases he)
  exact ⟨r1, r2, h1, h2, q1, q2, q3, p1, p2, p3.1, p3.2, xj_fr hR.2.2 p4 (by decide +kernel)⟩
theorem lf_set4n (x1 x2 x3 : Int32) (hh : HI HT h) (hj : JT h) (hR : RJ h) (a1 : 4 ≤ x1.toInt ∧ x1.toInt ≤ 4) (b34_5 : 0 ≤ (ri h 34 5).toInt ∧ (ri h 34 5).toInt ≤ 4) : ∃ (r1 r2 : Int32) (h1 h2 : List pC), Run prog E pV1 120 mX7_set [.ref 0, .int x1, .int x2, .int x3] h (some (.int r1), h1, 0, 0) ∧ Run prog E pV1 120 mX8_set [.ref 110, .int x1, .int x2, .int x3] h1 (some (.int r2), h2, 0, 0) ∧ (∃ o, pobj h1 110 = some o ∧ o.1 = 8) ∧ HI HT h2 ∧ JT h2 ∧ RJ h2 := by
  obtain ⟨r1, r2, h1, h2, q1, q2, q3, p1, p2, p3, p4⟩ := po_ok3 (E := E) (x1 := x1) (x2 := x2) (x3 := x3) cp_set4n rfl rfl (List.cons_ne_nil _ _) (List.cons_ne_nil _ _) (fun _ h => absurd h List.not_mem_nil) hh hj hR.1 hR.2.1 ⟨a1, i32_b x2, i32_b x3, trivial⟩ (pBd.cs b34_5.1 b34_5.2 pBd.nl) (fun e he => by cases he)
  exact ⟨r1, r2, h1, h2, q1, q2, q3, p1, p2, p3.1, p3.2, xj_fr hR.2.2 p4 (by decide +kernel)⟩
theorem lf_set4y (x1 x2 x3 : Int32) (hh : HI HT h) (hj : JT h) (hR : RJ h) (a1 : 4 ≤ x1.toInt ∧ x1.toInt ≤ 4) (b34_5 : 5 ≤ (ri h 34 5).toInt ∧ (ri h 34 5).toInt ≤ 9) : ∃ (r1 r2 : Int32) (h1 h2 : List pC), Run prog E pV1 120 mX7_set [.ref 0, .int x1, .int x2, .int x3] h (some (.int r1), h1, 0, 0) ∧ Run prog E pV1 120 mX8_set [.ref 110, .int x1, .int x2, .int x3] h1 (some (.int r2), h2, 0, 0) ∧ (∃ o, pobj h1 110 = some o ∧ o.1 = 8) ∧ HI HT h2 ∧ JT h2 ∧ RJ h2 := by
  obtain ⟨r1, r2, h1, h2, q1, q2, q3, p1, p2, p3, p4⟩ := po_ok3 (E := E) (x1 := x1) (x2 := x2) (x3 := x3) cp_set4y rfl rfl (List.cons_ne_nil _ _) (List.cons_ne_nil _ _) (fun _ h => absurd h List.not_mem_nil) hh hj hR.1 hR.2.1 ⟨a1, i32_b x2, i32_b x3, trivial⟩ (pBd.cs b34_5.1 b34_5.2 (pBd.cs (i32_b (ri h 43 1)).1 (i32_b (ri h 43 1)).2 (pBd.cs (rub_ty (a := 43) hh rfl).1 (rub_ty (a := 43) hh rfl).2 (pBd.cs (i32_b (ri h 43 3)).1 (i32_b (ri h 43 3)).2 pBd.nl)))) (fun e he => by cases he)
  exact ⟨r1, r2, h1, h2, q1, q2, q3, p1, p2, p3.1, p3.2, xj_fr hR.2.2 p4 (by decide +kernel)⟩
theorem lf_set5n (x1 x2 x3 : Int32) (hh : HI HT h) (hj : JT h) (hR : RJ h) (a1 : 5 ≤ x1.toInt ∧ x1.toInt ≤ 5) (b34_5 : 0 ≤ (ri h 34 5).toInt ∧ (ri h 34 5).toInt ≤ 5) : ∃ (r1 r2 : Int32) (h1 h2 : List pC), Run prog E pV1 120 mX7_set [.ref 0, .int x1, .int x2, .int x3] h (some (.int r1), h1, 0, 0) ∧ Run prog E pV1 120 mX8_set [.ref 110, .int x1, .int x2, .int x3] h1 (some (.int r2), h2, 0, 0) ∧ (∃ o, pobj h1 110 = some o ∧ o.1 = 8) ∧ HI HT h2 ∧ JT h2 ∧ RJ h2 := by
  obtain ⟨r1, r2, h1, h2, q1, q2, q3, p1, p2, p3, p4⟩ := po_ok3 (E := E) (x1 := x1) (x2 := x2) (x3 := x3) cp_set5n rfl rfl (List.cons_ne_nil _ _) (List.cons_ne_nil _ _) (fun _ h => absurd h List.not_mem_nil) hh hj hR.1 hR.2.1 ⟨a1, i32_b x2, i32_b x3, trivial⟩ (pBd.cs b34_5.1 b34_5.2 pBd.nl) (fun e he => by cases he)
  exact ⟨r1, r2, h1, h2, q1, q2, q3, p1, p2, p3.1, p3.2, xj_fr hR.2.2 p4 (by decide +kernel)⟩
theorem lf_set5y (x1 x2 x3 : Int32) (hh : HI HT h) (hj : JT h) (hR : RJ h) (a1 : 5 ≤ x1.toInt ∧ x1.toInt ≤ 5) (b34_5 : 6 ≤ (ri h 34 5).toInt ∧ (ri h 34 5).toInt ≤ 9) : ∃ (r1 r2 : Int32) (h1 h2 : List pC), Run prog E pV1 120 mX7_set [.ref 0, .int x1, .int x2, .int x3] h (some (.int r1), h1, 0, 0) ∧ Run prog E pV1 120 mX8_set [.ref 110, .int x1, .int x2, .int x3] h1 (some (.int r2), h2, 0, 0) ∧ (∃ o, pobj h1 110 = some o ∧ o.1 = 8) ∧ HI HT h2 ∧ JT h2 ∧ RJ h2 := by
  obtain ⟨r1, r2, h1, h2, q1, q2, q3, p1, p2, p3, p4⟩ := po_ok3 (E := E) (x1 := x1) (x2 := x2) (x3 := x3) cp_set5y rfl rfl (List.cons_ne_nil _ _) (List.cons_ne_nil _ _) (fun _ h => absurd h List.not_mem_nil) hh hj hR.1 hR.2.1 ⟨a1, i32_b x2, i32_b x3, trivial⟩ (pBd.cs b34_5.1 b34_5.2 (pBd.cs (i32_b (ri h 44 1)).1 (i32_b (ri h 44 1)).2 (pBd.cs (rub_ty (a := 44) hh rfl).1 (rub_ty (a := 44) hh rfl).2 (pBd.cs (i32_b (ri h 44 3)).1 (i32_b (ri h 44 3)).2 pBd.nl)))) (fun e he => by cases he)
  exact ⟨r1, r2, h1, h2, q1, q2, q3, p1, p2, p3.1, p3.2, xj_fr hR.2.2 p4 (by decide +kernel)⟩
theorem lf_set6n (x1 x2 x3 : Int32) (hh : HI HT h) (hj : JT h) (hR : RJ h) (a1 : 6 ≤ x1.toInt ∧ x1.toInt ≤ 6) (b34_5 : 0 ≤ (ri h 34 5).toInt ∧ (ri h 34 5).toInt ≤ 6) : ∃ (r1 r2 : Int32) (h1 h2 : List pC), Run prog E pV1 120 mX7_set [.ref 0, .int x1, .int x2, .int x3] h (some (.int r1), h1, 0, 0) ∧ Run prog E pV1 120 mX8_set [.ref 110, .int x1, .int x2, .int x3] h1 (some (.int r2), h2, 0, 0) ∧ (∃ o, pobj h1 110 = some o ∧ o.1 = 8) ∧ HI HT h2 ∧ JT h2 ∧ RJ h2 := by
  obtain ⟨r1, r2, h1, h2, q1, q2, q3, p1, p2, p3, p4⟩ := po_ok3 (E := E) (x1 := x1) (x2 := x2) (x3 := x3) cp_set6n rfl rfl (List.cons_ne_nil _ _) (List.cons_ne_nil _ _) (fun _ h => absurd h List.not_mem_nil) hh hj hR.1 hR.2.1 ⟨a1, i32_b x2, i32_b x3, trivial⟩ (pBd.cs b34_5.1 b34_5.2 pBd.nl) (fun e he => by cases he)
  exact ⟨r1, r2, h1, h2, q1, q2, q3, p1, p2, p3.1, p3.2, xj_fr hR.2.2 p4 (by decide +kernel)⟩
theorem lf_set6y (x1 x2 x3 : Int32) (hh : HI HT h) (hj : JT h) (hR : RJ h) (a1 : 6 ≤ x1.toInt ∧ x1.toInt ≤ 6) (b34_5 : 7 ≤ (ri h 34 5).toInt ∧ (ri h 34 5).toInt ≤ 9) : ∃ (r1 r2 : Int32) (h1 h2 : List pC), Run prog E pV1 120 mX7_set [.ref 0, .int x1, .int x2, .int x3] h (some (.int r1), h1, 0, 0) ∧ Run prog E pV1 120 mX8_set [.ref 110, .int x1, .int x2, .int x3] h1 (some (.int r2), h2, 0, 0) ∧ (∃ o, pobj h1 110 = some o ∧ o.1 = 8) ∧ HI HT h2 ∧ JT h2 ∧ RJ h2 := by
  obtain ⟨r1, r2, h1, h2, q1, q2, q3, p1, p2, p3, p4⟩ := po_ok3 (E := E) (x1 := x1) (x2 := x2) (x3 := x3) cp_set6y rfl rfl (List.cons_ne_nil _ _) (List.cons_ne_nil _ _) (fun _ h => absurd h List.not_mem_nil) hh hj hR.1 hR.2.1 ⟨a1, i32_b x2, i32_b x3, trivial⟩ (pBd.cs b34_5.1 b34_5.2 (pBd.cs (i32_b (ri h 45 1)).1 (i32_b (ri h 45 1)).2 (pBd.cs (rub_ty (a := 45) hh rfl).1 (rub_ty (a := 45) hh rfl).2 (pBd.cs (i32_b (ri h 45 3)).1 (i32_b (ri h 45 3)).2 pBd.nl)))) (fun e he => by cases he)
  exact ⟨r1, r2, h1, h2, q1, q2, q3, p1, p2, p3.1, p3.2, xj_fr hR.2.2 p4 (by decide +kernel)⟩
theorem lf_set7n (x1 x2 x3 : Int32) (hh : HI HT h) (hj : JT h) (hR : RJ h) (a1 : 7 ≤ x1.toInt ∧ x1.toInt ≤ 7) (b34_5 : 0 ≤ (ri h 34 5).toInt ∧ (ri h 34 5).toInt ≤ 7) : ∃ (r1 r2 : Int32) (h1 h2 : List pC), Run prog E pV1 120 mX7_set [.ref 0, .int x1, .int x2, .int x3] h (some (.int r1), h1, 0, 0) ∧ Run prog E pV1 120 mX8_set [.ref 110, .int x1, .int x2, .int x3] h1 (some (.int r2), h2, 0, 0) ∧ (∃ o, pobj h1 110 = some o ∧ o.1 = 8) ∧ HI HT h2 ∧ JT h2 ∧ RJ h2 := by
  obtain ⟨r1, r2, h1, h2, q1, q2, q3, p1, p2, p3, p4⟩ := po_ok3 (E := E) (x1 := x1) (x2 := x2) (x3 := x3) cp_set7n rfl rfl (List.cons_ne_nil _ _) (List.cons_ne_nil _ _) (fun _ h => absurd h List.not_mem_nil) hh hj hR.1 hR.2.1 ⟨a1, i32_b x2, i32_b x3, trivial⟩ (pBd.cs b34_5.1 b34_5.2 pBd.nl) (fun e he => by cases he)
  exact ⟨r1, r2, h1, h2, q1, q2, q3, p1, p2, p3.1, p3.2, xj_fr hR.2.2 p4 (by decide +kernel)⟩
theorem lf_set7y (x1 x2 x3 : Int32) (hh : HI HT h) (hj : JT h) (hR : RJ h) (a1 : 7 ≤ x1.toInt ∧ x1.toInt ≤ 7) (b34_5 : 8 ≤ (ri h 34 5).toInt ∧ (ri h 34 5).toInt ≤ 9) : ∃ (r1 r2 : Int32) (h1 h2 : List pC), Run prog E pV1 120 mX7_set [.ref 0, .int x1, .int x2, .int x3] h (some (.int r1), h1, 0, 0) ∧ Run prog E pV1 120 mX8_set [.ref 110, .int x1, .int x2, .int x3] h1 (some (.int r2), h2, 0, 0) ∧ (∃ o, pobj h1 110 = some o ∧ o.1 = 8) ∧ HI HT h2 ∧ JT h2 ∧ RJ h2 := by
  obtain ⟨r1, r2, h1, h2, q1, q2, q3, p1, p2, p3, p4⟩ := po_ok3 (E := E) (x1 := x1) (x2 := x2) (x3 := x3) cp_set7y rfl rfl (List.cons_ne_nil _ _) (List.cons_ne_nil _ _) (fun _ h => absurd h List.not_mem_nil) hh hj hR.1 hR.2.1 ⟨a1, i32_b x2, i32_b x3, trivial⟩ (pBd.cs b34_5.1 b34_5.2 (pBd.cs (i32_b (ri h 46 1)).1 (i32_b (ri h 46 1)).2 (pBd.cs (rub_ty (a := 46) hh rfl).1 (rub_ty (a := 46) hh rfl).2 (pBd.cs (i32_b (ri h 46 3)).1 (i32_b (ri h 46 3)).2 pBd.nl)))) (fun e he => by cases he)
  exact ⟨r1, r2, h1, h2, q1, q2, q3, p1, p2, p3.1, p3.2, xj_fr hR.2.2 p4 (by decide +kernel)⟩
theorem lf_set8n (x1 x2 x3 : Int32) (hh : HI HT h) (hj : JT h) (hR : RJ h) (a1 : 8 ≤ x1.toInt ∧ x1.toInt ≤ 8) (b34_5 : 0 ≤ (ri h 34 5).toInt ∧ (ri h 34 5).toInt ≤ 8) : ∃ (r1 r2 : Int32) (h1 h2 : List pC), Run prog E pV1 120 mX7_set [.ref 0, .int x1, .int x2, .int x3] h (some (.int r1), h1, 0, 0) ∧ Run prog E pV1 120 mX8_set [.ref 110, .int x1, .int x2, .int x3] h1 (some (.int r2), h2, 0, 0) ∧ (∃ o, pobj h1 110 = some o ∧ o.1 = 8) ∧ HI HT h2 ∧ JT h2 ∧ RJ h2 := by
  obtain ⟨r1, r2, h1, h2, q1, q2, q3, p1, p2, p3, p4⟩ := po_ok3 (E := E) (x1 := x1) (x2 := x2) (x3 := x3) cp_set8n rfl rfl (List.cons_ne_nil _ _) (List.cons_ne_nil _ _) (fun _ h => absurd h List.not_mem_nil) hh hj hR.1 hR.2.1 ⟨a1, i32_b x2, i32_b x3, trivial⟩ (pBd.cs b34_5.1 b34_5.2 pBd.nl) (fun e he => by cases he)
  exact ⟨r1, r2, h1, h2, q1, q2, q3, p1, p2, p3.1, p3.2, xj_fr hR.2.2 p4 (by decide +kernel)⟩
theorem lf_set8y (x1 x2 x3 : Int32) (hh : HI HT h) (hj : JT h) (hR : RJ h) (a1 : 8 ≤ x1.toInt ∧ x1.toInt ≤ 8) (b34_5 : 9 ≤ (ri h 34 5).toInt ∧ (ri h 34 5).toInt ≤ 9) : ∃ (r1 r2 : Int32) (h1 h2 : List pC), Run prog E pV1 120 mX7_set [.ref 0, .int x1, .int x2, .int x3] h (some (.int r1), h1, 0, 0) ∧ Run prog E pV1 120 mX8_set [.ref 110, .int x1, .int x2, .int x3] h1 (some (.int r2), h2, 0, 0) ∧ (∃ o, pobj h1 110 = some o ∧ o.1 = 8) ∧ HI HT h2 ∧ JT h2 ∧ RJ h2 := by
  obtain ⟨r1, r2, h1, h2, q1, q2, q3, p1, p2, p3, p4⟩ := po_ok3 (E := E) (x1 := x1) (x2 := x2) (x3 := x3) cp_set8y rfl rfl (List.cons_ne_nil _ _) (List.cons_ne_nil _ _) (fun _ h => absurd h List.not_mem_nil) hh hj hR.1 hR.2.1 ⟨a1, i32_b x2, i32_b x3, trivial⟩ (pBd.cs b34_5.1 b34_5.2 (pBd.cs (i32_b (ri h 47 1)).1 (i32_b (ri h 47 1)).2 (pBd.cs (rub_ty (a := 47) hh rfl).1 (rub_ty (a := 47) hh rfl).2 (pBd.cs (i32_b (ri h 47 3)).1 (i32_b (ri h 47 3)).2 pBd.nl)))) (fun e he => by cases he)
  exact ⟨r1, r2, h1, h2, q1, q2, q3, p1, p2, p3.1, p3.2, xj_fr hR.2.2 p4 (by decide +kernel)⟩
theorem lf_setl (x1 x2 x3 : Int32) (hh : HI HT h) (hj : JT h) (hR : RJ h) (a1 : (-2147483648) ≤ x1.toInt ∧ x1.toInt ≤ (-1)) : ∃ (r1 r2 : Int32) (h1 h2 : List pC), Run prog E pV1 120 mX7_set [.ref 0, .int x1, .int x2, .int x3] h (some (.int r1), h1, 0, 0) ∧ Run prog E pV1 120 mX8_set [.ref 110, .int x1, .int x2, .int x3] h1 (some (.int r2), h2, 0, 0) ∧ (∃ o, pobj h1 110 = some o ∧ o.1 = 8) ∧ HI HT h2 ∧ JT h2 ∧ RJ h2 := by
  obtain ⟨r1, r2, h1, h2, q1, q2, q3, p1, p2, p3, p4⟩ := po_ok3 (E := E) (x1 := x1) (x2 := x2) (x3 := x3) cp_setl rfl rfl (List.cons_ne_nil _ _) (List.cons_ne_nil _ _) (fun _ h => absurd h List.not_mem_nil) hh hj hR.1 hR.2.1 ⟨a1, i32_b x2, i32_b x3, trivial⟩ pBd.nl (fun e he => by cases he)
  exact ⟨r1, r2, h1, h2, q1, q2, q3, p1, p2, p3.1, p3.2, xj_fr hR.2.2 p4 (by decide +kernel)⟩
theorem lf_seth (x1 x2 x3 : Int32) (hh : HI HT h) (hj : JT h) (hR : RJ h) (a1 : 9 ≤ x1.toInt ∧ x1.toInt ≤ 2147483647) : ∃ (r1 r2 : Int32) (h1 h2 : List pC), Run prog E pV1 120 mX7_set [.ref 0, .int x1, .int x2, .int x3] h (some (.int r1), h1, 0, 0) ∧ Run prog E pV1 120 mX8_set [.ref 110, .int x1, .int x2, .int x3] h1 (some (.int r2), h2, 0, 0) ∧ (∃ o, pobj h1 110 = some o ∧ o.1 = 8) ∧ HI HT h2 ∧ JT h2 ∧ RJ h2 := by
  obtain ⟨r1, r2, h1, h2, q1, q2, q3, p1, p2, p3, p4⟩ := po_ok3 (E := E) (x1 := x1) (x2 := x2) (x3 := x3) cp_seth rfl rfl (List.cons_ne_nil _ _) (List.cons_ne_nil _ _) (fun _ h => absurd h List.not_mem_nil) hh hj hR.1 hR.2.1 ⟨a1, i32_b x2, i32_b x3, trivial⟩ pBd.nl (fun e he => by cases he)
  exact ⟨r1, r2, h1, h2, q1, q2, q3, p1, p2, p3.1, p3.2, xj_fr hR.2.2 p4 (by decide +kernel)⟩
theorem lw_set (x1 x2 x3 : Int32) (hh : HI HT h) (hj : JT h) (hR : RJ h) : ∃ (r1 r2 : Int32) (h1 h2 : List pC), Run prog E pV1 120 mX7_set [.ref 0, .int x1, .int x2, .int x3] h (some (.int r1), h1, 0, 0) ∧ Run prog E pV1 120 mX8_set [.ref 110, .int x1, .int x2, .int x3] h1 (some (.int r2), h2, 0, 0) ∧ (∃ o, pobj h1 110 = some o ∧ o.1 = 8) ∧ HI HT h2 ∧ JT h2 ∧ RJ h2 := by
  have ex1 := i32_b x1
  have ex2 := i32_b x2
  have ex3 := i32_b x3
  have t34_5 := ty_34_5 hh hR
  have t39_2 := rub_ty (a := 39) hh rfl
  have t40_2 := rub_ty (a := 40) hh rfl
  have t41_2 := rub_ty (a := 41) hh rfl
  have t42_2 := rub_ty (a := 42) hh rfl
  have t43_2 := rub_ty (a := 43) hh rfl
  have t44_2 := rub_ty (a := 44) hh rfl
  have t45_2 := rub_ty (a := 45) hh rfl
  have t46_2 := rub_ty (a := 46) hh rfl
  have t47_2 := rub_ty (a := 47) hh rfl
  by_cases c1 : x1.toInt ≤ (-1)
  · exact lf_setl x1 x2 x3 hh hj hR ⟨by omega, by omega⟩
  by_cases c2 : x1.toInt ≤ 0
  · by_cases c3 : (ri h 34 5).toInt ≤ 0
    · exact lf_set0n x1 x2 x3 hh hj hR ⟨by omega, by omega⟩ ⟨by omega, by omega⟩
    exact lf_set0y x1 x2 x3 hh hj hR ⟨by omega, by omega⟩ ⟨by omega, by omega⟩
  by_cases c4 : x1.toInt ≤ 1
  · by_cases c5 : (ri h 34 5).toInt ≤ 1
    · exact lf_set1n x1 x2 x3 hh hj hR ⟨by omega, by omega⟩ ⟨by omega, by omega⟩
    exact lf_set1y x1 x2 x3 hh hj hR ⟨by omega, by omega⟩ ⟨by omega, by omega⟩
  by_cases c6 : x1.toInt ≤ 2
  · by_cases c7 : (ri h 34 5).toInt ≤ 2
    · exact lf_set2n x1 x2 x3 hh hj hR ⟨by omega, by omega⟩ ⟨by omega, by omega⟩
    exact lf_set2y x1 x2 x3 hh hj hR ⟨by omega, by omega⟩ ⟨by omega, by omega⟩
  by_cases c8 : x1.toInt ≤ 3
  · by_cases c9 : (ri h 34 5).toInt ≤ 3
    · exact lf_set3n x1 x2 x3 hh hj hR ⟨by omega, by omega⟩ ⟨by omega, by omega⟩
    exact lf_set3y x1 x2 x3 hh hj hR ⟨by omega, by omega⟩ ⟨by omega, by omega⟩
  by_cases c10 : x1.toInt ≤ 4
  · by_cases c11 : (ri h 34 5).toInt ≤ 4
    · exact lf_set4n x1 x2 x3 hh hj hR ⟨by omega, by omega⟩ ⟨by omega, by omega⟩
    exact lf_set4y x1 x2 x3 hh hj hR ⟨by omega, by omega⟩ ⟨by omega, by omega⟩
  by_cases c12 : x1.toInt ≤ 5
  · by_cases c13 : (ri h 34 5).toInt ≤ 5
    · exact lf_set5n x1 x2 x3 hh hj hR ⟨by omega, by omega⟩ ⟨by omega, by omega⟩
    exact lf_set5y x1 x2 x3 hh hj hR ⟨by omega, by omega⟩ ⟨by omega, by omega⟩
  by_cases c14 : x1.toInt ≤ 6
  · by_cases c15 : (ri h 34 5).toInt ≤ 6
    · exact lf_set6n x1 x2 x3 hh hj hR ⟨by omega, by omega⟩ ⟨by omega, by omega⟩
    exact lf_set6y x1 x2 x3 hh hj hR ⟨by omega, by omega⟩ ⟨by omega, by omega⟩
  by_cases c16 : x1.toInt ≤ 7
  · by_cases c17 : (ri h 34 5).toInt ≤ 7
    · exact lf_set7n x1 x2 x3 hh hj hR ⟨by omega, by omega⟩ ⟨by omega, by omega⟩
    exact lf_set7y x1 x2 x3 hh hj hR ⟨by omega, by omega⟩ ⟨by omega, by omega⟩
  by_cases c18 : x1.toInt ≤ 8
  · by_cases c19 : (ri h 34 5).toInt ≤ 8
    · exact lf_set8n x1 x2 x3 hh hj hR ⟨by omega, by omega⟩ ⟨by omega, by omega⟩
    exact lf_set8y x1 x2 x3 hh hj hR ⟨by omega, by omega⟩ ⟨by omega, by omega⟩
  exact lf_seth x1 x2 x3 hh hj hR ⟨by omega, by omega⟩
theorem lw_carve (x1 x2 : Int32) (hh : HI HT h) (hj : JT h) (hR : RJ h) : ∃ (r1 r2 : Int32) (h1 h2 : List pC), Run prog E pV1 120 mX7_carve [.ref 0, .int x1, .int x2] h (some (.int r1), h1, 0, 0) ∧ Run prog E pV1 120 mX8_carve [.ref 110, .int x1, .int x2] h1 (some (.int r2), h2, 0, 0) ∧ (∃ o, pobj h1 110 = some o ∧ o.1 = 8) ∧ HI HT h2 ∧ JT h2 ∧ RJ h2 := by
  obtain ⟨r1, h1, q1, hh1, f1, hj1⟩ := pub_of (E := E) (a := 0) (kg_c_carveF) (N := mX7_carve) rfl (List.cons_ne_nil _ _) [x1, x2] rfl (fun q => by cases q) (Nat.le_of_ble_eq_true rfl) hh hj
  obtain ⟨r2, h2, q2, hh2, f2, hj2⟩ := pub_of (E := E) (a := 110) (kg_r_carveF) (N := mX8_carve) rfl (List.cons_ne_nil _ _) [x1, x2] rfl (fun q => by cases q) (Nat.le_of_ble_eq_true rfl) hh1 hj1
  exact ⟨r1, r2, h1, h2, q1, q2, mobj hh1, hh2, hj2, ⟨pRel_fr (pRel_fr hR.1 f1 (by decide +kernel)) f2 (by decide +kernel), cRel_fr (cRel_fr hR.2.1 f1 (by decide +kernel)) f2 (by decide +kernel), xj_fr (xj_fr hR.2.2 f1 (by decide +kernel)) f2 (by decide +kernel)⟩⟩
theorem lw_carved (x1 : Int32) (hh : HI HT h) (hj : JT h) (hR : RJ h) : ∃ (r1 r2 : Int32) (h1 h2 : List pC), Run prog E pV1 120 mX7_carved [.ref 0, .int x1] h (some (.int r1), h1, 0, 0) ∧ Run prog E pV1 120 mX8_carved [.ref 110, .int x1] h1 (some (.int r2), h2, 0, 0) ∧ (∃ o, pobj h1 110 = some o ∧ o.1 = 8) ∧ HI HT h2 ∧ JT h2 ∧ RJ h2 := by
  obtain ⟨r1, h1, q1, hh1, f1, hj1⟩ := pub_of (E := E) (a := 0) (kg_c_carved JT_P hands) (N := mX7_carved) rfl (List.cons_ne_nil _ _) [x1] rfl (fun q => by cases q) (Nat.le_of_ble_eq_true rfl) hh hj
  obtain ⟨r2, h2, q2, hh2, f2, hj2⟩ := pub_of (E := E) (a := 110) (kg_r_carved JT_P hands) (N := mX8_carved) rfl (List.cons_ne_nil _ _) [x1] rfl (fun q => by cases q) (Nat.le_of_ble_eq_true rfl) hh1 hj1
  exact ⟨r1, r2, h1, h2, q1, q2, mobj hh1, hh2, hj2, ⟨pRel_fr (pRel_fr hR.1 f1 (by decide +kernel)) f2 (by decide +kernel), cRel_fr (cRel_fr hR.2.1 f1 (by decide +kernel)) f2 (by decide +kernel), xj_fr (xj_fr hR.2.2 f1 (by decide +kernel)) f2 (by decide +kernel)⟩⟩
theorem lw_deal (x1 : Int32) (hh : HI HT h) (hj : JT h) (hR : RJ h) : ∃ (r1 r2 : Int32) (h1 h2 : List pC), Run prog E pV1 120 mX7_deal [.ref 0, .int x1] h (some (.int r1), h1, 0, 0) ∧ Run prog E pV1 120 mX8_deal [.ref 110, .int x1] h1 (some (.int r2), h2, 0, 0) ∧ (∃ o, pobj h1 110 = some o ∧ o.1 = 8) ∧ HI HT h2 ∧ JT h2 ∧ RJ h2 := by
  have ex1 := i32_b x1
  by_cases c1 : x1.toInt ≤ 0
  · obtain ⟨r, h1, h2, q1, q2, q3, p1, p2, p3, p4⟩ := pr_ok1 (E := E) (x1 := x1) cp_deall rfl rfl (List.cons_ne_nil _ _) (List.cons_ne_nil _ _) (fun _ h => absurd h List.not_mem_nil) hh hj hR.1 hR.2.1 ⟨⟨by omega, by omega⟩, trivial⟩ pBd.nl (fun e he => by cases he)
    exact ⟨r, r, h1, h2, q1, q2, q3, p1, p2, p3.1, p3.2, xj_fr hR.2.2 p4 (by decide +kernel)⟩
  by_cases c2 : 10 ≤ x1.toInt
  · obtain ⟨r, h1, h2, q1, q2, q3, p1, p2, p3, p4⟩ := pr_ok1 (E := E) (x1 := x1) cp_dealh rfl rfl (List.cons_ne_nil _ _) (List.cons_ne_nil _ _) (fun _ h => absurd h List.not_mem_nil) hh hj hR.1 hR.2.1 ⟨⟨by omega, by omega⟩, trivial⟩ pBd.nl (fun e he => by cases he)
    exact ⟨r, r, h1, h2, q1, q2, q3, p1, p2, p3.1, p3.2, xj_fr hR.2.2 p4 (by decide +kernel)⟩
  have t5 := ty_34_5 hh hR
  have m5 : ri h 34 5 = ri h 111 0 := (sub_rel (R' := [((8, 34, 5), (0, 111, 0), 0, 9)]) hR.1 (by decide) _ List.mem_cons_self)
  obtain ⟨m, em⟩ : ∃ m : Nat, (ri h 34 5).toInt = (m : Int) := ⟨_, (Int.toNat_of_nonneg t5.1).symm⟩
  obtain ⟨j, v1, h1, q1, b1, b2, hh1, hj1, f1, d1, d2, d3⟩ := deal_c (E := E) x1 ⟨by omega, by omega⟩ hh hj (m := m) (by omega) (by omega)
  have g0 : ri h1 111 0 = ri h 111 0 := ri_fr f1 (by decide)
  obtain ⟨j', v2, h2, q2, b3, b4, hh2, hj2, f2, k1, k2, k3⟩ := deal_r (E := E) x1 ⟨by omega, by omega⟩ hh1 hj1 (m := m) (by omega) (by rw [g0, ← m5]; omega)
  obtain rfl : j' = j := by omega
  obtain rfl : v2 = v1 := Int32.toInt_inj.mp (by omega)
  refine ⟨_, _, h1, h2, q1, q2, mobj hh1, hh2, hj2, fun q hq => ?_, cl_i (fun k f hk hf b => ?_) (fun k f hk hf b => ?_) (fun b1 b2 => ?_), xj_fr (xj_fr hR.2.2 f1 (by decide +kernel)) f2 (by decide +kernel)⟩
  · rcases List.mem_append.mp hq with hq | hq
    · rcases List.mem_cons.mp hq with rfl | hq
      · show ri h2 34 5 = ri h2 111 0
        exact Int32.toInt_inj.mp (by rw [ri_fr (a := 34) (i := 5) f2 (by decide), d1, k1])
      rcases List.mem_cons.mp hq with rfl | hq
      · exact pRel_fr (pRel_fr (R := [((8, 48, 5), (0, 112, 0), 0, 9)]) (sub_rel hR.1 (by decide)) f1 (by decide +kernel)) f2 (by decide +kernel) _ List.mem_cons_self
      rcases List.mem_cons.mp hq with rfl | hq
      · exact pRel_fr (pRel_fr (R := [((9, 0, 9), (10, 110, 3), 0, 1)]) (sub_rel hR.1 (by decide)) f1 (by decide +kernel)) f2 (by decide +kernel) _ List.mem_cons_self
      rcases List.mem_cons.mp hq with rfl | hq
      · show ri h2 34 9 = ri h2 111 4
        rw [ri_fr (a := 34) (i := 9) f2 (by decide), d2, k2, ri_fr (a := 111) (i := 4) f1 (by decide)]
        exact congrArg (dzN (3 * _)) (sub_rel (R' := [((8, 34, 9), (0, 111, 4), (-2147483648), 2147483647)]) hR.1 (by decide) _ List.mem_cons_self)
      rcases List.mem_cons.mp hq with rfl | hq
      · exact pRel_fr (pRel_fr (R := [((8, 34, 7), (0, 111, 2), (-2147483648), 2147483647)]) (sub_rel hR.1 (by decide)) f1 (by decide +kernel)) f2 (by decide +kernel) _ List.mem_cons_self
      rcases List.mem_cons.mp hq with rfl | hq
      · exact pRel_fr (pRel_fr (R := [((8, 48, 7), (0, 112, 2), (-2147483648), 2147483647)]) (sub_rel hR.1 (by decide)) f1 (by decide +kernel)) f2 (by decide +kernel) _ List.mem_cons_self
      rcases List.mem_cons.mp hq with rfl | hq
      · exact pRel_fr (pRel_fr (R := [((5, 82, 1), (0, 114, 0), (-1), 1)]) (sub_rel hR.1 (by decide)) f1 (by decide +kernel)) f2 (by decide +kernel) _ List.mem_cons_self
      rcases List.mem_cons.mp hq with rfl | hq
      · exact pRel_fr (pRel_fr (R := [((5, 84, 1), (0, 114, 1), (-1), 1)]) (sub_rel hR.1 (by decide)) f1 (by decide +kernel)) f2 (by decide +kernel) _ List.mem_cons_self
      rcases List.mem_cons.mp hq with rfl | hq
      · exact pRel_fr (pRel_fr (R := [((5, 86, 1), (0, 114, 2), (-1), 1)]) (sub_rel hR.1 (by decide)) f1 (by decide +kernel)) f2 (by decide +kernel) _ List.mem_cons_self
      rcases List.mem_cons.mp hq with rfl | hq
      · exact pRel_fr (pRel_fr (R := [((5, 88, 1), (0, 114, 3), (-1), 1)]) (sub_rel hR.1 (by decide)) f1 (by decide +kernel)) f2 (by decide +kernel) _ List.mem_cons_self
      rcases List.mem_cons.mp hq with rfl | hq
      · exact pRel_fr (pRel_fr (R := [((5, 82, 2), (0, 115, 0), 0, 24)]) (sub_rel hR.1 (by decide)) f1 (by decide +kernel)) f2 (by decide +kernel) _ List.mem_cons_self
      rcases List.mem_cons.mp hq with rfl | hq
      · exact pRel_fr (pRel_fr (R := [((5, 84, 2), (0, 115, 1), 0, 24)]) (sub_rel hR.1 (by decide)) f1 (by decide +kernel)) f2 (by decide +kernel) _ List.mem_cons_self
      rcases List.mem_cons.mp hq with rfl | hq
      · exact pRel_fr (pRel_fr (R := [((5, 86, 2), (0, 115, 2), 0, 24)]) (sub_rel hR.1 (by decide)) f1 (by decide +kernel)) f2 (by decide +kernel) _ List.mem_cons_self
      obtain rfl := List.mem_singleton.mp hq
      exact pRel_fr (pRel_fr (R := [((5, 88, 2), (0, 115, 3), 0, 24)]) (sub_rel hR.1 (by decide)) f1 (by decide +kernel)) f2 (by decide +kernel) _ List.mem_cons_self
    · exact pRel_fr (pRel_fr (R := VLs) (rl_v hR.1) f1 (by decide +kernel)) f2 (by decide +kernel) q hq
  · have rr := cl_1 hR.2.1 (ty_34_5 hh hR).2
    have n5 : (ri h2 34 5).toInt = ((m + j' : Nat) : Int) := by rw [ri_fr (a := 34) (i := 5) f2 (by decide), d1]
    rw [n5] at b
    have g1 : ri h2 (39 + k) f = ri h1 (39 + k) f := ri_fr f2 (nin_iff.mpr (by simp only [Wdr, List.forall_mem_cons]; exact ⟨by omega, by omega, by omega, fun _ h => absurd h List.not_mem_nil⟩))
    have g2 : ri h1 111 (21 + 6 * k + f) = ri h 111 (21 + 6 * k + f) := ri_fr f1 (nin_iff.mpr (by simp only [Wdc, List.forall_mem_cons]; exact ⟨by omega, by omega, by omega, fun _ h => absurd h List.not_mem_nil⟩))
    have g4 : ri h1 111 4 = ri h 111 4 := ri_fr f1 (by decide)
    have z4 : ri h 34 9 = ri h 111 4 := (sub_rel (R' := [((8, 34, 9), (0, 111, 4), (-2147483648), 2147483647)]) hR.1 (by decide) _ List.mem_cons_self)
    show ri h2 (39 + k) f = ri h2 111 (21 + 6 * k + f)
    rw [g1]
    by_cases hm : k < m
    · have e1 : ri h1 (39 + k) f = ri h (39 + k) f := (d3 k f hk (by omega)).2 (Or.inl hm)
      have e2 : ri h2 111 (21 + 6 * k + f) = ri h1 111 (21 + 6 * k + f) := (k3 k f hk (by omega)).2 (Or.inl hm)
      rw [e1, e2, g2]
      exact rr k f hk hf (by omega)
    · have e1 : (ri h1 (39 + k) f).toInt = rubT (dzN (3 * (k - m)) (ri h 34 9)) f := (d3 k f hk (by omega)).1 (by omega) (by omega)
      have e2 : (ri h2 111 (21 + 6 * k + f)).toInt = rubT (dzN (3 * (k - m)) (ri h1 111 4)) f := (k3 k f hk (by omega)).1 (by omega) (by omega)
      exact Int32.toInt_inj.mp (by rw [e1, e2, g4, z4])
  · have rr := cl_2 hR.2.1 (ty_48_5 hh hR).2
    have g : ∀ a i, 48 ≤ a → a ≤ 61 ∨ a = 112 → ri h2 a i = ri h a i := fun a i ha1 ha2 => by
      rw [ri_fr (a := a) (i := i) f2 (nin_iff.mpr (by simp only [Wdr, List.forall_mem_cons]; exact ⟨by omega, by omega, by omega, fun _ h => absurd h List.not_mem_nil⟩)), ri_fr (a := a) (i := i) f1 (nin_iff.mpr (by simp only [Wdc, List.forall_mem_cons]; exact ⟨by omega, by omega, by omega, fun _ h => absurd h List.not_mem_nil⟩))]
    rw [g _ _ (by omega) (Or.inl (by omega))] at b
    rw [g _ _ (by omega) (Or.inl (by omega)), g _ _ (by omega) (Or.inr rfl)]
    exact rr k f hk hf b
  · rw [ri_fr (a := 0) (i := 9) f2 (by decide), ri_fr (a := 0) (i := 9) f1 (by decide)] at b1 b2
    rw [ri_fr (a := 48) (i := 9) f2 (by decide), ri_fr (a := 48) (i := 9) f1 (by decide), ri_fr (a := 112) (i := 4) f2 (by decide), ri_fr (a := 112) (i := 4) f1 (by decide)]
    exact cl_3 hR.2.1 b1 b2
theorem lf_seed (x1 : Int32) (hh : HI HT h) (hj : JT h) (hR : RJ h) : ∃ (r1 r2 : Int32) (h1 h2 : List pC), Run prog E pV1 120 mX7_seed [.ref 0, .int x1] h (some (.int r1), h1, 0, 0) ∧ Run prog E pV1 120 mX8_seed [.ref 110, .int x1] h1 (some (.int r2), h2, 0, 0) ∧ (∃ o, pobj h1 110 = some o ∧ o.1 = 8) ∧ HI HT h2 ∧ JT h2 ∧ RJ h2 := by
  obtain ⟨r, h1, h2, q1, q2, q3, p1, p2, p3, p4⟩ := pr_ok1 (E := E) (x1 := x1) cp_seed rfl rfl (List.cons_ne_nil _ _) (List.cons_ne_nil _ _) (fun _ h => absurd h List.not_mem_nil) hh hj hR.1 hR.2.1 ⟨i32_b x1, trivial⟩ (pBd.cs (i32_b (ri h 34 9)).1 (i32_b (ri h 34 9)).2 pBd.nl) (fun e he => by cases he)
  exact ⟨r, r, h1, h2, q1, q2, q3, p1, p2, p3.1, p3.2, xj_fr hR.2.2 p4 (by decide +kernel)⟩
theorem lw_seed (x1 : Int32) (hh : HI HT h) (hj : JT h) (hR : RJ h) : ∃ (r1 r2 : Int32) (h1 h2 : List pC), Run prog E pV1 120 mX7_seed [.ref 0, .int x1] h (some (.int r1), h1, 0, 0) ∧ Run prog E pV1 120 mX8_seed [.ref 110, .int x1] h1 (some (.int r2), h2, 0, 0) ∧ (∃ o, pobj h1 110 = some o ∧ o.1 = 8) ∧ HI HT h2 ∧ JT h2 ∧ RJ h2 := by
  have ex1 := i32_b x1
  exact lf_seed x1 hh hj hR
theorem lw_falseAt (x1 x2 : Int32) (hh : HI HT h) (hj : JT h) (hR : RJ h) : ∃ (r1 r2 : Int32) (h1 h2 : List pC), Run prog E pV1 120 mX7_falseAt [.ref 0, .int x1, .int x2] h (some (.int r1), h1, 0, 0) ∧ Run prog E pV1 120 mX8_falseAt [.ref 110, .int x1, .int x2] h1 (some (.int r2), h2, 0, 0) ∧ (∃ o, pobj h1 110 = some o ∧ o.1 = 8) ∧ HI HT h2 ∧ JT h2 ∧ RJ h2 := by
  obtain ⟨r1, h1, q1, hh1, f1, hj1⟩ := pub_of (E := E) (a := 0) (kg_c_falseAt JT_P hands) (N := mX7_falseAt) rfl (List.cons_ne_nil _ _) [x1, x2] rfl (fun q => by cases q) (Nat.le_of_ble_eq_true rfl) hh hj
  obtain ⟨r2, h2, q2, hh2, f2, hj2⟩ := pub_of (E := E) (a := 110) (kg_r_falseAt JT_P hands) (N := mX8_falseAt) rfl (List.cons_ne_nil _ _) [x1, x2] rfl (fun q => by cases q) (Nat.le_of_ble_eq_true rfl) hh1 hj1
  exact ⟨r1, r2, h1, h2, q1, q2, mobj hh1, hh2, hj2, ⟨pRel_fr (pRel_fr hR.1 f1 (by decide +kernel)) f2 (by decide +kernel), cRel_fr (cRel_fr hR.2.1 f1 (by decide +kernel)) f2 (by decide +kernel), xj_fr (xj_fr hR.2.2 f1 (by decide +kernel)) f2 (by decide +kernel)⟩⟩
theorem lw_fits (x1 x2 : Int32) (hh : HI HT h) (hj : JT h) (hR : RJ h) : ∃ (r1 r2 : Int32) (h1 h2 : List pC), Run prog E pV1 120 mX7_fits [.ref 0, .int x1, .int x2] h (some (.int r1), h1, 0, 0) ∧ Run prog E pV1 120 mX8_fits [.ref 110, .int x1, .int x2] h1 (some (.int r2), h2, 0, 0) ∧ (∃ o, pobj h1 110 = some o ∧ o.1 = 8) ∧ HI HT h2 ∧ JT h2 ∧ RJ h2 := by
  obtain ⟨r1, h1, q1, hh1, f1, hj1⟩ := pub_of (E := E) (a := 0) (kg_c_fits JT_P hands) (N := mX7_fits) rfl (List.cons_ne_nil _ _) [x1, x2] rfl (fun q => by cases q) (Nat.le_of_ble_eq_true rfl) hh hj
  obtain ⟨r2, h2, q2, hh2, f2, hj2⟩ := pub_of (E := E) (a := 110) (kg_r_fits JT_P hands) (N := mX8_fits) rfl (List.cons_ne_nil _ _) [x1, x2] rfl (fun q => by cases q) (Nat.le_of_ble_eq_true rfl) hh1 hj1
  exact ⟨r1, r2, h1, h2, q1, q2, mobj hh1, hh2, hj2, ⟨pRel_fr (pRel_fr hR.1 f1 (by decide +kernel)) f2 (by decide +kernel), cRel_fr (cRel_fr hR.2.1 f1 (by decide +kernel)) f2 (by decide +kernel), xj_fr (xj_fr hR.2.2 f1 (by decide +kernel)) f2 (by decide +kernel)⟩⟩
theorem lw_join (x1 x2 x3 : Int32) (hh : HI HT h) (hj : JT h) (hR : RJ h) : ∃ (r1 r2 : Int32) (h1 h2 : List pC), Run prog E pV1 120 mX7_join [.ref 0, .int x1, .int x2, .int x3] h (some (.int r1), h1, 0, 0) ∧ Run prog E pV1 120 mX8_join [.ref 110, .int x1, .int x2, .int x3] h1 (some (.int r2), h2, 0, 0) ∧ (∃ o, pobj h1 110 = some o ∧ o.1 = 8) ∧ HI HT h2 ∧ JT h2 ∧ RJ h2 := by
  obtain ⟨r1, h1, q1, hh1, f1, hj1⟩ := pub_of (E := E) (a := 0) (kg_c_join JT_P hands) (N := mX7_join) rfl (List.cons_ne_nil _ _) [x1, x2, x3] rfl (fun q => by cases q) (Nat.le_of_ble_eq_true rfl) hh hj
  obtain ⟨r2, h2, q2, hh2, f2, hj2⟩ := pub_of (E := E) (a := 110) (kg_r_join JT_P hands) (N := mX8_join) rfl (List.cons_ne_nil _ _) [x1, x2, x3] rfl (fun q => by cases q) (Nat.le_of_ble_eq_true rfl) hh1 hj1
  exact ⟨r1, r2, h1, h2, q1, q2, mobj hh1, hh2, hj2, ⟨pRel_fr (pRel_fr hR.1 f1 (by decide +kernel)) f2 (by decide +kernel), cRel_fr (cRel_fr hR.2.1 f1 (by decide +kernel)) f2 (by decide +kernel), xj_fr (xj_fr hR.2.2 f1 (by decide +kernel)) f2 (by decide +kernel)⟩⟩
theorem lw_clash (x1 x2 : Int32) (hh : HI HT h) (hj : JT h) (hR : RJ h) : ∃ (r1 r2 : Int32) (h1 h2 : List pC), Run prog E pV1 120 mX7_clash [.ref 0, .int x1, .int x2] h (some (.int r1), h1, 0, 0) ∧ Run prog E pV1 120 mX8_clash [.ref 110, .int x1, .int x2] h1 (some (.int r2), h2, 0, 0) ∧ (∃ o, pobj h1 110 = some o ∧ o.1 = 8) ∧ HI HT h2 ∧ JT h2 ∧ RJ h2 := by
  obtain ⟨r1, h1, q1, hh1, f1, hj1⟩ := pub_of (E := E) (a := 0) (kg_c_clash JT_P hands) (N := mX7_clash) rfl (List.cons_ne_nil _ _) [x1, x2] rfl (fun q => by cases q) (Nat.le_of_ble_eq_true rfl) hh hj
  obtain ⟨r2, h2, q2, hh2, f2, hj2⟩ := pub_of (E := E) (a := 110) (kg_r_clash JT_P hands) (N := mX8_clash) rfl (List.cons_ne_nil _ _) [x1, x2] rfl (fun q => by cases q) (Nat.le_of_ble_eq_true rfl) hh1 hj1
  exact ⟨r1, r2, h1, h2, q1, q2, mobj hh1, hh2, hj2, ⟨pRel_fr (pRel_fr hR.1 f1 (by decide +kernel)) f2 (by decide +kernel), cRel_fr (cRel_fr hR.2.1 f1 (by decide +kernel)) f2 (by decide +kernel), xj_fr (xj_fr hR.2.2 f1 (by decide +kernel)) f2 (by decide +kernel)⟩⟩
theorem lw_undone (hh : HI HT h) (hj : JT h) (hR : RJ h) : ∃ (r1 r2 : Int32) (h1 h2 : List pC), Run prog E pV1 120 mX7_undone [.ref 0] h (some (.int r1), h1, 0, 0) ∧ Run prog E pV1 120 mX8_undone [.ref 110] h1 (some (.int r2), h2, 0, 0) ∧ (∃ o, pobj h1 110 = some o ∧ o.1 = 8) ∧ HI HT h2 ∧ JT h2 ∧ RJ h2 := by
  obtain ⟨r1, h1, q1, hh1, f1, hj1⟩ := pub_of (E := E) (a := 0) (kg_c_undone JT_P hands) (N := mX7_undone) rfl (List.cons_ne_nil _ _) [] rfl (fun q => by cases q) (Nat.le_of_ble_eq_true rfl) hh hj
  obtain ⟨r2, h2, q2, hh2, f2, hj2⟩ := pub_of (E := E) (a := 110) (kg_r_undone JT_P hands) (N := mX8_undone) rfl (List.cons_ne_nil _ _) [] rfl (fun q => by cases q) (Nat.le_of_ble_eq_true rfl) hh1 hj1
  exact ⟨r1, r2, h1, h2, q1, q2, mobj hh1, hh2, hj2, ⟨pRel_fr (pRel_fr hR.1 f1 (by decide +kernel)) f2 (by decide +kernel), cRel_fr (cRel_fr hR.2.1 f1 (by decide +kernel)) f2 (by decide +kernel), xj_fr (xj_fr hR.2.2 f1 (by decide +kernel)) f2 (by decide +kernel)⟩⟩
theorem lw_borne (hh : HI HT h) (hj : JT h) (hR : RJ h) : ∃ (r1 r2 : Int32) (h1 h2 : List pC), Run prog E pV1 120 mX7_borne [.ref 0] h (some (.int r1), h1, 0, 0) ∧ Run prog E pV1 120 mX8_borne [.ref 110] h1 (some (.int r2), h2, 0, 0) ∧ (∃ o, pobj h1 110 = some o ∧ o.1 = 8) ∧ HI HT h2 ∧ JT h2 ∧ RJ h2 := by
  obtain ⟨r1, h1, q1, hh1, f1, hj1⟩ := pub_of (E := E) (a := 0) (kg_c_borne JT_P hands) (N := mX7_borne) rfl (List.cons_ne_nil _ _) [] rfl (fun q => by cases q) (Nat.le_of_ble_eq_true rfl) hh hj
  obtain ⟨r2, h2, q2, hh2, f2, hj2⟩ := pub_of (E := E) (a := 110) (kg_r_borne JT_P hands) (N := mX8_borne) rfl (List.cons_ne_nil _ _) [] rfl (fun q => by cases q) (Nat.le_of_ble_eq_true rfl) hh1 hj1
  exact ⟨r1, r2, h1, h2, q1, q2, mobj hh1, hh2, hj2, ⟨pRel_fr (pRel_fr hR.1 f1 (by decide +kernel)) f2 (by decide +kernel), cRel_fr (cRel_fr hR.2.1 f1 (by decide +kernel)) f2 (by decide +kernel), xj_fr (xj_fr hR.2.2 f1 (by decide +kernel)) f2 (by decide +kernel)⟩⟩
theorem lw_look (x1 : Int32) (hh : HI HT h) (hj : JT h) (hR : RJ h) : ∃ (r1 r2 : Int32) (h1 h2 : List pC), Run prog E pV1 120 mX7_look [.ref 0, .int x1] h (some (.int r1), h1, 0, 0) ∧ Run prog E pV1 120 mX8_look [.ref 110, .int x1] h1 (some (.int r2), h2, 0, 0) ∧ (∃ o, pobj h1 110 = some o ∧ o.1 = 8) ∧ HI HT h2 ∧ JT h2 ∧ RJ h2 := by
  obtain ⟨r1, h1, q1, hh1, f1, hj1⟩ := pub_of (E := E) (a := 0) (kg_c_look JT_P hands) (N := mX7_look) rfl (List.cons_ne_nil _ _) [x1] rfl (fun q => by cases q) (Nat.le_of_ble_eq_true rfl) hh hj
  obtain ⟨r2, h2, q2, hh2, f2, hj2⟩ := pub_of (E := E) (a := 110) (kg_r_look JT_P hands) (N := mX8_look) rfl (List.cons_ne_nil _ _) [x1] rfl (fun q => by cases q) (Nat.le_of_ble_eq_true rfl) hh1 hj1
  exact ⟨r1, r2, h1, h2, q1, q2, mobj hh1, hh2, hj2, ⟨pRel_fr (pRel_fr hR.1 f1 (by decide +kernel)) f2 (by decide +kernel), cRel_fr (cRel_fr hR.2.1 f1 (by decide +kernel)) f2 (by decide +kernel), xj_fr (xj_fr hR.2.2 f1 (by decide +kernel)) f2 (by decide +kernel)⟩⟩
theorem lw_tides (x1 : Int32) (hh : HI HT h) (hj : JT h) (hR : RJ h) : ∃ (r1 r2 : Int32) (h1 h2 : List pC), Run prog E pV1 120 mX7_tides [.ref 0, .int x1] h (some (.int r1), h1, 0, 0) ∧ Run prog E pV1 120 mX8_tides [.ref 110, .int x1] h1 (some (.int r2), h2, 0, 0) ∧ (∃ o, pobj h1 110 = some o ∧ o.1 = 8) ∧ HI HT h2 ∧ JT h2 ∧ RJ h2 := by
  have ex1 := i32_b x1
  by_cases c1 : x1.toInt ≤ 0
  · obtain ⟨r, h1, h2, q1, q2, q3, p1, p2, p3, p4⟩ := pr_ok1 (E := E) (x1 := x1) cp_tidesl rfl rfl (List.cons_ne_nil _ _) (List.cons_ne_nil _ _) (fun _ h => absurd h List.not_mem_nil) hh hj hR.1 hR.2.1 ⟨⟨by omega, by omega⟩, trivial⟩ pBd.nl (fun e he => by cases he)
    exact ⟨r, r, h1, h2, q1, q2, q3, p1, p2, p3.1, p3.2, xj_fr hR.2.2 p4 (by decide +kernel)⟩
  by_cases c2 : 101 ≤ x1.toInt
  · obtain ⟨r, h1, h2, q1, q2, q3, p1, p2, p3, p4⟩ := pr_ok1 (E := E) (x1 := x1) cp_tidesh rfl rfl (List.cons_ne_nil _ _) (List.cons_ne_nil _ _) (fun _ h => absurd h List.not_mem_nil) hh hj hR.1 hR.2.1 ⟨⟨by omega, by omega⟩, trivial⟩ pBd.nl (fun e he => by cases he)
    exact ⟨r, r, h1, h2, q1, q2, q3, p1, p2, p3.1, p3.2, xj_fr hR.2.2 p4 (by decide +kernel)⟩
  obtain ⟨⟨b0, b1⟩, b2⟩ := hR.2.2.1
  have m2 : ri h 34 7 = ri h 111 2 := (sub_rel (R' := [((8, 34, 7), (0, 111, 2), (-2147483648), 2147483647)]) hR.1 (by decide) _ List.mem_cons_self)
  obtain ⟨v1, h1, q1, hh1, hj1, f1, j1, e1, e2, e3⟩ := tides_c (E := E) x1 ⟨by omega, by omega⟩ hh hj b0 b1
  have g2 : ri h1 111 2 = ri h 111 2 := ri_fr f1 (by decide)
  obtain ⟨v2, h2, q2, hh2, hj2, f2, j2, e4, e5, e6⟩ := tides_r (E := E) x1 ⟨by omega, by omega⟩ hh1 hj1 (by rw [g2, ← m2]; exact b0) (by rw [g2, ← m2]; exact b1)
  have ej : j1 = j2 := by
    rw [g2, ← m2] at e4
    omega
  refine ⟨v1, v2, h1, h2, q1, q2, mobj hh1, hh2, hj2, fun q hq => ?_, cRel_fr (cRel_fr hR.2.1 f1 (by decide +kernel)) f2 (by decide +kernel), ?_⟩
  rcases List.mem_append.mp hq with hq | hq
  · rcases List.mem_cons.mp hq with rfl | hq
    · exact pRel_fr (pRel_fr (R := [((8, 34, 5), (0, 111, 0), 0, 9)]) (sub_rel hR.1 (by decide)) f1 (by decide +kernel)) f2 (by decide +kernel) _ List.mem_cons_self
    rcases List.mem_cons.mp hq with rfl | hq
    · exact pRel_fr (pRel_fr (R := [((8, 48, 5), (0, 112, 0), 0, 9)]) (sub_rel hR.1 (by decide)) f1 (by decide +kernel)) f2 (by decide +kernel) _ List.mem_cons_self
    rcases List.mem_cons.mp hq with rfl | hq
    · exact pRel_fr (pRel_fr (R := [((9, 0, 9), (10, 110, 3), 0, 1)]) (sub_rel hR.1 (by decide)) f1 (by decide +kernel)) f2 (by decide +kernel) _ List.mem_cons_self
    rcases List.mem_cons.mp hq with rfl | hq
    · show ri h2 34 9 = ri h2 111 4
      rw [ri_fr (a := 34) (i := 9) f2 (by decide), e2, e5, ri_fr (a := 111) (i := 4) f1 (by decide), ej]
      exact congrArg (dzN j2) (sub_rel (R' := [((8, 34, 9), (0, 111, 4), (-2147483648), 2147483647)]) hR.1 (by decide) _ List.mem_cons_self)
    rcases List.mem_cons.mp hq with rfl | hq
    · show ri h2 34 7 = ri h2 111 2
      exact Int32.toInt_inj.mp (by rw [ri_fr (a := 34) (i := 7) f2 (by decide), e3, e6, g2, ← m2, ej])
    rcases List.mem_cons.mp hq with rfl | hq
    · exact pRel_fr (pRel_fr (R := [((8, 48, 7), (0, 112, 2), (-2147483648), 2147483647)]) (sub_rel hR.1 (by decide)) f1 (by decide +kernel)) f2 (by decide +kernel) _ List.mem_cons_self
    rcases List.mem_cons.mp hq with rfl | hq
    · exact pRel_fr (pRel_fr (R := [((5, 82, 1), (0, 114, 0), (-1), 1)]) (sub_rel hR.1 (by decide)) f1 (by decide +kernel)) f2 (by decide +kernel) _ List.mem_cons_self
    rcases List.mem_cons.mp hq with rfl | hq
    · exact pRel_fr (pRel_fr (R := [((5, 84, 1), (0, 114, 1), (-1), 1)]) (sub_rel hR.1 (by decide)) f1 (by decide +kernel)) f2 (by decide +kernel) _ List.mem_cons_self
    rcases List.mem_cons.mp hq with rfl | hq
    · exact pRel_fr (pRel_fr (R := [((5, 86, 1), (0, 114, 2), (-1), 1)]) (sub_rel hR.1 (by decide)) f1 (by decide +kernel)) f2 (by decide +kernel) _ List.mem_cons_self
    rcases List.mem_cons.mp hq with rfl | hq
    · exact pRel_fr (pRel_fr (R := [((5, 88, 1), (0, 114, 3), (-1), 1)]) (sub_rel hR.1 (by decide)) f1 (by decide +kernel)) f2 (by decide +kernel) _ List.mem_cons_self
    rcases List.mem_cons.mp hq with rfl | hq
    · exact pRel_fr (pRel_fr (R := [((5, 82, 2), (0, 115, 0), 0, 24)]) (sub_rel hR.1 (by decide)) f1 (by decide +kernel)) f2 (by decide +kernel) _ List.mem_cons_self
    rcases List.mem_cons.mp hq with rfl | hq
    · exact pRel_fr (pRel_fr (R := [((5, 84, 2), (0, 115, 1), 0, 24)]) (sub_rel hR.1 (by decide)) f1 (by decide +kernel)) f2 (by decide +kernel) _ List.mem_cons_self
    rcases List.mem_cons.mp hq with rfl | hq
    · exact pRel_fr (pRel_fr (R := [((5, 86, 2), (0, 115, 2), 0, 24)]) (sub_rel hR.1 (by decide)) f1 (by decide +kernel)) f2 (by decide +kernel) _ List.mem_cons_self
    obtain rfl := List.mem_singleton.mp hq
    exact pRel_fr (pRel_fr (R := [((5, 88, 2), (0, 115, 3), 0, 24)]) (sub_rel hR.1 (by decide)) f1 (by decide +kernel)) f2 (by decide +kernel) _ List.mem_cons_self
  · exact pRel_fr (pRel_fr (R := VLs) (rl_v hR.1) f1 (by decide +kernel)) f2 (by decide +kernel) q hq
  · refine ⟨⟨?_, ?_⟩, vb_fr (vb_fr hR.2.2.2 f1 (by decide +kernel)) f2 (by decide +kernel)⟩
    · unfold tdB
      rw [ri_fr (a := 34) (i := 7) f2 (by decide), e3]
      omega
    · unfold tdB
      rw [ri_fr (a := 48) (i := 7) f2 (by decide), ri_fr (a := 48) (i := 7) f1 (by decide)]
      exact b2
theorem lw_book (x1 : Int32) (hh : HI HT h) (hj : JT h) (hR : RJ h) : ∃ (r1 r2 : Int32) (h1 h2 : List pC), Run prog E pV1 120 mX7_book [.ref 0, .int x1] h (some (.int r1), h1, 0, 0) ∧ Run prog E pV1 120 mX8_book [.ref 110, .int x1] h1 (some (.int r2), h2, 0, 0) ∧ (∃ o, pobj h1 110 = some o ∧ o.1 = 8) ∧ HI HT h2 ∧ JT h2 ∧ RJ h2 := by
  obtain ⟨r1, h1, q1, hh1, f1, hj1⟩ := pub_of (E := E) (a := 0) (kg_c_book JT_P hands) (N := mX7_book) rfl (List.cons_ne_nil _ _) [x1] rfl (fun q => by cases q) (Nat.le_of_ble_eq_true rfl) hh hj
  obtain ⟨r2, h2, q2, hh2, f2, hj2⟩ := pub_of (E := E) (a := 110) (kg_r_book JT_P hands) (N := mX8_book) rfl (List.cons_ne_nil _ _) [x1] rfl (fun q => by cases q) (Nat.le_of_ble_eq_true rfl) hh1 hj1
  exact ⟨r1, r2, h1, h2, q1, q2, mobj hh1, hh2, hj2, ⟨pRel_fr (pRel_fr hR.1 f1 (by decide +kernel)) f2 (by decide +kernel), cRel_fr (cRel_fr hR.2.1 f1 (by decide +kernel)) f2 (by decide +kernel), xj_fr (xj_fr hR.2.2 f1 (by decide +kernel)) f2 (by decide +kernel)⟩⟩
theorem lw_behind (x1 x2 : Int32) (hh : HI HT h) (hj : JT h) (hR : RJ h) : ∃ (r1 r2 : Int32) (h1 h2 : List pC), Run prog E pV1 120 mX7_behind [.ref 0, .int x1, .int x2] h (some (.int r1), h1, 0, 0) ∧ Run prog E pV1 120 mX8_behind [.ref 110, .int x1, .int x2] h1 (some (.int r2), h2, 0, 0) ∧ (∃ o, pobj h1 110 = some o ∧ o.1 = 8) ∧ HI HT h2 ∧ JT h2 ∧ RJ h2 := by
  obtain ⟨r1, h1, q1, hh1, f1, hj1⟩ := pub_of (E := E) (a := 0) (kg_c_behind JT_P hands) (N := mX7_behind) rfl (List.cons_ne_nil _ _) [x1, x2] rfl (fun q => by cases q) (Nat.le_of_ble_eq_true rfl) hh hj
  obtain ⟨r2, h2, q2, hh2, f2, hj2⟩ := pub_of (E := E) (a := 110) (hd_behind hands) (N := mX8_behind) rfl (List.cons_ne_nil _ _) [x1, x2] rfl (fun q => by cases q) (Nat.le_of_ble_eq_true rfl) hh1 hj1
  exact ⟨r1, r2, h1, h2, q1, q2, mobj hh1, hh2, hj2, ⟨pRel_fr (pRel_fr hR.1 f1 (by decide +kernel)) f2 (by decide +kernel), cRel_fr (cRel_fr hR.2.1 f1 (by decide +kernel)) f2 (by decide +kernel), xj_fr (xj_fr hR.2.2 f1 (by decide +kernel)) f2 (by decide +kernel)⟩⟩
theorem lw_lasts (hh : HI HT h) (hj : JT h) (hR : RJ h) : ∃ (r1 r2 : Int32) (h1 h2 : List pC), Run prog E pV1 120 mX7_lasts [.ref 0] h (some (.int r1), h1, 0, 0) ∧ Run prog E pV1 120 mX8_lasts [.ref 110] h1 (some (.int r2), h2, 0, 0) ∧ (∃ o, pobj h1 110 = some o ∧ o.1 = 8) ∧ HI HT h2 ∧ JT h2 ∧ RJ h2 := by
  obtain ⟨r1, h1, q1, hh1, f1, hj1⟩ := pub_of (E := E) (a := 0) (kg_c_lasts JT_P hands) (N := mX7_lasts) rfl (List.cons_ne_nil _ _) [] rfl (fun q => by cases q) (Nat.le_of_ble_eq_true rfl) hh hj
  obtain ⟨r2, h2, q2, hh2, f2, hj2⟩ := pub_of (E := E) (a := 110) (hd_lasts hands) (N := mX8_lasts) rfl (List.cons_ne_nil _ _) [] rfl (fun q => by cases q) (Nat.le_of_ble_eq_true rfl) hh1 hj1
  exact ⟨r1, r2, h1, h2, q1, q2, mobj hh1, hh2, hj2, ⟨pRel_fr (pRel_fr hR.1 f1 (by decide +kernel)) f2 (by decide +kernel), cRel_fr (cRel_fr hR.2.1 f1 (by decide +kernel)) f2 (by decide +kernel), xj_fr (xj_fr hR.2.2 f1 (by decide +kernel)) f2 (by decide +kernel)⟩⟩
theorem lw_best (x1 x2 x3 : Int32) (hh : HI HT h) (hj : JT h) (hR : RJ h) : ∃ (r1 r2 : Int32) (h1 h2 : List pC), Run prog E pV1 120 mX7_best [.ref 0, .int x1, .int x2, .int x3] h (some (.int r1), h1, 0, 0) ∧ Run prog E pV1 120 mX8_best [.ref 110, .int x1, .int x2, .int x3] h1 (some (.int r2), h2, 0, 0) ∧ (∃ o, pobj h1 110 = some o ∧ o.1 = 8) ∧ HI HT h2 ∧ JT h2 ∧ RJ h2 := by
  obtain ⟨r1, h1, q1, hh1, f1, hj1⟩ := pub_of (E := E) (a := 0) (kg_c_best JT_P hands) (N := mX7_best) rfl (List.cons_ne_nil _ _) [x1, x2, x3] rfl (fun q => by cases q) (Nat.le_of_ble_eq_true rfl) hh hj
  obtain ⟨r2, h2, q2, hh2, f2, hj2⟩ := pub_of (E := E) (a := 110) (hd_best hands) (N := mX8_best) rfl (List.cons_ne_nil _ _) [x1, x2, x3] rfl (fun q => by cases q) (Nat.le_of_ble_eq_true rfl) hh1 hj1
  exact ⟨r1, r2, h1, h2, q1, q2, mobj hh1, hh2, hj2, ⟨pRel_fr (pRel_fr hR.1 f1 (by decide +kernel)) f2 (by decide +kernel), cRel_fr (cRel_fr hR.2.1 f1 (by decide +kernel)) f2 (by decide +kernel), xj_fr (xj_fr hR.2.2 f1 (by decide +kernel)) f2 (by decide +kernel)⟩⟩
theorem lw_taught (x1 x2 : Int32) (hh : HI HT h) (hj : JT h) (hR : RJ h) : ∃ (r1 r2 : Int32) (h1 h2 : List pC), Run prog E pV1 120 mX7_taught [.ref 0, .int x1, .int x2] h (some (.int r1), h1, 0, 0) ∧ Run prog E pV1 120 mX8_taught [.ref 110, .int x1, .int x2] h1 (some (.int r2), h2, 0, 0) ∧ (∃ o, pobj h1 110 = some o ∧ o.1 = 8) ∧ HI HT h2 ∧ JT h2 ∧ RJ h2 := by
  obtain ⟨r1, h1, q1, hh1, f1, hj1⟩ := pub_of (E := E) (a := 0) (kg_c_taught JT_P hands) (N := mX7_taught) rfl (List.cons_ne_nil _ _) [x1, x2] rfl (fun q => by cases q) (Nat.le_of_ble_eq_true rfl) hh hj
  obtain ⟨r2, h2, q2, hh2, f2, hj2⟩ := pub_of (E := E) (a := 110) (hd_taught hands) (N := mX8_taught) rfl (List.cons_ne_nil _ _) [x1, x2] rfl (fun q => by cases q) (Nat.le_of_ble_eq_true rfl) hh1 hj1
  exact ⟨r1, r2, h1, h2, q1, q2, mobj hh1, hh2, hj2, ⟨pRel_fr (pRel_fr hR.1 f1 (by decide +kernel)) f2 (by decide +kernel), cRel_fr (cRel_fr hR.2.1 f1 (by decide +kernel)) f2 (by decide +kernel), xj_fr (xj_fr hR.2.2 f1 (by decide +kernel)) f2 (by decide +kernel)⟩⟩
theorem lw_whose (x1 x2 : Int32) (hh : HI HT h) (hj : JT h) (hR : RJ h) : ∃ (r : Int32) (h1 h2 : List pC), Run prog E pV1 120 mX7_whose [.ref 0, .int x1, .int x2] h (some (.int r), h1, 0, 0) ∧ Run prog E pV1 120 mX8_whose [.ref 110, .int x1, .int x2] h1 (some (.int r), h2, 0, 0) ∧ (∃ o, pobj h1 110 = some o ∧ o.1 = 8) ∧ HI HT h2 ∧ JT h2 ∧ RJ h2 := by
  obtain ⟨v, q1, q2⟩ := whose_both (E := E) x1 x2 hh hj (hR.1 _ (List.mem_append_left _ List.mem_cons_self)) (fun k hk hm f hf => cl_1 hR.2.1 (ty_34_5 hh hR).2 k f hk hf (by omega)) (rss_of hR.1) (vl_e (rl_v hR.1)) hR.2.2.2
  exact ⟨v, h, h, q1, q2, mobj hh, hh, hj, hR⟩
theorem lw_fee (hh : HI HT h) (hj : JT h) (hR : RJ h) : ∃ (r1 r2 : Int32) (h1 h2 : List pC), Run prog E pV1 120 mX7_fee [.ref 0] h (some (.int r1), h1, 0, 0) ∧ Run prog E pV1 120 mX8_fee [.ref 110] h1 (some (.int r2), h2, 0, 0) ∧ (∃ o, pobj h1 110 = some o ∧ o.1 = 8) ∧ HI HT h2 ∧ JT h2 ∧ RJ h2 := by
  obtain ⟨r1, h1, q1, hh1, f1, hj1⟩ := pub_of (E := E) (a := 0) (kg_c_fee JT_P hands) (N := mX7_fee) rfl (List.cons_ne_nil _ _) [] rfl (fun q => by cases q) (Nat.le_of_ble_eq_true rfl) hh hj
  obtain ⟨r2, h2, q2, hh2, f2, hj2⟩ := pub_of (E := E) (a := 110) hd_fee (N := mX8_fee) rfl (List.cons_ne_nil _ _) [] rfl (fun q => by cases q) (Nat.le_of_ble_eq_true rfl) hh1 hj1
  exact ⟨r1, r2, h1, h2, q1, q2, mobj hh1, hh2, hj2, ⟨pRel_fr (pRel_fr hR.1 f1 (by decide +kernel)) f2 (by decide +kernel), cRel_fr (cRel_fr hR.2.1 f1 (by decide +kernel)) f2 (by decide +kernel), xj_fr (xj_fr hR.2.2 f1 (by decide +kernel)) f2 (by decide +kernel)⟩⟩
theorem lw_fine (x1 : Int32) (hh : HI HT h) (hj : JT h) (hR : RJ h) : ∃ (r1 r2 : Int32) (h1 h2 : List pC), Run prog E pV1 120 mX7_fine [.ref 0, .int x1] h (some (.int r1), h1, 0, 0) ∧ Run prog E pV1 120 mX8_fine [.ref 110, .int x1] h1 (some (.int r2), h2, 0, 0) ∧ (∃ o, pobj h1 110 = some o ∧ o.1 = 8) ∧ HI HT h2 ∧ JT h2 ∧ RJ h2 := by
  obtain ⟨r1, h1, q1, hh1, f1, hj1⟩ := pub_of (E := E) (a := 0) (kg_c_fine JT_P hands) (N := mX7_fine) rfl (List.cons_ne_nil _ _) [x1] rfl (fun q => by cases q) (Nat.le_of_ble_eq_true rfl) hh hj
  obtain ⟨r2, h2, q2, hh2, f2, hj2⟩ := pub_of (E := E) (a := 110) hd_fine (N := mX8_fine) rfl (List.cons_ne_nil _ _) [x1] rfl (fun q => by cases q) (Nat.le_of_ble_eq_true rfl) hh1 hj1
  exact ⟨r1, r2, h1, h2, q1, q2, mobj hh1, hh2, hj2, ⟨pRel_fr (pRel_fr hR.1 f1 (by decide +kernel)) f2 (by decide +kernel), cRel_fr (cRel_fr hR.2.1 f1 (by decide +kernel)) f2 (by decide +kernel), xj_fr (xj_fr hR.2.2 f1 (by decide +kernel)) f2 (by decide +kernel)⟩⟩
theorem lw_feed (x1 x2 x3 : Int32) (hh : HI HT h) (hj : JT h) (hR : RJ h) : ∃ (r1 r2 : Int32) (h1 h2 : List pC), Run prog E pV1 120 mX7_feed [.ref 0, .int x1, .int x2, .int x3] h (some (.int r1), h1, 0, 0) ∧ Run prog E pV1 120 mX8_feed [.ref 110, .int x1, .int x2, .int x3] h1 (some (.int r2), h2, 0, 0) ∧ (∃ o, pobj h1 110 = some o ∧ o.1 = 8) ∧ HI HT h2 ∧ JT h2 ∧ RJ h2 := by
  obtain ⟨r1, h1, q1, hh1, f1, hj1⟩ := pub_of (E := E) (a := 0) (kg_c_feed JT_P hands) (N := mX7_feed) rfl (List.cons_ne_nil _ _) [x1, x2, x3] rfl (fun q => by cases q) (Nat.le_of_ble_eq_true rfl) hh hj
  obtain ⟨r2, h2, q2, hh2, f2, hj2⟩ := pub_of (E := E) (a := 110) (kg_r_feed JT_P hands) (N := mX8_feed) rfl (List.cons_ne_nil _ _) [x1, x2, x3] rfl (fun q => by cases q) (Nat.le_of_ble_eq_true rfl) hh1 hj1
  exact ⟨r1, r2, h1, h2, q1, q2, mobj hh1, hh2, hj2, ⟨pRel_fr (pRel_fr hR.1 f1 (by decide +kernel)) f2 (by decide +kernel), cRel_fr (cRel_fr hR.2.1 f1 (by decide +kernel)) f2 (by decide +kernel), xj_fr (xj_fr hR.2.2 f1 (by decide +kernel)) f2 (by decide +kernel)⟩⟩
theorem lw_trim (x1 : Int32) (hh : HI HT h) (hj : JT h) (hR : RJ h) : ∃ (r1 r2 : Int32) (h1 h2 : List pC), Run prog E pV1 120 mX7_trim [.ref 0, .int x1] h (some (.int r1), h1, 0, 0) ∧ Run prog E pV1 120 mX8_trim [.ref 110, .int x1] h1 (some (.int r2), h2, 0, 0) ∧ (∃ o, pobj h1 110 = some o ∧ o.1 = 8) ∧ HI HT h2 ∧ JT h2 ∧ RJ h2 := by
  obtain ⟨r1, h1, q1, hh1, f1, hj1⟩ := pub_of (E := E) (a := 0) (kg_c_trim JT_P hands) (N := mX7_trim) rfl (List.cons_ne_nil _ _) [x1] rfl (fun q => by cases q) (Nat.le_of_ble_eq_true rfl) hh hj
  obtain ⟨r2, h2, q2, hh2, f2, hj2⟩ := pub_of (E := E) (a := 110) (kg_r_trim JT_P hands) (N := mX8_trim) rfl (List.cons_ne_nil _ _) [x1] rfl (fun q => by cases q) (Nat.le_of_ble_eq_true rfl) hh1 hj1
  exact ⟨r1, r2, h1, h2, q1, q2, mobj hh1, hh2, hj2, ⟨pRel_fr (pRel_fr hR.1 f1 (by decide +kernel)) f2 (by decide +kernel), cRel_fr (cRel_fr hR.2.1 f1 (by decide +kernel)) f2 (by decide +kernel), xj_fr (xj_fr hR.2.2 f1 (by decide +kernel)) f2 (by decide +kernel)⟩⟩
theorem lw_text (hh : HI HT h) (hj : JT h) (hR : RJ h) : ∃ (r1 r2 : Int32) (h1 h2 : List pC), Run prog E pV1 120 mX7_text [.ref 0] h (some (.int r1), h1, 0, 0) ∧ Run prog E pV1 120 mX8_text [.ref 110] h1 (some (.int r2), h2, 0, 0) ∧ (∃ o, pobj h1 110 = some o ∧ o.1 = 8) ∧ HI HT h2 ∧ JT h2 ∧ RJ h2 := by
  obtain ⟨r1, h1, q1, hh1, f1, hj1⟩ := pub_of (E := E) (a := 0) (kg_c_text JT_P hands) (N := mX7_text) rfl (List.cons_ne_nil _ _) [] rfl (fun q => by cases q) (Nat.le_of_ble_eq_true rfl) hh hj
  obtain ⟨r2, h2, q2, hh2, f2, hj2⟩ := pub_of (E := E) (a := 110) hd_text (N := mX8_text) rfl (List.cons_ne_nil _ _) [] rfl (fun q => by cases q) (Nat.le_of_ble_eq_true rfl) hh1 hj1
  exact ⟨r1, r2, h1, h2, q1, q2, mobj hh1, hh2, hj2, ⟨pRel_fr (pRel_fr hR.1 f1 (by decide +kernel)) f2 (by decide +kernel), cRel_fr (cRel_fr hR.2.1 f1 (by decide +kernel)) f2 (by decide +kernel), xj_fr (xj_fr hR.2.2 f1 (by decide +kernel)) f2 (by decide +kernel)⟩⟩
theorem lw_textTold (x1 x2 : Int32) (hh : HI HT h) (hj : JT h) (hR : RJ h) : ∃ (r1 r2 : Int32) (h1 h2 : List pC), Run prog E pV1 120 mX7_textTold [.ref 0, .int x1, .int x2] h (some (.int r1), h1, 0, 0) ∧ Run prog E pV1 120 mX8_textTold [.ref 110, .int x1, .int x2] h1 (some (.int r2), h2, 0, 0) ∧ (∃ o, pobj h1 110 = some o ∧ o.1 = 8) ∧ HI HT h2 ∧ JT h2 ∧ RJ h2 := by
  obtain ⟨r1, h1, q1, hh1, f1, hj1⟩ := pub_of (E := E) (a := 0) (kg_c_textTold JT_P hands) (N := mX7_textTold) rfl (List.cons_ne_nil _ _) [x1, x2] rfl (fun q => by cases q) (Nat.le_of_ble_eq_true rfl) hh hj
  obtain ⟨r2, h2, q2, hh2, f2, hj2⟩ := pub_of (E := E) (a := 110) (kg_r_textTold JT_P hands) (N := mX8_textTold) rfl (List.cons_ne_nil _ _) [x1, x2] rfl (fun q => by cases q) (Nat.le_of_ble_eq_true rfl) hh1 hj1
  exact ⟨r1, r2, h1, h2, q1, q2, mobj hh1, hh2, hj2, ⟨pRel_fr (pRel_fr hR.1 f1 (by decide +kernel)) f2 (by decide +kernel), cRel_fr (cRel_fr hR.2.1 f1 (by decide +kernel)) f2 (by decide +kernel), xj_fr (xj_fr hR.2.2 f1 (by decide +kernel)) f2 (by decide +kernel)⟩⟩
theorem lw_why (x1 : Int32) (hh : HI HT h) (hj : JT h) (hR : RJ h) : ∃ (r1 r2 : Int32) (h1 h2 : List pC), Run prog E pV1 120 mX7_why [.ref 0, .int x1] h (some (.int r1), h1, 0, 0) ∧ Run prog E pV1 120 mX8_why [.ref 110, .int x1] h1 (some (.int r2), h2, 0, 0) ∧ (∃ o, pobj h1 110 = some o ∧ o.1 = 8) ∧ HI HT h2 ∧ JT h2 ∧ RJ h2 := by
  obtain ⟨r1, h1, q1, hh1, f1, hj1⟩ := pub_of (E := E) (a := 0) (kg_c_why JT_P hands) (N := mX7_why) rfl (List.cons_ne_nil _ _) [x1] rfl (fun q => by cases q) (Nat.le_of_ble_eq_true rfl) hh hj
  obtain ⟨r2, h2, q2, hh2, f2, hj2⟩ := pub_of (E := E) (a := 110) (kg_r_why JT_P hands) (N := mX8_why) rfl (List.cons_ne_nil _ _) [x1] rfl (fun q => by cases q) (Nat.le_of_ble_eq_true rfl) hh1 hj1
  exact ⟨r1, r2, h1, h2, q1, q2, mobj hh1, hh2, hj2, ⟨pRel_fr (pRel_fr hR.1 f1 (by decide +kernel)) f2 (by decide +kernel), cRel_fr (cRel_fr hR.2.1 f1 (by decide +kernel)) f2 (by decide +kernel), xj_fr (xj_fr hR.2.2 f1 (by decide +kernel)) f2 (by decide +kernel)⟩⟩
theorem lf_sheet0_0 (x1 x2 x3 : Int32) (hh : HI HT h) (hj : JT h) (hR : RJ h) (a1 : 0 ≤ x1.toInt ∧ x1.toInt ≤ 0) (a2 : (-2147483648) ≤ x2.toInt ∧ x2.toInt ≤ (-2)) : ∃ (r1 r2 : Int32) (h1 h2 : List pC), Run prog E pV1 120 mX7_sheet [.ref 0, .int x1, .int x2, .int x3] h (some (.int r1), h1, 0, 0) ∧ Run prog E pV1 120 mX8_sheet [.ref 110, .int x1, .int x2, .int x3] h1 (some (.int r2), h2, 0, 0) ∧ (∃ o, pobj h1 110 = some o ∧ o.1 = 8) ∧ HI HT h2 ∧ JT h2 ∧ RJ h2 := by
  obtain ⟨r, h1, h2, q1, q2, q3, p1, p2, p3, p4⟩ := pr_ok3 (E := E) (x1 := x1) (x2 := x2) (x3 := x3) cp_sheet0_0 rfl rfl (List.cons_ne_nil _ _) (List.cons_ne_nil _ _) (fun _ h => absurd h List.not_mem_nil) hh hj hR.1 hR.2.1 ⟨a1, a2, i32_b x3, trivial⟩ pBd.nl (fun e he => by cases he)
  exact ⟨r, r, h1, h2, q1, q2, q3, p1, p2, p3.1, p3.2, xj_fr hR.2.2 p4 (by decide +kernel)⟩
theorem lf_sheet0_1 (x1 x2 x3 : Int32) (hh : HI HT h) (hj : JT h) (hR : RJ h) (a1 : 0 ≤ x1.toInt ∧ x1.toInt ≤ 0) (a2 : (-1) ≤ x2.toInt ∧ x2.toInt ≤ (-1)) : ∃ (r1 r2 : Int32) (h1 h2 : List pC), Run prog E pV1 120 mX7_sheet [.ref 0, .int x1, .int x2, .int x3] h (some (.int r1), h1, 0, 0) ∧ Run prog E pV1 120 mX8_sheet [.ref 110, .int x1, .int x2, .int x3] h1 (some (.int r2), h2, 0, 0) ∧ (∃ o, pobj h1 110 = some o ∧ o.1 = 8) ∧ HI HT h2 ∧ JT h2 ∧ RJ h2 := by
  obtain ⟨r, h1, h2, q1, q2, q3, p1, p2, p3, p4⟩ := pr_ok3 (E := E) (x1 := x1) (x2 := x2) (x3 := x3) cp_sheet0_1 rfl rfl (List.cons_ne_nil _ _) (List.cons_ne_nil _ _) (fun _ h => absurd h List.not_mem_nil) hh hj hR.1 hR.2.1 ⟨a1, a2, i32_b x3, trivial⟩ (pBd.cs (ty_82_1 hh hR).1 (ty_82_1 hh hR).2 (pBd.cs (ty_82_2 hh hR).1 (ty_82_2 hh hR).2 pBd.nl)) (fun e he => by cases he)
  obtain ⟨r', g1, k1, gg, gj, gf, gz⟩ := ox_ok (E := E) (xs := [x1, x2, x3]) (R' := ro_sv0_1) (Q := fun _ h' => ∀ j : Nat, j < 24 → ri h' 83 j = 0) ox_sv0_1 rfl (fun _ h => absurd h List.not_mem_nil) hj hh (fun _ hq => absurd hq List.not_mem_nil) pBd.nl ⟨a1, a2, i32_b x3, trivial⟩ (fun e he => by cases he) (fun σ Γ C Δ x r h' he _ _ hC _ hr => by
    obtain ⟨a1, -⟩ := ecV_ok he hC hr
    exact fun j hj24 => Int32.toInt_inj.mp ((zcn (a1 _ (svc_m hj24))).trans (by decide)))
  have e1 : g1 = h1 := (Prod.mk.inj (Prod.mk.inj (Run.det k1 q1)).2).1
  rw [e1] at gg gj gf gz
  obtain ⟨r2, g2, k2, -, f2, -⟩ := pub_of (E := E) (a := 110) (kg_r_sheet JT_P hands) (N := mX8_sheet) rfl (List.cons_ne_nil _ _) [x1, x2, x3] rfl (fun q => by cases q) (Nat.le_of_ble_eq_true rfl) gg gj
  have e2 : g2 = h2 := (Prod.mk.inj (Prod.mk.inj (Run.det k2 q2)).2).1
  rw [e2] at f2
  exact ⟨r, r, h1, h2, q1, q2, q3, p1, p2, p3.1, p3.2, ⟨xk_fr hR.2.2.1 p4 (by decide +kernel), vb_row (U := 0) hR.2.2.2 gz gf f2⟩⟩
theorem lf_sheet0_2 (x1 x2 x3 : Int32) (hh : HI HT h) (hj : JT h) (hR : RJ h) (a1 : 0 ≤ x1.toInt ∧ x1.toInt ≤ 0) (a2 : 0 ≤ x2.toInt ∧ x2.toInt ≤ 0) (a3 : (-2147483648) ≤ x3.toInt ∧ x3.toInt ≤ (-1)) : ∃ (r1 r2 : Int32) (h1 h2 : List pC), Run prog E pV1 120 mX7_sheet [.ref 0, .int x1, .int x2, .int x3] h (some (.int r1), h1, 0, 0) ∧ Run prog E pV1 120 mX8_sheet [.ref 110, .int x1, .int x2, .int x3] h1 (some (.int r2), h2, 0, 0) ∧ (∃ o, pobj h1 110 = some o ∧ o.1 = 8) ∧ HI HT h2 ∧ JT h2 ∧ RJ h2 := by
  obtain ⟨r, h1, h2, q1, q2, q3, p1, p2, p3, p4⟩ := pr_ok3 (E := E) (x1 := x1) (x2 := x2) (x3 := x3) cp_sheet0_2 rfl rfl (List.cons_ne_nil _ _) (List.cons_ne_nil _ _) (fun _ h => absurd h List.not_mem_nil) hh hj hR.1 hR.2.1 ⟨a1, a2, a3, trivial⟩ pBd.nl (fun e he => by cases he)
  exact ⟨r, r, h1, h2, q1, q2, q3, p1, p2, p3.1, p3.2, xj_fr hR.2.2 p4 (by decide +kernel)⟩
theorem lf_sheet0_3 (x1 x2 x3 : Int32) (hh : HI HT h) (hj : JT h) (hR : RJ h) (a1 : 0 ≤ x1.toInt ∧ x1.toInt ≤ 0) (a2 : 0 ≤ x2.toInt ∧ x2.toInt ≤ 0) (a3 : 0 ≤ x3.toInt ∧ x3.toInt ≤ 24) : ∃ (r1 r2 : Int32) (h1 h2 : List pC), Run prog E pV1 120 mX7_sheet [.ref 0, .int x1, .int x2, .int x3] h (some (.int r1), h1, 0, 0) ∧ Run prog E pV1 120 mX8_sheet [.ref 110, .int x1, .int x2, .int x3] h1 (some (.int r2), h2, 0, 0) ∧ (∃ o, pobj h1 110 = some o ∧ o.1 = 8) ∧ HI HT h2 ∧ JT h2 ∧ RJ h2 := by
  obtain ⟨r, h1, h2, q1, q2, q3, p1, p2, p3, p4⟩ := pr_ok3 (E := E) (x1 := x1) (x2 := x2) (x3 := x3) cp_sheet0_3 rfl rfl (List.cons_ne_nil _ _) (List.cons_ne_nil _ _) (fun _ h => absurd h List.not_mem_nil) hh hj hR.1 hR.2.1 ⟨a1, a2, a3, trivial⟩ (pBd.cs (ty_82_1 hh hR).1 (ty_82_1 hh hR).2 (pBd.cs (ty_82_2 hh hR).1 (ty_82_2 hh hR).2 pBd.nl)) (fun e he => by cases he)
  obtain ⟨r', g1, k1, gg, gj, gf, gz⟩ := ox_ok (E := E) (xs := [x1, x2, x3]) (R' := ro_sv0_3) (Q := fun _ h' => ∀ j : Nat, j < 24 → ri h' 83 j = 0) ox_sv0_3 rfl (fun _ h => absurd h List.not_mem_nil) hj hh (fun _ hq => absurd hq List.not_mem_nil) pBd.nl ⟨a1, a2, a3, trivial⟩ (fun e he => by cases he) (fun σ Γ C Δ x r h' he _ _ hC _ hr => by
    obtain ⟨a1, -⟩ := ecV_ok he hC hr
    exact fun j hj24 => Int32.toInt_inj.mp ((zcn (a1 _ (svc_m hj24))).trans (by decide)))
  have e1 : g1 = h1 := (Prod.mk.inj (Prod.mk.inj (Run.det k1 q1)).2).1
  rw [e1] at gg gj gf gz
  obtain ⟨r2, g2, k2, -, f2, -⟩ := pub_of (E := E) (a := 110) (kg_r_sheet JT_P hands) (N := mX8_sheet) rfl (List.cons_ne_nil _ _) [x1, x2, x3] rfl (fun q => by cases q) (Nat.le_of_ble_eq_true rfl) gg gj
  have e2 : g2 = h2 := (Prod.mk.inj (Prod.mk.inj (Run.det k2 q2)).2).1
  rw [e2] at f2
  exact ⟨r, r, h1, h2, q1, q2, q3, p1, p2, p3.1, p3.2, ⟨xk_fr hR.2.2.1 p4 (by decide +kernel), vb_row (U := 0) hR.2.2.2 gz gf f2⟩⟩
theorem lf_sheet0_4 (x1 x2 x3 : Int32) (hh : HI HT h) (hj : JT h) (hR : RJ h) (a1 : 0 ≤ x1.toInt ∧ x1.toInt ≤ 0) (a2 : 0 ≤ x2.toInt ∧ x2.toInt ≤ 0) (a3 : 25 ≤ x3.toInt ∧ x3.toInt ≤ 2147483647) : ∃ (r1 r2 : Int32) (h1 h2 : List pC), Run prog E pV1 120 mX7_sheet [.ref 0, .int x1, .int x2, .int x3] h (some (.int r1), h1, 0, 0) ∧ Run prog E pV1 120 mX8_sheet [.ref 110, .int x1, .int x2, .int x3] h1 (some (.int r2), h2, 0, 0) ∧ (∃ o, pobj h1 110 = some o ∧ o.1 = 8) ∧ HI HT h2 ∧ JT h2 ∧ RJ h2 := by
  obtain ⟨r, h1, h2, q1, q2, q3, p1, p2, p3, p4⟩ := pr_ok3 (E := E) (x1 := x1) (x2 := x2) (x3 := x3) cp_sheet0_4 rfl rfl (List.cons_ne_nil _ _) (List.cons_ne_nil _ _) (fun _ h => absurd h List.not_mem_nil) hh hj hR.1 hR.2.1 ⟨a1, a2, a3, trivial⟩ pBd.nl (fun e he => by cases he)
  exact ⟨r, r, h1, h2, q1, q2, q3, p1, p2, p3.1, p3.2, xj_fr hR.2.2 p4 (by decide +kernel)⟩
theorem lf_sheet0_5 (x1 x2 x3 : Int32) (hh : HI HT h) (hj : JT h) (hR : RJ h) (a1 : 0 ≤ x1.toInt ∧ x1.toInt ≤ 0) (a2 : 1 ≤ x2.toInt ∧ x2.toInt ≤ 1) (a3 : (-2147483648) ≤ x3.toInt ∧ x3.toInt ≤ (-1)) : ∃ (r1 r2 : Int32) (h1 h2 : List pC), Run prog E pV1 120 mX7_sheet [.ref 0, .int x1, .int x2, .int x3] h (some (.int r1), h1, 0, 0) ∧ Run prog E pV1 120 mX8_sheet [.ref 110, .int x1, .int x2, .int x3] h1 (some (.int r2), h2, 0, 0) ∧ (∃ o, pobj h1 110 = some o ∧ o.1 = 8) ∧ HI HT h2 ∧ JT h2 ∧ RJ h2 := by
  obtain ⟨r, h1, h2, q1, q2, q3, p1, p2, p3, p4⟩ := pr_ok3 (E := E) (x1 := x1) (x2 := x2) (x3 := x3) cp_sheet0_5 rfl rfl (List.cons_ne_nil _ _) (List.cons_ne_nil _ _) (fun _ h => absurd h List.not_mem_nil) hh hj hR.1 hR.2.1 ⟨a1, a2, a3, trivial⟩ pBd.nl (fun e he => by cases he)
  exact ⟨r, r, h1, h2, q1, q2, q3, p1, p2, p3.1, p3.2, xj_fr hR.2.2 p4 (by decide +kernel)⟩
theorem lf_sheet0_6 (x1 x2 x3 : Int32) (hh : HI HT h) (hj : JT h) (hR : RJ h) (a1 : 0 ≤ x1.toInt ∧ x1.toInt ≤ 0) (a2 : 1 ≤ x2.toInt ∧ x2.toInt ≤ 1) (a3 : 0 ≤ x3.toInt ∧ x3.toInt ≤ 24) : ∃ (r1 r2 : Int32) (h1 h2 : List pC), Run prog E pV1 120 mX7_sheet [.ref 0, .int x1, .int x2, .int x3] h (some (.int r1), h1, 0, 0) ∧ Run prog E pV1 120 mX8_sheet [.ref 110, .int x1, .int x2, .int x3] h1 (some (.int r2), h2, 0, 0) ∧ (∃ o, pobj h1 110 = some o ∧ o.1 = 8) ∧ HI HT h2 ∧ JT h2 ∧ RJ h2 := by
  obtain ⟨r, h1, h2, q1, q2, q3, p1, p2, p3, p4⟩ := pr_ok3 (E := E) (x1 := x1) (x2 := x2) (x3 := x3) cp_sheet0_6 rfl rfl (List.cons_ne_nil _ _) (List.cons_ne_nil _ _) (fun _ h => absurd h List.not_mem_nil) hh hj hR.1 hR.2.1 ⟨a1, a2, a3, trivial⟩ (pBd.cs (ty_82_1 hh hR).1 (ty_82_1 hh hR).2 (pBd.cs (ty_82_2 hh hR).1 (ty_82_2 hh hR).2 pBd.nl)) (fun e he => by cases he)
  obtain ⟨r', g1, k1, gg, gj, gf, gz⟩ := ox_ok (E := E) (xs := [x1, x2, x3]) (R' := ro_sv0_6) (Q := fun _ h' => ∀ j : Nat, j < 24 → ri h' 83 j = 0) ox_sv0_6 rfl (fun _ h => absurd h List.not_mem_nil) hj hh (fun _ hq => absurd hq List.not_mem_nil) pBd.nl ⟨a1, a2, a3, trivial⟩ (fun e he => by cases he) (fun σ Γ C Δ x r h' he _ _ hC _ hr => by
    obtain ⟨a1, -⟩ := ecV_ok he hC hr
    exact fun j hj24 => Int32.toInt_inj.mp ((zcn (a1 _ (svc_m hj24))).trans (by decide)))
  have e1 : g1 = h1 := (Prod.mk.inj (Prod.mk.inj (Run.det k1 q1)).2).1
  rw [e1] at gg gj gf gz
  obtain ⟨r2, g2, k2, -, f2, -⟩ := pub_of (E := E) (a := 110) (kg_r_sheet JT_P hands) (N := mX8_sheet) rfl (List.cons_ne_nil _ _) [x1, x2, x3] rfl (fun q => by cases q) (Nat.le_of_ble_eq_true rfl) gg gj
  have e2 : g2 = h2 := (Prod.mk.inj (Prod.mk.inj (Run.det k2 q2)).2).1
  rw [e2] at f2
  exact ⟨r, r, h1, h2, q1, q2, q3, p1, p2, p3.1, p3.2, ⟨xk_fr hR.2.2.1 p4 (by decide +kernel), vb_row (U := 0) hR.2.2.2 gz gf f2⟩⟩
theorem lf_sheet0_7 (x1 x2 x3 : Int32) (hh : HI HT h) (hj : JT h) (hR : RJ h) (a1 : 0 ≤ x1.toInt ∧ x1.toInt ≤ 0) (a2 : 1 ≤ x2.toInt ∧ x2.toInt ≤ 1) (a3 : 25 ≤ x3.toInt ∧ x3.toInt ≤ 2147483647) : ∃ (r1 r2 : Int32) (h1 h2 : List pC), Run prog E pV1 120 mX7_sheet [.ref 0, .int x1, .int x2, .int x3] h (some (.int r1), h1, 0, 0) ∧ Run prog E pV1 120 mX8_sheet [.ref 110, .int x1, .int x2, .int x3] h1 (some (.int r2), h2, 0, 0) ∧ (∃ o, pobj h1 110 = some o ∧ o.1 = 8) ∧ HI HT h2 ∧ JT h2 ∧ RJ h2 := by
  obtain ⟨r, h1, h2, q1, q2, q3, p1, p2, p3, p4⟩ := pr_ok3 (E := E) (x1 := x1) (x2 := x2) (x3 := x3) cp_sheet0_7 rfl rfl (List.cons_ne_nil _ _) (List.cons_ne_nil _ _) (fun _ h => absurd h List.not_mem_nil) hh hj hR.1 hR.2.1 ⟨a1, a2, a3, trivial⟩ pBd.nl (fun e he => by cases he)
  exact ⟨r, r, h1, h2, q1, q2, q3, p1, p2, p3.1, p3.2, xj_fr hR.2.2 p4 (by decide +kernel)⟩
theorem lf_sheet0_8 (x1 x2 x3 : Int32) (hh : HI HT h) (hj : JT h) (hR : RJ h) (a1 : 0 ≤ x1.toInt ∧ x1.toInt ≤ 0) (a2 : 2 ≤ x2.toInt ∧ x2.toInt ≤ 2147483647) : ∃ (r1 r2 : Int32) (h1 h2 : List pC), Run prog E pV1 120 mX7_sheet [.ref 0, .int x1, .int x2, .int x3] h (some (.int r1), h1, 0, 0) ∧ Run prog E pV1 120 mX8_sheet [.ref 110, .int x1, .int x2, .int x3] h1 (some (.int r2), h2, 0, 0) ∧ (∃ o, pobj h1 110 = some o ∧ o.1 = 8) ∧ HI HT h2 ∧ JT h2 ∧ RJ h2 := by
  obtain ⟨r, h1, h2, q1, q2, q3, p1, p2, p3, p4⟩ := pr_ok3 (E := E) (x1 := x1) (x2 := x2) (x3 := x3) cp_sheet0_8 rfl rfl (List.cons_ne_nil _ _) (List.cons_ne_nil _ _) (fun _ h => absurd h List.not_mem_nil) hh hj hR.1 hR.2.1 ⟨a1, a2, i32_b x3, trivial⟩ pBd.nl (fun e he => by cases he)
  exact ⟨r, r, h1, h2, q1, q2, q3, p1, p2, p3.1, p3.2, xj_fr hR.2.2 p4 (by decide +kernel)⟩
theorem lf_sheet1_0 (x1 x2 x3 : Int32) (hh : HI HT h) (hj : JT h) (hR : RJ h) (a1 : 1 ≤ x1.toInt ∧ x1.toInt ≤ 1) (a2 : (-2147483648) ≤ x2.toInt ∧ x2.toInt ≤ (-2)) : ∃ (r1 r2 : Int32) (h1 h2 : List pC), Run prog E pV1 120 mX7_sheet [.ref 0, .int x1, .int x2, .int x3] h (some (.int r1), h1, 0, 0) ∧ Run prog E pV1 120 mX8_sheet [.ref 110, .int x1, .int x2, .int x3] h1 (some (.int r2), h2, 0, 0) ∧ (∃ o, pobj h1 110 = some o ∧ o.1 = 8) ∧ HI HT h2 ∧ JT h2 ∧ RJ h2 := by
  obtain ⟨r, h1, h2, q1, q2, q3, p1, p2, p3, p4⟩ := pr_ok3 (E := E) (x1 := x1) (x2 := x2) (x3 := x3) cp_sheet1_0 rfl rfl (List.cons_ne_nil _ _) (List.cons_ne_nil _ _) (fun _ h => absurd h List.not_mem_nil) hh hj hR.1 hR.2.1 ⟨a1, a2, i32_b x3, trivial⟩ pBd.nl (fun e he => by cases he)
  exact ⟨r, r, h1, h2, q1, q2, q3, p1, p2, p3.1, p3.2, xj_fr hR.2.2 p4 (by decide +kernel)⟩
theorem lf_sheet1_1 (x1 x2 x3 : Int32) (hh : HI HT h) (hj : JT h) (hR : RJ h) (a1 : 1 ≤ x1.toInt ∧ x1.toInt ≤ 1) (a2 : (-1) ≤ x2.toInt ∧ x2.toInt ≤ (-1)) : ∃ (r1 r2 : Int32) (h1 h2 : List pC), Run prog E pV1 120 mX7_sheet [.ref 0, .int x1, .int x2, .int x3] h (some (.int r1), h1, 0, 0) ∧ Run prog E pV1 120 mX8_sheet [.ref 110, .int x1, .int x2, .int x3] h1 (some (.int r2), h2, 0, 0) ∧ (∃ o, pobj h1 110 = some o ∧ o.1 = 8) ∧ HI HT h2 ∧ JT h2 ∧ RJ h2 := by
  obtain ⟨r, h1, h2, q1, q2, q3, p1, p2, p3, p4⟩ := pr_ok3 (E := E) (x1 := x1) (x2 := x2) (x3 := x3) cp_sheet1_1 rfl rfl (List.cons_ne_nil _ _) (List.cons_ne_nil _ _) (fun _ h => absurd h List.not_mem_nil) hh hj hR.1 hR.2.1 ⟨a1, a2, i32_b x3, trivial⟩ (pBd.cs (ty_84_1 hh hR).1 (ty_84_1 hh hR).2 (pBd.cs (ty_84_2 hh hR).1 (ty_84_2 hh hR).2 pBd.nl)) (fun e he => by cases he)
  obtain ⟨r', g1, k1, gg, gj, gf, gz⟩ := ox_ok (E := E) (xs := [x1, x2, x3]) (R' := ro_sv1_1) (Q := fun _ h' => ∀ j : Nat, j < 24 → ri h' 85 j = 0) ox_sv1_1 rfl (fun _ h => absurd h List.not_mem_nil) hj hh (fun _ hq => absurd hq List.not_mem_nil) pBd.nl ⟨a1, a2, i32_b x3, trivial⟩ (fun e he => by cases he) (fun σ Γ C Δ x r h' he _ _ hC _ hr => by
    obtain ⟨a1, -⟩ := ecV_ok he hC hr
    exact fun j hj24 => Int32.toInt_inj.mp ((zcn (a1 _ (svc_m hj24))).trans (by decide)))
  have e1 : g1 = h1 := (Prod.mk.inj (Prod.mk.inj (Run.det k1 q1)).2).1
  rw [e1] at gg gj gf gz
  obtain ⟨r2, g2, k2, -, f2, -⟩ := pub_of (E := E) (a := 110) (kg_r_sheet JT_P hands) (N := mX8_sheet) rfl (List.cons_ne_nil _ _) [x1, x2, x3] rfl (fun q => by cases q) (Nat.le_of_ble_eq_true rfl) gg gj
  have e2 : g2 = h2 := (Prod.mk.inj (Prod.mk.inj (Run.det k2 q2)).2).1
  rw [e2] at f2
  exact ⟨r, r, h1, h2, q1, q2, q3, p1, p2, p3.1, p3.2, ⟨xk_fr hR.2.2.1 p4 (by decide +kernel), vb_row (U := 1) hR.2.2.2 gz gf f2⟩⟩
theorem lf_sheet1_2 (x1 x2 x3 : Int32) (hh : HI HT h) (hj : JT h) (hR : RJ h) (a1 : 1 ≤ x1.toInt ∧ x1.toInt ≤ 1) (a2 : 0 ≤ x2.toInt ∧ x2.toInt ≤ 0) (a3 : (-2147483648) ≤ x3.toInt ∧ x3.toInt ≤ (-1)) : ∃ (r1 r2 : Int32) (h1 h2 : List pC), Run prog E pV1 120 mX7_sheet [.ref 0, .int x1, .int x2, .int x3] h (some (.int r1), h1, 0, 0) ∧ Run prog E pV1 120 mX8_sheet [.ref 110, .int x1, .int x2, .int x3] h1 (some (.int r2), h2, 0, 0) ∧ (∃ o, pobj h1 110 = some o ∧ o.1 = 8) ∧ HI HT h2 ∧ JT h2 ∧ RJ h2 := by
  obtain ⟨r, h1, h2, q1, q2, q3, p1, p2, p3, p4⟩ := pr_ok3 (E := E) (x1 := x1) (x2 := x2) (x3 := x3) cp_sheet1_2 rfl rfl (List.cons_ne_nil _ _) (List.cons_ne_nil _ _) (fun _ h => absurd h List.not_mem_nil) hh hj hR.1 hR.2.1 ⟨a1, a2, a3, trivial⟩ pBd.nl (fun e he => by cases he)
  exact ⟨r, r, h1, h2, q1, q2, q3, p1, p2, p3.1, p3.2, xj_fr hR.2.2 p4 (by decide +kernel)⟩
theorem lf_sheet1_3 (x1 x2 x3 : Int32) (hh : HI HT h) (hj : JT h) (hR : RJ h) (a1 : 1 ≤ x1.toInt ∧ x1.toInt ≤ 1) (a2 : 0 ≤ x2.toInt ∧ x2.toInt ≤ 0) (a3 : 0 ≤ x3.toInt ∧ x3.toInt ≤ 24) : ∃ (r1 r2 : Int32) (h1 h2 : List pC), Run prog E pV1 120 mX7_sheet [.ref 0, .int x1, .int x2, .int x3] h (some (.int r1), h1, 0, 0) ∧ Run prog E pV1 120 mX8_sheet [.ref 110, .int x1, .int x2, .int x3] h1 (some (.int r2), h2, 0, 0) ∧ (∃ o, pobj h1 110 = some o ∧ o.1 = 8) ∧ HI HT h2 ∧ JT h2 ∧ RJ h2 := by
  obtain ⟨r, h1, h2, q1, q2, q3, p1, p2, p3, p4⟩ := pr_ok3 (E := E) (x1 := x1) (x2 := x2) (x3 := x3) cp_sheet1_3 rfl rfl (List.cons_ne_nil _ _) (List.cons_ne_nil _ _) (fun _ h => absurd h List.not_mem_nil) hh hj hR.1 hR.2.1 ⟨a1, a2, a3, trivial⟩ (pBd.cs (ty_84_1 hh hR).1 (ty_84_1 hh hR).2 (pBd.cs (ty_84_2 hh hR).1 (ty_84_2 hh hR).2 pBd.nl)) (fun e he => by cases he)
  obtain ⟨r', g1, k1, gg, gj, gf, gz⟩ := ox_ok (E := E) (xs := [x1, x2, x3]) (R' := ro_sv1_3) (Q := fun _ h' => ∀ j : Nat, j < 24 → ri h' 85 j = 0) ox_sv1_3 rfl (fun _ h => absurd h List.not_mem_nil) hj hh (fun _ hq => absurd hq List.not_mem_nil) pBd.nl ⟨a1, a2, a3, trivial⟩ (fun e he => by cases he) (fun σ Γ C Δ x r h' he _ _ hC _ hr => by
    obtain ⟨a1, -⟩ := ecV_ok he hC hr
    exact fun j hj24 => Int32.toInt_inj.mp ((zcn (a1 _ (svc_m hj24))).trans (by decide)))
  have e1 : g1 = h1 := (Prod.mk.inj (Prod.mk.inj (Run.det k1 q1)).2).1
  rw [e1] at gg gj gf gz
  obtain ⟨r2, g2, k2, -, f2, -⟩ := pub_of (E := E) (a := 110) (kg_r_sheet JT_P hands) (N := mX8_sheet) rfl (List.cons_ne_nil _ _) [x1, x2, x3] rfl (fun q => by cases q) (Nat.le_of_ble_eq_true rfl) gg gj
  have e2 : g2 = h2 := (Prod.mk.inj (Prod.mk.inj (Run.det k2 q2)).2).1
  rw [e2] at f2
  exact ⟨r, r, h1, h2, q1, q2, q3, p1, p2, p3.1, p3.2, ⟨xk_fr hR.2.2.1 p4 (by decide +kernel), vb_row (U := 1) hR.2.2.2 gz gf f2⟩⟩
theorem lf_sheet1_4 (x1 x2 x3 : Int32) (hh : HI HT h) (hj : JT h) (hR : RJ h) (a1 : 1 ≤ x1.toInt ∧ x1.toInt ≤ 1) (a2 : 0 ≤ x2.toInt ∧ x2.toInt ≤ 0) (a3 : 25 ≤ x3.toInt ∧ x3.toInt ≤ 2147483647) : ∃ (r1 r2 : Int32) (h1 h2 : List pC), Run prog E pV1 120 mX7_sheet [.ref 0, .int x1, .int x2, .int x3] h (some (.int r1), h1, 0, 0) ∧ Run prog E pV1 120 mX8_sheet [.ref 110, .int x1, .int x2, .int x3] h1 (some (.int r2), h2, 0, 0) ∧ (∃ o, pobj h1 110 = some o ∧ o.1 = 8) ∧ HI HT h2 ∧ JT h2 ∧ RJ h2 := by
  obtain ⟨r, h1, h2, q1, q2, q3, p1, p2, p3, p4⟩ := pr_ok3 (E := E) (x1 := x1) (x2 := x2) (x3 := x3) cp_sheet1_4 rfl rfl (List.cons_ne_nil _ _) (List.cons_ne_nil _ _) (fun _ h => absurd h List.not_mem_nil) hh hj hR.1 hR.2.1 ⟨a1, a2, a3, trivial⟩ pBd.nl (fun e he => by cases he)
  exact ⟨r, r, h1, h2, q1, q2, q3, p1, p2, p3.1, p3.2, xj_fr hR.2.2 p4 (by decide +kernel)⟩
theorem lf_sheet1_5 (x1 x2 x3 : Int32) (hh : HI HT h) (hj : JT h) (hR : RJ h) (a1 : 1 ≤ x1.toInt ∧ x1.toInt ≤ 1) (a2 : 1 ≤ x2.toInt ∧ x2.toInt ≤ 1) (a3 : (-2147483648) ≤ x3.toInt ∧ x3.toInt ≤ (-1)) : ∃ (r1 r2 : Int32) (h1 h2 : List pC), Run prog E pV1 120 mX7_sheet [.ref 0, .int x1, .int x2, .int x3] h (some (.int r1), h1, 0, 0) ∧ Run prog E pV1 120 mX8_sheet [.ref 110, .int x1, .int x2, .int x3] h1 (some (.int r2), h2, 0, 0) ∧ (∃ o, pobj h1 110 = some o ∧ o.1 = 8) ∧ HI HT h2 ∧ JT h2 ∧ RJ h2 := by
  obtain ⟨r, h1, h2, q1, q2, q3, p1, p2, p3, p4⟩ := pr_ok3 (E := E) (x1 := x1) (x2 := x2) (x3 := x3) cp_sheet1_5 rfl rfl (List.cons_ne_nil _ _) (List.cons_ne_nil _ _) (fun _ h => absurd h List.not_mem_nil) hh hj hR.1 hR.2.1 ⟨a1, a2, a3, trivial⟩ pBd.nl (fun e he => by cases he)
  exact ⟨r, r, h1, h2, q1, q2, q3, p1, p2, p3.1, p3.2, xj_fr hR.2.2 p4 (by decide +kernel)⟩
theorem lf_sheet1_6 (x1 x2 x3 : Int32) (hh : HI HT h) (hj : JT h) (hR : RJ h) (a1 : 1 ≤ x1.toInt ∧ x1.toInt ≤ 1) (a2 : 1 ≤ x2.toInt ∧ x2.toInt ≤ 1) (a3 : 0 ≤ x3.toInt ∧ x3.toInt ≤ 24) : ∃ (r1 r2 : Int32) (h1 h2 : List pC), Run prog E pV1 120 mX7_sheet [.ref 0, .int x1, .int x2, .int x3] h (some (.int r1), h1, 0, 0) ∧ Run prog E pV1 120 mX8_sheet [.ref 110, .int x1, .int x2, .int x3] h1 (some (.int r2), h2, 0, 0) ∧ (∃ o, pobj h1 110 = some o ∧ o.1 = 8) ∧ HI HT h2 ∧ JT h2 ∧ RJ h2 := by
  obtain ⟨r, h1, h2, q1, q2, q3, p1, p2, p3, p4⟩ := pr_ok3 (E := E) (x1 := x1) (x2 := x2) (x3 := x3) cp_sheet1_6 rfl rfl (List.cons_ne_nil _ _) (List.cons_ne_nil _ _) (fun _ h => absurd h List.not_mem_nil) hh hj hR.1 hR.2.1 ⟨a1, a2, a3, trivial⟩ (pBd.cs (ty_84_1 hh hR).1 (ty_84_1 hh hR).2 (pBd.cs (ty_84_2 hh hR).1 (ty_84_2 hh hR).2 pBd.nl)) (fun e he => by cases he)
  obtain ⟨r', g1, k1, gg, gj, gf, gz⟩ := ox_ok (E := E) (xs := [x1, x2, x3]) (R' := ro_sv1_6) (Q := fun _ h' => ∀ j : Nat, j < 24 → ri h' 85 j = 0) ox_sv1_6 rfl (fun _ h => absurd h List.not_mem_nil) hj hh (fun _ hq => absurd hq List.not_mem_nil) pBd.nl ⟨a1, a2, a3, trivial⟩ (fun e he => by cases he) (fun σ Γ C Δ x r h' he _ _ hC _ hr => by
    obtain ⟨a1, -⟩ := ecV_ok he hC hr
    exact fun j hj24 => Int32.toInt_inj.mp ((zcn (a1 _ (svc_m hj24))).trans (by decide)))
  have e1 : g1 = h1 := (Prod.mk.inj (Prod.mk.inj (Run.det k1 q1)).2).1
  rw [e1] at gg gj gf gz
  obtain ⟨r2, g2, k2, -, f2, -⟩ := pub_of (E := E) (a := 110) (kg_r_sheet JT_P hands) (N := mX8_sheet) rfl (List.cons_ne_nil _ _) [x1, x2, x3] rfl (fun q => by cases q) (Nat.le_of_ble_eq_true rfl) gg gj
  have e2 : g2 = h2 := (Prod.mk.inj (Prod.mk.inj (Run.det k2 q2)).2).1
  rw [e2] at f2
  exact ⟨r, r, h1, h2, q1, q2, q3, p1, p2, p3.1, p3.2, ⟨xk_fr hR.2.2.1 p4 (by decide +kernel), vb_row (U := 1) hR.2.2.2 gz gf f2⟩⟩
theorem lf_sheet1_7 (x1 x2 x3 : Int32) (hh : HI HT h) (hj : JT h) (hR : RJ h) (a1 : 1 ≤ x1.toInt ∧ x1.toInt ≤ 1) (a2 : 1 ≤ x2.toInt ∧ x2.toInt ≤ 1) (a3 : 25 ≤ x3.toInt ∧ x3.toInt ≤ 2147483647) : ∃ (r1 r2 : Int32) (h1 h2 : List pC), Run prog E pV1 120 mX7_sheet [.ref 0, .int x1, .int x2, .int x3] h (some (.int r1), h1, 0, 0) ∧ Run prog E pV1 120 mX8_sheet [.ref 110, .int x1, .int x2, .int x3] h1 (some (.int r2), h2, 0, 0) ∧ (∃ o, pobj h1 110 = some o ∧ o.1 = 8) ∧ HI HT h2 ∧ JT h2 ∧ RJ h2 := by
  obtain ⟨r, h1, h2, q1, q2, q3, p1, p2, p3, p4⟩ := pr_ok3 (E := E) (x1 := x1) (x2 := x2) (x3 := x3) cp_sheet1_7 rfl rfl (List.cons_ne_nil _ _) (List.cons_ne_nil _ _) (fun _ h => absurd h List.not_mem_nil) hh hj hR.1 hR.2.1 ⟨a1, a2, a3, trivial⟩ pBd.nl (fun e he => by cases he)
  exact ⟨r, r, h1, h2, q1, q2, q3, p1, p2, p3.1, p3.2, xj_fr hR.2.2 p4 (by decide +kernel)⟩
theorem lf_sheet1_8 (x1 x2 x3 : Int32) (hh : HI HT h) (hj : JT h) (hR : RJ h) (a1 : 1 ≤ x1.toInt ∧ x1.toInt ≤ 1) (a2 : 2 ≤ x2.toInt ∧ x2.toInt ≤ 2147483647) : ∃ (r1 r2 : Int32) (h1 h2 : List pC), Run prog E pV1 120 mX7_sheet [.ref 0, .int x1, .int x2, .int x3] h (some (.int r1), h1, 0, 0) ∧ Run prog E pV1 120 mX8_sheet [.ref 110, .int x1, .int x2, .int x3] h1 (some (.int r2), h2, 0, 0) ∧ (∃ o, pobj h1 110 = some o ∧ o.1 = 8) ∧ HI HT h2 ∧ JT h2 ∧ RJ h2 := by
  obtain ⟨r, h1, h2, q1, q2, q3, p1, p2, p3, p4⟩ := pr_ok3 (E := E) (x1 := x1) (x2 := x2) (x3 := x3) cp_sheet1_8 rfl rfl (List.cons_ne_nil _ _) (List.cons_ne_nil _ _) (fun _ h => absurd h List.not_mem_nil) hh hj hR.1 hR.2.1 ⟨a1, a2, i32_b x3, trivial⟩ pBd.nl (fun e he => by cases he)
  exact ⟨r, r, h1, h2, q1, q2, q3, p1, p2, p3.1, p3.2, xj_fr hR.2.2 p4 (by decide +kernel)⟩
theorem lf_sheet2_0 (x1 x2 x3 : Int32) (hh : HI HT h) (hj : JT h) (hR : RJ h) (a1 : 2 ≤ x1.toInt ∧ x1.toInt ≤ 2) (a2 : (-2147483648) ≤ x2.toInt ∧ x2.toInt ≤ (-2)) : ∃ (r1 r2 : Int32) (h1 h2 : List pC), Run prog E pV1 120 mX7_sheet [.ref 0, .int x1, .int x2, .int x3] h (some (.int r1), h1, 0, 0) ∧ Run prog E pV1 120 mX8_sheet [.ref 110, .int x1, .int x2, .int x3] h1 (some (.int r2), h2, 0, 0) ∧ (∃ o, pobj h1 110 = some o ∧ o.1 = 8) ∧ HI HT h2 ∧ JT h2 ∧ RJ h2 := by
  obtain ⟨r, h1, h2, q1, q2, q3, p1, p2, p3, p4⟩ := pr_ok3 (E := E) (x1 := x1) (x2 := x2) (x3 := x3) cp_sheet2_0 rfl rfl (List.cons_ne_nil _ _) (List.cons_ne_nil _ _) (fun _ h => absurd h List.not_mem_nil) hh hj hR.1 hR.2.1 ⟨a1, a2, i32_b x3, trivial⟩ pBd.nl (fun e he => by cases he)
  exact ⟨r, r, h1, h2, q1, q2, q3, p1, p2, p3.1, p3.2, xj_fr hR.2.2 p4 (by decide +kernel)⟩
theorem lf_sheet2_1 (x1 x2 x3 : Int32) (hh : HI HT h) (hj : JT h) (hR : RJ h) (a1 : 2 ≤ x1.toInt ∧ x1.toInt ≤ 2) (a2 : (-1) ≤ x2.toInt ∧ x2.toInt ≤ (-1)) : ∃ (r1 r2 : Int32) (h1 h2 : List pC), Run prog E pV1 120 mX7_sheet [.ref 0, .int x1, .int x2, .int x3] h (some (.int r1), h1, 0, 0) ∧ Run prog E pV1 120 mX8_sheet [.ref 110, .int x1, .int x2, .int x3] h1 (some (.int r2), h2, 0, 0) ∧ (∃ o, pobj h1 110 = some o ∧ o.1 = 8) ∧ HI HT h2 ∧ JT h2 ∧ RJ h2 := by
  obtain ⟨r, h1, h2, q1, q2, q3, p1, p2, p3, p4⟩ := pr_ok3 (E := E) (x1 := x1) (x2 := x2) (x3 := x3) cp_sheet2_1 rfl rfl (List.cons_ne_nil _ _) (List.cons_ne_nil _ _) (fun _ h => absurd h List.not_mem_nil) hh hj hR.1 hR.2.1 ⟨a1, a2, i32_b x3, trivial⟩ (pBd.cs (ty_86_1 hh hR).1 (ty_86_1 hh hR).2 (pBd.cs (ty_86_2 hh hR).1 (ty_86_2 hh hR).2 pBd.nl)) (fun e he => by cases he)
  obtain ⟨r', g1, k1, gg, gj, gf, gz⟩ := ox_ok (E := E) (xs := [x1, x2, x3]) (R' := ro_sv2_1) (Q := fun _ h' => ∀ j : Nat, j < 24 → ri h' 87 j = 0) ox_sv2_1 rfl (fun _ h => absurd h List.not_mem_nil) hj hh (fun _ hq => absurd hq List.not_mem_nil) pBd.nl ⟨a1, a2, i32_b x3, trivial⟩ (fun e he => by cases he) (fun σ Γ C Δ x r h' he _ _ hC _ hr => by
    obtain ⟨a1, -⟩ := ecV_ok he hC hr
    exact fun j hj24 => Int32.toInt_inj.mp ((zcn (a1 _ (svc_m hj24))).trans (by decide)))
  have e1 : g1 = h1 := (Prod.mk.inj (Prod.mk.inj (Run.det k1 q1)).2).1
  rw [e1] at gg gj gf gz
  obtain ⟨r2, g2, k2, -, f2, -⟩ := pub_of (E := E) (a := 110) (kg_r_sheet JT_P hands) (N := mX8_sheet) rfl (List.cons_ne_nil _ _) [x1, x2, x3] rfl (fun q => by cases q) (Nat.le_of_ble_eq_true rfl) gg gj
  have e2 : g2 = h2 := (Prod.mk.inj (Prod.mk.inj (Run.det k2 q2)).2).1
  rw [e2] at f2
  exact ⟨r, r, h1, h2, q1, q2, q3, p1, p2, p3.1, p3.2, ⟨xk_fr hR.2.2.1 p4 (by decide +kernel), vb_row (U := 2) hR.2.2.2 gz gf f2⟩⟩
theorem lf_sheet2_2 (x1 x2 x3 : Int32) (hh : HI HT h) (hj : JT h) (hR : RJ h) (a1 : 2 ≤ x1.toInt ∧ x1.toInt ≤ 2) (a2 : 0 ≤ x2.toInt ∧ x2.toInt ≤ 0) (a3 : (-2147483648) ≤ x3.toInt ∧ x3.toInt ≤ (-1)) : ∃ (r1 r2 : Int32) (h1 h2 : List pC), Run prog E pV1 120 mX7_sheet [.ref 0, .int x1, .int x2, .int x3] h (some (.int r1), h1, 0, 0) ∧ Run prog E pV1 120 mX8_sheet [.ref 110, .int x1, .int x2, .int x3] h1 (some (.int r2), h2, 0, 0) ∧ (∃ o, pobj h1 110 = some o ∧ o.1 = 8) ∧ HI HT h2 ∧ JT h2 ∧ RJ h2 := by
  obtain ⟨r, h1, h2, q1, q2, q3, p1, p2, p3, p4⟩ := pr_ok3 (E := E) (x1 := x1) (x2 := x2) (x3 := x3) cp_sheet2_2 rfl rfl (List.cons_ne_nil _ _) (List.cons_ne_nil _ _) (fun _ h => absurd h List.not_mem_nil) hh hj hR.1 hR.2.1 ⟨a1, a2, a3, trivial⟩ pBd.nl (fun e he => by cases he)
  exact ⟨r, r, h1, h2, q1, q2, q3, p1, p2, p3.1, p3.2, xj_fr hR.2.2 p4 (by decide +kernel)⟩
theorem lf_sheet2_3 (x1 x2 x3 : Int32) (hh : HI HT h) (hj : JT h) (hR : RJ h) (a1 : 2 ≤ x1.toInt ∧ x1.toInt ≤ 2) (a2 : 0 ≤ x2.toInt ∧ x2.toInt ≤ 0) (a3 : 0 ≤ x3.toInt ∧ x3.toInt ≤ 24) : ∃ (r1 r2 : Int32) (h1 h2 : List pC), Run prog E pV1 120 mX7_sheet [.ref 0, .int x1, .int x2, .int x3] h (some (.int r1), h1, 0, 0) ∧ Run prog E pV1 120 mX8_sheet [.ref 110, .int x1, .int x2, .int x3] h1 (some (.int r2), h2, 0, 0) ∧ (∃ o, pobj h1 110 = some o ∧ o.1 = 8) ∧ HI HT h2 ∧ JT h2 ∧ RJ h2 := by
  obtain ⟨r, h1, h2, q1, q2, q3, p1, p2, p3, p4⟩ := pr_ok3 (E := E) (x1 := x1) (x2 := x2) (x3 := x3) cp_sheet2_3 rfl rfl (List.cons_ne_nil _ _) (List.cons_ne_nil _ _) (fun _ h => absurd h List.not_mem_nil) hh hj hR.1 hR.2.1 ⟨a1, a2, a3, trivial⟩ (pBd.cs (ty_86_1 hh hR).1 (ty_86_1 hh hR).2 (pBd.cs (ty_86_2 hh hR).1 (ty_86_2 hh hR).2 pBd.nl)) (fun e he => by cases he)
  obtain ⟨r', g1, k1, gg, gj, gf, gz⟩ := ox_ok (E := E) (xs := [x1, x2, x3]) (R' := ro_sv2_3) (Q := fun _ h' => ∀ j : Nat, j < 24 → ri h' 87 j = 0) ox_sv2_3 rfl (fun _ h => absurd h List.not_mem_nil) hj hh (fun _ hq => absurd hq List.not_mem_nil) pBd.nl ⟨a1, a2, a3, trivial⟩ (fun e he => by cases he) (fun σ Γ C Δ x r h' he _ _ hC _ hr => by
    obtain ⟨a1, -⟩ := ecV_ok he hC hr
    exact fun j hj24 => Int32.toInt_inj.mp ((zcn (a1 _ (svc_m hj24))).trans (by decide)))
  have e1 : g1 = h1 := (Prod.mk.inj (Prod.mk.inj (Run.det k1 q1)).2).1
  rw [e1] at gg gj gf gz
  obtain ⟨r2, g2, k2, -, f2, -⟩ := pub_of (E := E) (a := 110) (kg_r_sheet JT_P hands) (N := mX8_sheet) rfl (List.cons_ne_nil _ _) [x1, x2, x3] rfl (fun q => by cases q) (Nat.le_of_ble_eq_true rfl) gg gj
  have e2 : g2 = h2 := (Prod.mk.inj (Prod.mk.inj (Run.det k2 q2)).2).1
  rw [e2] at f2
  exact ⟨r, r, h1, h2, q1, q2, q3, p1, p2, p3.1, p3.2, ⟨xk_fr hR.2.2.1 p4 (by decide +kernel), vb_row (U := 2) hR.2.2.2 gz gf f2⟩⟩
theorem lf_sheet2_4 (x1 x2 x3 : Int32) (hh : HI HT h) (hj : JT h) (hR : RJ h) (a1 : 2 ≤ x1.toInt ∧ x1.toInt ≤ 2) (a2 : 0 ≤ x2.toInt ∧ x2.toInt ≤ 0) (a3 : 25 ≤ x3.toInt ∧ x3.toInt ≤ 2147483647) : ∃ (r1 r2 : Int32) (h1 h2 : List pC), Run prog E pV1 120 mX7_sheet [.ref 0, .int x1, .int x2, .int x3] h (some (.int r1), h1, 0, 0) ∧ Run prog E pV1 120 mX8_sheet [.ref 110, .int x1, .int x2, .int x3] h1 (some (.int r2), h2, 0, 0) ∧ (∃ o, pobj h1 110 = some o ∧ o.1 = 8) ∧ HI HT h2 ∧ JT h2 ∧ RJ h2 := by
  obtain ⟨r, h1, h2, q1, q2, q3, p1, p2, p3, p4⟩ := pr_ok3 (E := E) (x1 := x1) (x2 := x2) (x3 := x3) cp_sheet2_4 rfl rfl (List.cons_ne_nil _ _) (List.cons_ne_nil _ _) (fun _ h => absurd h List.not_mem_nil) hh hj hR.1 hR.2.1 ⟨a1, a2, a3, trivial⟩ pBd.nl (fun e he => by cases he)
  exact ⟨r, r, h1, h2, q1, q2, q3, p1, p2, p3.1, p3.2, xj_fr hR.2.2 p4 (by decide +kernel)⟩
theorem lf_sheet2_5 (x1 x2 x3 : Int32) (hh : HI HT h) (hj : JT h) (hR : RJ h) (a1 : 2 ≤ x1.toInt ∧ x1.toInt ≤ 2) (a2 : 1 ≤ x2.toInt ∧ x2.toInt ≤ 1) (a3 : (-2147483648) ≤ x3.toInt ∧ x3.toInt ≤ (-1)) : ∃ (r1 r2 : Int32) (h1 h2 : List pC), Run prog E pV1 120 mX7_sheet [.ref 0, .int x1, .int x2, .int x3] h (some (.int r1), h1, 0, 0) ∧ Run prog E pV1 120 mX8_sheet [.ref 110, .int x1, .int x2, .int x3] h1 (some (.int r2), h2, 0, 0) ∧ (∃ o, pobj h1 110 = some o ∧ o.1 = 8) ∧ HI HT h2 ∧ JT h2 ∧ RJ h2 := by
  obtain ⟨r, h1, h2, q1, q2, q3, p1, p2, p3, p4⟩ := pr_ok3 (E := E) (x1 := x1) (x2 := x2) (x3 := x3) cp_sheet2_5 rfl rfl (List.cons_ne_nil _ _) (List.cons_ne_nil _ _) (fun _ h => absurd h List.not_mem_nil) hh hj hR.1 hR.2.1 ⟨a1, a2, a3, trivial⟩ pBd.nl (fun e he => by cases he)
  exact ⟨r, r, h1, h2, q1, q2, q3, p1, p2, p3.1, p3.2, xj_fr hR.2.2 p4 (by decide +kernel)⟩
theorem lf_sheet2_6 (x1 x2 x3 : Int32) (hh : HI HT h) (hj : JT h) (hR : RJ h) (a1 : 2 ≤ x1.toInt ∧ x1.toInt ≤ 2) (a2 : 1 ≤ x2.toInt ∧ x2.toInt ≤ 1) (a3 : 0 ≤ x3.toInt ∧ x3.toInt ≤ 24) : ∃ (r1 r2 : Int32) (h1 h2 : List pC), Run prog E pV1 120 mX7_sheet [.ref 0, .int x1, .int x2, .int x3] h (some (.int r1), h1, 0, 0) ∧ Run prog E pV1 120 mX8_sheet [.ref 110, .int x1, .int x2, .int x3] h1 (some (.int r2), h2, 0, 0) ∧ (∃ o, pobj h1 110 = some o ∧ o.1 = 8) ∧ HI HT h2 ∧ JT h2 ∧ RJ h2 := by
  obtain ⟨r, h1, h2, q1, q2, q3, p1, p2, p3, p4⟩ := pr_ok3 (E := E) (x1 := x1) (x2 := x2) (x3 := x3) cp_sheet2_6 rfl rfl (List.cons_ne_nil _ _) (List.cons_ne_nil _ _) (fun _ h => absurd h List.not_mem_nil) hh hj hR.1 hR.2.1 ⟨a1, a2, a3, trivial⟩ (pBd.cs (ty_86_1 hh hR).1 (ty_86_1 hh hR).2 (pBd.cs (ty_86_2 hh hR).1 (ty_86_2 hh hR).2 pBd.nl)) (fun e he => by cases he)
  obtain ⟨r', g1, k1, gg, gj, gf, gz⟩ := ox_ok (E := E) (xs := [x1, x2, x3]) (R' := ro_sv2_6) (Q := fun _ h' => ∀ j : Nat, j < 24 → ri h' 87 j = 0) ox_sv2_6 rfl (fun _ h => absurd h List.not_mem_nil) hj hh (fun _ hq => absurd hq List.not_mem_nil) pBd.nl ⟨a1, a2, a3, trivial⟩ (fun e he => by cases he) (fun σ Γ C Δ x r h' he _ _ hC _ hr => by
    obtain ⟨a1, -⟩ := ecV_ok he hC hr
    exact fun j hj24 => Int32.toInt_inj.mp ((zcn (a1 _ (svc_m hj24))).trans (by decide)))
  have e1 : g1 = h1 := (Prod.mk.inj (Prod.mk.inj (Run.det k1 q1)).2).1
  rw [e1] at gg gj gf gz
  obtain ⟨r2, g2, k2, -, f2, -⟩ := pub_of (E := E) (a := 110) (kg_r_sheet JT_P hands) (N := mX8_sheet) rfl (List.cons_ne_nil _ _) [x1, x2, x3] rfl (fun q => by cases q) (Nat.le_of_ble_eq_true rfl) gg gj
  have e2 : g2 = h2 := (Prod.mk.inj (Prod.mk.inj (Run.det k2 q2)).2).1
  rw [e2] at f2
  exact ⟨r, r, h1, h2, q1, q2, q3, p1, p2, p3.1, p3.2, ⟨xk_fr hR.2.2.1 p4 (by decide +kernel), vb_row (U := 2) hR.2.2.2 gz gf f2⟩⟩
theorem lf_sheet2_7 (x1 x2 x3 : Int32) (hh : HI HT h) (hj : JT h) (hR : RJ h) (a1 : 2 ≤ x1.toInt ∧ x1.toInt ≤ 2) (a2 : 1 ≤ x2.toInt ∧ x2.toInt ≤ 1) (a3 : 25 ≤ x3.toInt ∧ x3.toInt ≤ 2147483647) : ∃ (r1 r2 : Int32) (h1 h2 : List pC), Run prog E pV1 120 mX7_sheet [.ref 0, .int x1, .int x2, .int x3] h (some (.int r1), h1, 0, 0) ∧ Run prog E pV1 120 mX8_sheet [.ref 110, .int x1, .int x2, .int x3] h1 (some (.int r2), h2, 0, 0) ∧ (∃ o, pobj h1 110 = some o ∧ o.1 = 8) ∧ HI HT h2 ∧ JT h2 ∧ RJ h2 := by
  obtain ⟨r, h1, h2, q1, q2, q3, p1, p2, p3, p4⟩ := pr_ok3 (E := E) (x1 := x1) (x2 := x2) (x3 := x3) cp_sheet2_7 rfl rfl (List.cons_ne_nil _ _) (List.cons_ne_nil _ _) (fun _ h => absurd h List.not_mem_nil) hh hj hR.1 hR.2.1 ⟨a1, a2, a3, trivial⟩ pBd.nl (fun e he => by cases he)
  exact ⟨r, r, h1, h2, q1, q2, q3, p1, p2, p3.1, p3.2, xj_fr hR.2.2 p4 (by decide +kernel)⟩
theorem lf_sheet2_8 (x1 x2 x3 : Int32) (hh : HI HT h) (hj : JT h) (hR : RJ h) (a1 : 2 ≤ x1.toInt ∧ x1.toInt ≤ 2) (a2 : 2 ≤ x2.toInt ∧ x2.toInt ≤ 2147483647) : ∃ (r1 r2 : Int32) (h1 h2 : List pC), Run prog E pV1 120 mX7_sheet [.ref 0, .int x1, .int x2, .int x3] h (some (.int r1), h1, 0, 0) ∧ Run prog E pV1 120 mX8_sheet [.ref 110, .int x1, .int x2, .int x3] h1 (some (.int r2), h2, 0, 0) ∧ (∃ o, pobj h1 110 = some o ∧ o.1 = 8) ∧ HI HT h2 ∧ JT h2 ∧ RJ h2 := by
  obtain ⟨r, h1, h2, q1, q2, q3, p1, p2, p3, p4⟩ := pr_ok3 (E := E) (x1 := x1) (x2 := x2) (x3 := x3) cp_sheet2_8 rfl rfl (List.cons_ne_nil _ _) (List.cons_ne_nil _ _) (fun _ h => absurd h List.not_mem_nil) hh hj hR.1 hR.2.1 ⟨a1, a2, i32_b x3, trivial⟩ pBd.nl (fun e he => by cases he)
  exact ⟨r, r, h1, h2, q1, q2, q3, p1, p2, p3.1, p3.2, xj_fr hR.2.2 p4 (by decide +kernel)⟩
theorem lf_sheet3_0 (x1 x2 x3 : Int32) (hh : HI HT h) (hj : JT h) (hR : RJ h) (a1 : 3 ≤ x1.toInt ∧ x1.toInt ≤ 3) (a2 : (-2147483648) ≤ x2.toInt ∧ x2.toInt ≤ (-2)) : ∃ (r1 r2 : Int32) (h1 h2 : List pC), Run prog E pV1 120 mX7_sheet [.ref 0, .int x1, .int x2, .int x3] h (some (.int r1), h1, 0, 0) ∧ Run prog E pV1 120 mX8_sheet [.ref 110, .int x1, .int x2, .int x3] h1 (some (.int r2), h2, 0, 0) ∧ (∃ o, pobj h1 110 = some o ∧ o.1 = 8) ∧ HI HT h2 ∧ JT h2 ∧ RJ h2 := by
  obtain ⟨r, h1, h2, q1, q2, q3, p1, p2, p3, p4⟩ := pr_ok3 (E := E) (x1 := x1) (x2 := x2) (x3 := x3) cp_sheet3_0 rfl rfl (List.cons_ne_nil _ _) (List.cons_ne_nil _ _) (fun _ h => absurd h List.not_mem_nil) hh hj hR.1 hR.2.1 ⟨a1, a2, i32_b x3, trivial⟩ pBd.nl (fun e he => by cases he)
  exact ⟨r, r, h1, h2, q1, q2, q3, p1, p2, p3.1, p3.2, xj_fr hR.2.2 p4 (by decide +kernel)⟩
theorem lf_sheet3_1 (x1 x2 x3 : Int32) (hh : HI HT h) (hj : JT h) (hR : RJ h) (a1 : 3 ≤ x1.toInt ∧ x1.toInt ≤ 3) (a2 : (-1) ≤ x2.toInt ∧ x2.toInt ≤ (-1)) : ∃ (r1 r2 : Int32) (h1 h2 : List pC), Run prog E pV1 120 mX7_sheet [.ref 0, .int x1, .int x2, .int x3] h (some (.int r1), h1, 0, 0) ∧ Run prog E pV1 120 mX8_sheet [.ref 110, .int x1, .int x2, .int x3] h1 (some (.int r2), h2, 0, 0) ∧ (∃ o, pobj h1 110 = some o ∧ o.1 = 8) ∧ HI HT h2 ∧ JT h2 ∧ RJ h2 := by
  obtain ⟨r, h1, h2, q1, q2, q3, p1, p2, p3, p4⟩ := pr_ok3 (E := E) (x1 := x1) (x2 := x2) (x3 := x3) cp_sheet3_1 rfl rfl (List.cons_ne_nil _ _) (List.cons_ne_nil _ _) (fun _ h => absurd h List.not_mem_nil) hh hj hR.1 hR.2.1 ⟨a1, a2, i32_b x3, trivial⟩ (pBd.cs (ty_88_1 hh hR).1 (ty_88_1 hh hR).2 (pBd.cs (ty_88_2 hh hR).1 (ty_88_2 hh hR).2 pBd.nl)) (fun e he => by cases he)
  obtain ⟨r', g1, k1, gg, gj, gf, gz⟩ := ox_ok (E := E) (xs := [x1, x2, x3]) (R' := ro_sv3_1) (Q := fun _ h' => ∀ j : Nat, j < 24 → ri h' 89 j = 0) ox_sv3_1 rfl (fun _ h => absurd h List.not_mem_nil) hj hh (fun _ hq => absurd hq List.not_mem_nil) pBd.nl ⟨a1, a2, i32_b x3, trivial⟩ (fun e he => by cases he) (fun σ Γ C Δ x r h' he _ _ hC _ hr => by
    obtain ⟨a1, -⟩ := ecV_ok he hC hr
    exact fun j hj24 => Int32.toInt_inj.mp ((zcn (a1 _ (svc_m hj24))).trans (by decide)))
  have e1 : g1 = h1 := (Prod.mk.inj (Prod.mk.inj (Run.det k1 q1)).2).1
  rw [e1] at gg gj gf gz
  obtain ⟨r2, g2, k2, -, f2, -⟩ := pub_of (E := E) (a := 110) (kg_r_sheet JT_P hands) (N := mX8_sheet) rfl (List.cons_ne_nil _ _) [x1, x2, x3] rfl (fun q => by cases q) (Nat.le_of_ble_eq_true rfl) gg gj
  have e2 : g2 = h2 := (Prod.mk.inj (Prod.mk.inj (Run.det k2 q2)).2).1
  rw [e2] at f2
  exact ⟨r, r, h1, h2, q1, q2, q3, p1, p2, p3.1, p3.2, ⟨xk_fr hR.2.2.1 p4 (by decide +kernel), vb_row (U := 3) hR.2.2.2 gz gf f2⟩⟩
theorem lf_sheet3_2 (x1 x2 x3 : Int32) (hh : HI HT h) (hj : JT h) (hR : RJ h) (a1 : 3 ≤ x1.toInt ∧ x1.toInt ≤ 3) (a2 : 0 ≤ x2.toInt ∧ x2.toInt ≤ 0) (a3 : (-2147483648) ≤ x3.toInt ∧ x3.toInt ≤ (-1)) : ∃ (r1 r2 : Int32) (h1 h2 : List pC), Run prog E pV1 120 mX7_sheet [.ref 0, .int x1, .int x2, .int x3] h (some (.int r1), h1, 0, 0) ∧ Run prog E pV1 120 mX8_sheet [.ref 110, .int x1, .int x2, .int x3] h1 (some (.int r2), h2, 0, 0) ∧ (∃ o, pobj h1 110 = some o ∧ o.1 = 8) ∧ HI HT h2 ∧ JT h2 ∧ RJ h2 := by
  obtain ⟨r, h1, h2, q1, q2, q3, p1, p2, p3, p4⟩ := pr_ok3 (E := E) (x1 := x1) (x2 := x2) (x3 := x3) cp_sheet3_2 rfl rfl (List.cons_ne_nil _ _) (List.cons_ne_nil _ _) (fun _ h => absurd h List.not_mem_nil) hh hj hR.1 hR.2.1 ⟨a1, a2, a3, trivial⟩ pBd.nl (fun e he => by cases he)
  exact ⟨r, r, h1, h2, q1, q2, q3, p1, p2, p3.1, p3.2, xj_fr hR.2.2 p4 (by decide +kernel)⟩
theorem lf_sheet3_3 (x1 x2 x3 : Int32) (hh : HI HT h) (hj : JT h) (hR : RJ h) (a1 : 3 ≤ x1.toInt ∧ x1.toInt ≤ 3) (a2 : 0 ≤ x2.toInt ∧ x2.toInt ≤ 0) (a3 : 0 ≤ x3.toInt ∧ x3.toInt ≤ 24) : ∃ (r1 r2 : Int32) (h1 h2 : List pC), Run prog E pV1 120 mX7_sheet [.ref 0, .int x1, .int x2, .int x3] h (some (.int r1), h1, 0, 0) ∧ Run prog E pV1 120 mX8_sheet [.ref 110, .int x1, .int x2, .int x3] h1 (some (.int r2), h2, 0, 0) ∧ (∃ o, pobj h1 110 = some o ∧ o.1 = 8) ∧ HI HT h2 ∧ JT h2 ∧ RJ h2 := by
  obtain ⟨r, h1, h2, q1, q2, q3, p1, p2, p3, p4⟩ := pr_ok3 (E := E) (x1 := x1) (x2 := x2) (x3 := x3) cp_sheet3_3 rfl rfl (List.cons_ne_nil _ _) (List.cons_ne_nil _ _) (fun _ h => absurd h List.not_mem_nil) hh hj hR.1 hR.2.1 ⟨a1, a2, a3, trivial⟩ (pBd.cs (ty_88_1 hh hR).1 (ty_88_1 hh hR).2 (pBd.cs (ty_88_2 hh hR).1 (ty_88_2 hh hR).2 pBd.nl)) (fun e he => by cases he)
  obtain ⟨r', g1, k1, gg, gj, gf, gz⟩ := ox_ok (E := E) (xs := [x1, x2, x3]) (R' := ro_sv3_3) (Q := fun _ h' => ∀ j : Nat, j < 24 → ri h' 89 j = 0) ox_sv3_3 rfl (fun _ h => absurd h List.not_mem_nil) hj hh (fun _ hq => absurd hq List.not_mem_nil) pBd.nl ⟨a1, a2, a3, trivial⟩ (fun e he => by cases he) (fun σ Γ C Δ x r h' he _ _ hC _ hr => by
    obtain ⟨a1, -⟩ := ecV_ok he hC hr
    exact fun j hj24 => Int32.toInt_inj.mp ((zcn (a1 _ (svc_m hj24))).trans (by decide)))
  have e1 : g1 = h1 := (Prod.mk.inj (Prod.mk.inj (Run.det k1 q1)).2).1
  rw [e1] at gg gj gf gz
  obtain ⟨r2, g2, k2, -, f2, -⟩ := pub_of (E := E) (a := 110) (kg_r_sheet JT_P hands) (N := mX8_sheet) rfl (List.cons_ne_nil _ _) [x1, x2, x3] rfl (fun q => by cases q) (Nat.le_of_ble_eq_true rfl) gg gj
  have e2 : g2 = h2 := (Prod.mk.inj (Prod.mk.inj (Run.det k2 q2)).2).1
  rw [e2] at f2
  exact ⟨r, r, h1, h2, q1, q2, q3, p1, p2, p3.1, p3.2, ⟨xk_fr hR.2.2.1 p4 (by decide +kernel), vb_row (U := 3) hR.2.2.2 gz gf f2⟩⟩
theorem lf_sheet3_4 (x1 x2 x3 : Int32) (hh : HI HT h) (hj : JT h) (hR : RJ h) (a1 : 3 ≤ x1.toInt ∧ x1.toInt ≤ 3) (a2 : 0 ≤ x2.toInt ∧ x2.toInt ≤ 0) (a3 : 25 ≤ x3.toInt ∧ x3.toInt ≤ 2147483647) : ∃ (r1 r2 : Int32) (h1 h2 : List pC), Run prog E pV1 120 mX7_sheet [.ref 0, .int x1, .int x2, .int x3] h (some (.int r1), h1, 0, 0) ∧ Run prog E pV1 120 mX8_sheet [.ref 110, .int x1, .int x2, .int x3] h1 (some (.int r2), h2, 0, 0) ∧ (∃ o, pobj h1 110 = some o ∧ o.1 = 8) ∧ HI HT h2 ∧ JT h2 ∧ RJ h2 := by
  obtain ⟨r, h1, h2, q1, q2, q3, p1, p2, p3, p4⟩ := pr_ok3 (E := E) (x1 := x1) (x2 := x2) (x3 := x3) cp_sheet3_4 rfl rfl (List.cons_ne_nil _ _) (List.cons_ne_nil _ _) (fun _ h => absurd h List.not_mem_nil) hh hj hR.1 hR.2.1 ⟨a1, a2, a3, trivial⟩ pBd.nl (fun e he => by cases he)
  exact ⟨r, r, h1, h2, q1, q2, q3, p1, p2, p3.1, p3.2, xj_fr hR.2.2 p4 (by decide +kernel)⟩
theorem lf_sheet3_5 (x1 x2 x3 : Int32) (hh : HI HT h) (hj : JT h) (hR : RJ h) (a1 : 3 ≤ x1.toInt ∧ x1.toInt ≤ 3) (a2 : 1 ≤ x2.toInt ∧ x2.toInt ≤ 1) (a3 : (-2147483648) ≤ x3.toInt ∧ x3.toInt ≤ (-1)) : ∃ (r1 r2 : Int32) (h1 h2 : List pC), Run prog E pV1 120 mX7_sheet [.ref 0, .int x1, .int x2, .int x3] h (some (.int r1), h1, 0, 0) ∧ Run prog E pV1 120 mX8_sheet [.ref 110, .int x1, .int x2, .int x3] h1 (some (.int r2), h2, 0, 0) ∧ (∃ o, pobj h1 110 = some o ∧ o.1 = 8) ∧ HI HT h2 ∧ JT h2 ∧ RJ h2 := by
  obtain ⟨r, h1, h2, q1, q2, q3, p1, p2, p3, p4⟩ := pr_ok3 (E := E) (x1 := x1) (x2 := x2) (x3 := x3) cp_sheet3_5 rfl rfl (List.cons_ne_nil _ _) (List.cons_ne_nil _ _) (fun _ h => absurd h List.not_mem_nil) hh hj hR.1 hR.2.1 ⟨a1, a2, a3, trivial⟩ pBd.nl (fun e he => by cases he)
  exact ⟨r, r, h1, h2, q1, q2, q3, p1, p2, p3.1, p3.2, xj_fr hR.2.2 p4 (by decide +kernel)⟩
theorem lf_sheet3_6 (x1 x2 x3 : Int32) (hh : HI HT h) (hj : JT h) (hR : RJ h) (a1 : 3 ≤ x1.toInt ∧ x1.toInt ≤ 3) (a2 : 1 ≤ x2.toInt ∧ x2.toInt ≤ 1) (a3 : 0 ≤ x3.toInt ∧ x3.toInt ≤ 24) : ∃ (r1 r2 : Int32) (h1 h2 : List pC), Run prog E pV1 120 mX7_sheet [.ref 0, .int x1, .int x2, .int x3] h (some (.int r1), h1, 0, 0) ∧ Run prog E pV1 120 mX8_sheet [.ref 110, .int x1, .int x2, .int x3] h1 (some (.int r2), h2, 0, 0) ∧ (∃ o, pobj h1 110 = some o ∧ o.1 = 8) ∧ HI HT h2 ∧ JT h2 ∧ RJ h2 := by
  obtain ⟨r, h1, h2, q1, q2, q3, p1, p2, p3, p4⟩ := pr_ok3 (E := E) (x1 := x1) (x2 := x2) (x3 := x3) cp_sheet3_6 rfl rfl (List.cons_ne_nil _ _) (List.cons_ne_nil _ _) (fun _ h => absurd h List.not_mem_nil) hh hj hR.1 hR.2.1 ⟨a1, a2, a3, trivial⟩ (pBd.cs (ty_88_1 hh hR).1 (ty_88_1 hh hR).2 (pBd.cs (ty_88_2 hh hR).1 (ty_88_2 hh hR).2 pBd.nl)) (fun e he => by cases he)
  obtain ⟨r', g1, k1, gg, gj, gf, gz⟩ := ox_ok (E := E) (xs := [x1, x2, x3]) (R' := ro_sv3_6) (Q := fun _ h' => ∀ j : Nat, j < 24 → ri h' 89 j = 0) ox_sv3_6 rfl (fun _ h => absurd h List.not_mem_nil) hj hh (fun _ hq => absurd hq List.not_mem_nil) pBd.nl ⟨a1, a2, a3, trivial⟩ (fun e he => by cases he) (fun σ Γ C Δ x r h' he _ _ hC _ hr => by
    obtain ⟨a1, -⟩ := ecV_ok he hC hr
    exact fun j hj24 => Int32.toInt_inj.mp ((zcn (a1 _ (svc_m hj24))).trans (by decide)))
  have e1 : g1 = h1 := (Prod.mk.inj (Prod.mk.inj (Run.det k1 q1)).2).1
  rw [e1] at gg gj gf gz
  obtain ⟨r2, g2, k2, -, f2, -⟩ := pub_of (E := E) (a := 110) (kg_r_sheet JT_P hands) (N := mX8_sheet) rfl (List.cons_ne_nil _ _) [x1, x2, x3] rfl (fun q => by cases q) (Nat.le_of_ble_eq_true rfl) gg gj
  have e2 : g2 = h2 := (Prod.mk.inj (Prod.mk.inj (Run.det k2 q2)).2).1
  rw [e2] at f2
  exact ⟨r, r, h1, h2, q1, q2, q3, p1, p2, p3.1, p3.2, ⟨xk_fr hR.2.2.1 p4 (by decide +kernel), vb_row (U := 3) hR.2.2.2 gz gf f2⟩⟩
theorem lf_sheet3_7 (x1 x2 x3 : Int32) (hh : HI HT h) (hj : JT h) (hR : RJ h) (a1 : 3 ≤ x1.toInt ∧ x1.toInt ≤ 3) (a2 : 1 ≤ x2.toInt ∧ x2.toInt ≤ 1) (a3 : 25 ≤ x3.toInt ∧ x3.toInt ≤ 2147483647) : ∃ (r1 r2 : Int32) (h1 h2 : List pC), Run prog E pV1 120 mX7_sheet [.ref 0, .int x1, .int x2, .int x3] h (some (.int r1), h1, 0, 0) ∧ Run prog E pV1 120 mX8_sheet [.ref 110, .int x1, .int x2, .int x3] h1 (some (.int r2), h2, 0, 0) ∧ (∃ o, pobj h1 110 = some o ∧ o.1 = 8) ∧ HI HT h2 ∧ JT h2 ∧ RJ h2 := by
  obtain ⟨r, h1, h2, q1, q2, q3, p1, p2, p3, p4⟩ := pr_ok3 (E := E) (x1 := x1) (x2 := x2) (x3 := x3) cp_sheet3_7 rfl rfl (List.cons_ne_nil _ _) (List.cons_ne_nil _ _) (fun _ h => absurd h List.not_mem_nil) hh hj hR.1 hR.2.1 ⟨a1, a2, a3, trivial⟩ pBd.nl (fun e he => by cases he)
  exact ⟨r, r, h1, h2, q1, q2, q3, p1, p2, p3.1, p3.2, xj_fr hR.2.2 p4 (by decide +kernel)⟩
theorem lf_sheet3_8 (x1 x2 x3 : Int32) (hh : HI HT h) (hj : JT h) (hR : RJ h) (a1 : 3 ≤ x1.toInt ∧ x1.toInt ≤ 3) (a2 : 2 ≤ x2.toInt ∧ x2.toInt ≤ 2147483647) : ∃ (r1 r2 : Int32) (h1 h2 : List pC), Run prog E pV1 120 mX7_sheet [.ref 0, .int x1, .int x2, .int x3] h (some (.int r1), h1, 0, 0) ∧ Run prog E pV1 120 mX8_sheet [.ref 110, .int x1, .int x2, .int x3] h1 (some (.int r2), h2, 0, 0) ∧ (∃ o, pobj h1 110 = some o ∧ o.1 = 8) ∧ HI HT h2 ∧ JT h2 ∧ RJ h2 := by
  obtain ⟨r, h1, h2, q1, q2, q3, p1, p2, p3, p4⟩ := pr_ok3 (E := E) (x1 := x1) (x2 := x2) (x3 := x3) cp_sheet3_8 rfl rfl (List.cons_ne_nil _ _) (List.cons_ne_nil _ _) (fun _ h => absurd h List.not_mem_nil) hh hj hR.1 hR.2.1 ⟨a1, a2, i32_b x3, trivial⟩ pBd.nl (fun e he => by cases he)
  exact ⟨r, r, h1, h2, q1, q2, q3, p1, p2, p3.1, p3.2, xj_fr hR.2.2 p4 (by decide +kernel)⟩
theorem lf_sheetl (x1 x2 x3 : Int32) (hh : HI HT h) (hj : JT h) (hR : RJ h) (a1 : (-2147483648) ≤ x1.toInt ∧ x1.toInt ≤ (-1)) : ∃ (r1 r2 : Int32) (h1 h2 : List pC), Run prog E pV1 120 mX7_sheet [.ref 0, .int x1, .int x2, .int x3] h (some (.int r1), h1, 0, 0) ∧ Run prog E pV1 120 mX8_sheet [.ref 110, .int x1, .int x2, .int x3] h1 (some (.int r2), h2, 0, 0) ∧ (∃ o, pobj h1 110 = some o ∧ o.1 = 8) ∧ HI HT h2 ∧ JT h2 ∧ RJ h2 := by
  obtain ⟨r, h1, h2, q1, q2, q3, p1, p2, p3, p4⟩ := pr_ok3 (E := E) (x1 := x1) (x2 := x2) (x3 := x3) cp_sheetl rfl rfl (List.cons_ne_nil _ _) (List.cons_ne_nil _ _) (fun _ h => absurd h List.not_mem_nil) hh hj hR.1 hR.2.1 ⟨a1, i32_b x2, i32_b x3, trivial⟩ pBd.nl (fun e he => by cases he)
  exact ⟨r, r, h1, h2, q1, q2, q3, p1, p2, p3.1, p3.2, xj_fr hR.2.2 p4 (by decide +kernel)⟩
theorem lf_sheeth (x1 x2 x3 : Int32) (hh : HI HT h) (hj : JT h) (hR : RJ h) (a1 : 4 ≤ x1.toInt ∧ x1.toInt ≤ 2147483647) : ∃ (r1 r2 : Int32) (h1 h2 : List pC), Run prog E pV1 120 mX7_sheet [.ref 0, .int x1, .int x2, .int x3] h (some (.int r1), h1, 0, 0) ∧ Run prog E pV1 120 mX8_sheet [.ref 110, .int x1, .int x2, .int x3] h1 (some (.int r2), h2, 0, 0) ∧ (∃ o, pobj h1 110 = some o ∧ o.1 = 8) ∧ HI HT h2 ∧ JT h2 ∧ RJ h2 := by
  obtain ⟨r, h1, h2, q1, q2, q3, p1, p2, p3, p4⟩ := pr_ok3 (E := E) (x1 := x1) (x2 := x2) (x3 := x3) cp_sheeth rfl rfl (List.cons_ne_nil _ _) (List.cons_ne_nil _ _) (fun _ h => absurd h List.not_mem_nil) hh hj hR.1 hR.2.1 ⟨a1, i32_b x2, i32_b x3, trivial⟩ pBd.nl (fun e he => by cases he)
  exact ⟨r, r, h1, h2, q1, q2, q3, p1, p2, p3.1, p3.2, xj_fr hR.2.2 p4 (by decide +kernel)⟩
theorem lw_sheet (x1 x2 x3 : Int32) (hh : HI HT h) (hj : JT h) (hR : RJ h) : ∃ (r1 r2 : Int32) (h1 h2 : List pC), Run prog E pV1 120 mX7_sheet [.ref 0, .int x1, .int x2, .int x3] h (some (.int r1), h1, 0, 0) ∧ Run prog E pV1 120 mX8_sheet [.ref 110, .int x1, .int x2, .int x3] h1 (some (.int r2), h2, 0, 0) ∧ (∃ o, pobj h1 110 = some o ∧ o.1 = 8) ∧ HI HT h2 ∧ JT h2 ∧ RJ h2 := by
  have ex1 := i32_b x1
  have ex2 := i32_b x2
  have ex3 := i32_b x3
  have t82_1 := ty_82_1 hh hR
  have t82_2 := ty_82_2 hh hR
  have t84_1 := ty_84_1 hh hR
  have t84_2 := ty_84_2 hh hR
  have t86_1 := ty_86_1 hh hR
  have t86_2 := ty_86_2 hh hR
  have t88_1 := ty_88_1 hh hR
  have t88_2 := ty_88_2 hh hR
  by_cases c1 : x1.toInt ≤ (-1)
  · exact lf_sheetl x1 x2 x3 hh hj hR ⟨by omega, by omega⟩
  by_cases c2 : x1.toInt ≤ 0
  · by_cases c3 : x2.toInt ≤ (-2)
    · exact lf_sheet0_0 x1 x2 x3 hh hj hR ⟨by omega, by omega⟩ ⟨by omega, by omega⟩
    by_cases c4 : x2.toInt ≤ (-1)
    · exact lf_sheet0_1 x1 x2 x3 hh hj hR ⟨by omega, by omega⟩ ⟨by omega, by omega⟩
    by_cases c5 : x2.toInt ≤ 0
    · by_cases c6 : x3.toInt ≤ (-1)
      · exact lf_sheet0_2 x1 x2 x3 hh hj hR ⟨by omega, by omega⟩ ⟨by omega, by omega⟩ ⟨by omega, by omega⟩
      by_cases c7 : x3.toInt ≤ 24
      · exact lf_sheet0_3 x1 x2 x3 hh hj hR ⟨by omega, by omega⟩ ⟨by omega, by omega⟩ ⟨by omega, by omega⟩
      exact lf_sheet0_4 x1 x2 x3 hh hj hR ⟨by omega, by omega⟩ ⟨by omega, by omega⟩ ⟨by omega, by omega⟩
    by_cases c8 : x2.toInt ≤ 1
    · by_cases c9 : x3.toInt ≤ (-1)
      · exact lf_sheet0_5 x1 x2 x3 hh hj hR ⟨by omega, by omega⟩ ⟨by omega, by omega⟩ ⟨by omega, by omega⟩
      by_cases c10 : x3.toInt ≤ 24
      · exact lf_sheet0_6 x1 x2 x3 hh hj hR ⟨by omega, by omega⟩ ⟨by omega, by omega⟩ ⟨by omega, by omega⟩
      exact lf_sheet0_7 x1 x2 x3 hh hj hR ⟨by omega, by omega⟩ ⟨by omega, by omega⟩ ⟨by omega, by omega⟩
    exact lf_sheet0_8 x1 x2 x3 hh hj hR ⟨by omega, by omega⟩ ⟨by omega, by omega⟩
  by_cases c11 : x1.toInt ≤ 1
  · by_cases c12 : x2.toInt ≤ (-2)
    · exact lf_sheet1_0 x1 x2 x3 hh hj hR ⟨by omega, by omega⟩ ⟨by omega, by omega⟩
    by_cases c13 : x2.toInt ≤ (-1)
    · exact lf_sheet1_1 x1 x2 x3 hh hj hR ⟨by omega, by omega⟩ ⟨by omega, by omega⟩
    by_cases c14 : x2.toInt ≤ 0
    · by_cases c15 : x3.toInt ≤ (-1)
      · exact lf_sheet1_2 x1 x2 x3 hh hj hR ⟨by omega, by omega⟩ ⟨by omega, by omega⟩ ⟨by omega, by omega⟩
      by_cases c16 : x3.toInt ≤ 24
      · exact lf_sheet1_3 x1 x2 x3 hh hj hR ⟨by omega, by omega⟩ ⟨by omega, by omega⟩ ⟨by omega, by omega⟩
      exact lf_sheet1_4 x1 x2 x3 hh hj hR ⟨by omega, by omega⟩ ⟨by omega, by omega⟩ ⟨by omega, by omega⟩
    by_cases c17 : x2.toInt ≤ 1
    · by_cases c18 : x3.toInt ≤ (-1)
      · exact lf_sheet1_5 x1 x2 x3 hh hj hR ⟨by omega, by omega⟩ ⟨by omega, by omega⟩ ⟨by omega, by omega⟩
      by_cases c19 : x3.toInt ≤ 24
      · exact lf_sheet1_6 x1 x2 x3 hh hj hR ⟨by omega, by omega⟩ ⟨by omega, by omega⟩ ⟨by omega, by omega⟩
      exact lf_sheet1_7 x1 x2 x3 hh hj hR ⟨by omega, by omega⟩ ⟨by omega, by omega⟩ ⟨by omega, by omega⟩
    exact lf_sheet1_8 x1 x2 x3 hh hj hR ⟨by omega, by omega⟩ ⟨by omega, by omega⟩
  by_cases c20 : x1.toInt ≤ 2
  · by_cases c21 : x2.toInt ≤ (-2)
    · exact lf_sheet2_0 x1 x2 x3 hh hj hR ⟨by omega, by omega⟩ ⟨by omega, by omega⟩
    by_cases c22 : x2.toInt ≤ (-1)
    · exact lf_sheet2_1 x1 x2 x3 hh hj hR ⟨by omega, by omega⟩ ⟨by omega, by omega⟩
    by_cases c23 : x2.toInt ≤ 0
    · by_cases c24 : x3.toInt ≤ (-1)
      · exact lf_sheet2_2 x1 x2 x3 hh hj hR ⟨by omega, by omega⟩ ⟨by omega, by omega⟩ ⟨by omega, by omega⟩
      by_cases c25 : x3.toInt ≤ 24
      · exact lf_sheet2_3 x1 x2 x3 hh hj hR ⟨by omega, by omega⟩ ⟨by omega, by omega⟩ ⟨by omega, by omega⟩
      exact lf_sheet2_4 x1 x2 x3 hh hj hR ⟨by omega, by omega⟩ ⟨by omega, by omega⟩ ⟨by omega, by omega⟩
    by_cases c26 : x2.toInt ≤ 1
    · by_cases c27 : x3.toInt ≤ (-1)
      · exact lf_sheet2_5 x1 x2 x3 hh hj hR ⟨by omega, by omega⟩ ⟨by omega, by omega⟩ ⟨by omega, by omega⟩
      by_cases c28 : x3.toInt ≤ 24
      · exact lf_sheet2_6 x1 x2 x3 hh hj hR ⟨by omega, by omega⟩ ⟨by omega, by omega⟩ ⟨by omega, by omega⟩
      exact lf_sheet2_7 x1 x2 x3 hh hj hR ⟨by omega, by omega⟩ ⟨by omega, by omega⟩ ⟨by omega, by omega⟩
    exact lf_sheet2_8 x1 x2 x3 hh hj hR ⟨by omega, by omega⟩ ⟨by omega, by omega⟩
  by_cases c29 : x1.toInt ≤ 3
  · by_cases c30 : x2.toInt ≤ (-2)
    · exact lf_sheet3_0 x1 x2 x3 hh hj hR ⟨by omega, by omega⟩ ⟨by omega, by omega⟩
    by_cases c31 : x2.toInt ≤ (-1)
    · exact lf_sheet3_1 x1 x2 x3 hh hj hR ⟨by omega, by omega⟩ ⟨by omega, by omega⟩
    by_cases c32 : x2.toInt ≤ 0
    · by_cases c33 : x3.toInt ≤ (-1)
      · exact lf_sheet3_2 x1 x2 x3 hh hj hR ⟨by omega, by omega⟩ ⟨by omega, by omega⟩ ⟨by omega, by omega⟩
      by_cases c34 : x3.toInt ≤ 24
      · exact lf_sheet3_3 x1 x2 x3 hh hj hR ⟨by omega, by omega⟩ ⟨by omega, by omega⟩ ⟨by omega, by omega⟩
      exact lf_sheet3_4 x1 x2 x3 hh hj hR ⟨by omega, by omega⟩ ⟨by omega, by omega⟩ ⟨by omega, by omega⟩
    by_cases c35 : x2.toInt ≤ 1
    · by_cases c36 : x3.toInt ≤ (-1)
      · exact lf_sheet3_5 x1 x2 x3 hh hj hR ⟨by omega, by omega⟩ ⟨by omega, by omega⟩ ⟨by omega, by omega⟩
      by_cases c37 : x3.toInt ≤ 24
      · exact lf_sheet3_6 x1 x2 x3 hh hj hR ⟨by omega, by omega⟩ ⟨by omega, by omega⟩ ⟨by omega, by omega⟩
      exact lf_sheet3_7 x1 x2 x3 hh hj hR ⟨by omega, by omega⟩ ⟨by omega, by omega⟩ ⟨by omega, by omega⟩
    exact lf_sheet3_8 x1 x2 x3 hh hj hR ⟨by omega, by omega⟩ ⟨by omega, by omega⟩
  exact lf_sheeth x1 x2 x3 hh hj hR ⟨by omega, by omega⟩
theorem lw_mark (x1 x2 x3 : Int32) (hh : HI HT h) (hj : JT h) (hR : RJ h) : ∃ (r1 r2 : Int32) (h1 h2 : List pC), Run prog E pV1 120 mX7_mark [.ref 0, .int x1, .int x2, .int x3] h (some (.int r1), h1, 0, 0) ∧ Run prog E pV1 120 mX8_mark [.ref 110, .int x1, .int x2, .int x3] h1 (some (.int r2), h2, 0, 0) ∧ (∃ o, pobj h1 110 = some o ∧ o.1 = 8) ∧ HI HT h2 ∧ JT h2 ∧ RJ h2 := by
  obtain ⟨r, h1, h2, q1, q2, hh1, hh2, hj2, f1, f2, rv, vb⟩ := mark_both (E := E) x1 x2 x3 hh hj (rss_of hR.1) (vl_e (rl_v hR.1))
  refine ⟨r, r, h1, h2, q1, q2, mobj hh1, hh2, hj2, fun q hq => ?_, cRel_fr (cRel_fr hR.2.1 f1 (by decide +kernel)) f2 (by decide +kernel), ⟨xk_fr (xk_fr hR.2.2.1 f1 (by decide +kernel)) f2 (by decide +kernel), vb hR.2.2.2⟩⟩
  rcases List.mem_append.mp hq with hq | hq
  · exact pRel_fr (pRel_fr (R := RLf) (rl_f hR.1) f1 (by decide +kernel)) f2 (by decide +kernel) q hq
  · exact vl_i rv q hq
theorem lw_pour (x1 : Int32) (hh : HI HT h) (hj : JT h) (hR : RJ h) : ∃ (r1 r2 : Int32) (h1 h2 : List pC), Run prog E pV1 120 mX7_pour [.ref 0, .int x1] h (some (.int r1), h1, 0, 0) ∧ Run prog E pV1 120 mX8_pour [.ref 110, .int x1] h1 (some (.int r2), h2, 0, 0) ∧ (∃ o, pobj h1 110 = some o ∧ o.1 = 8) ∧ HI HT h2 ∧ JT h2 ∧ RJ h2 := by
  obtain ⟨r1, h1, q1, hh1, f1, hj1⟩ := pub_of (E := E) (a := 0) (kg_c_pourF) (N := mX7_pour) rfl (List.cons_ne_nil _ _) [x1] rfl (fun q => by cases q) (Nat.le_of_ble_eq_true rfl) hh hj
  obtain ⟨r2, h2, q2, hh2, f2, hj2⟩ := pub_of (E := E) (a := 110) (kg_r_pourF) (N := mX8_pour) rfl (List.cons_ne_nil _ _) [x1] rfl (fun q => by cases q) (Nat.le_of_ble_eq_true rfl) hh1 hj1
  exact ⟨r1, r2, h1, h2, q1, q2, mobj hh1, hh2, hj2, ⟨pRel_fr (pRel_fr hR.1 f1 (by decide +kernel)) f2 (by decide +kernel), cRel_fr (cRel_fr hR.2.1 f1 (by decide +kernel)) f2 (by decide +kernel), xj_fr (xj_fr hR.2.2 f1 (by decide +kernel)) f2 (by decide +kernel)⟩⟩
theorem lw_reads (x1 : Int32) (hh : HI HT h) (hj : JT h) (hR : RJ h) : ∃ (r1 r2 : Int32) (h1 h2 : List pC), Run prog E pV1 120 mX7_reads [.ref 0, .int x1] h (some (.int r1), h1, 0, 0) ∧ Run prog E pV1 120 mX8_reads [.ref 110, .int x1] h1 (some (.int r2), h2, 0, 0) ∧ (∃ o, pobj h1 110 = some o ∧ o.1 = 8) ∧ HI HT h2 ∧ JT h2 ∧ RJ h2 := by
  obtain ⟨r1, h1, q1, hh1, f1, hj1⟩ := pub_of (E := E) (a := 0) (kg_c_reads JT_P hands) (N := mX7_reads) rfl (List.cons_ne_nil _ _) [x1] rfl (fun q => by cases q) (Nat.le_of_ble_eq_true rfl) hh hj
  obtain ⟨r2, h2, q2, hh2, f2, hj2⟩ := pub_of (E := E) (a := 110) (kg_r_reads JT_P hands) (N := mX8_reads) rfl (List.cons_ne_nil _ _) [x1] rfl (fun q => by cases q) (Nat.le_of_ble_eq_true rfl) hh1 hj1
  exact ⟨r1, r2, h1, h2, q1, q2, mobj hh1, hh2, hj2, ⟨pRel_fr (pRel_fr hR.1 f1 (by decide +kernel)) f2 (by decide +kernel), cRel_fr (cRel_fr hR.2.1 f1 (by decide +kernel)) f2 (by decide +kernel), xj_fr (xj_fr hR.2.2 f1 (by decide +kernel)) f2 (by decide +kernel)⟩⟩
theorem lw_copy (x1 x2 x3 x4 x5 : Int32) (hh : HI HT h) (hj : JT h) (hR : RJ h) : ∃ (r1 r2 : Int32) (h1 h2 : List pC), Run prog E pV1 120 mX7_copy [.ref 0, .int x1, .int x2, .int x3, .int x4, .int x5] h (some (.int r1), h1, 0, 0) ∧ Run prog E pV1 120 mX8_copy [.ref 110, .int x1, .int x2, .int x3, .int x4, .int x5] h1 (some (.int r2), h2, 0, 0) ∧ (∃ o, pobj h1 110 = some o ∧ o.1 = 8) ∧ HI HT h2 ∧ JT h2 ∧ RJ h2 := by
  obtain ⟨r, h1, h2, q1, q2, hh1, hh2, hj2, f1, f2, rv, vb⟩ := copy_val (E := E) x1 x2 x3 x4 x5 hh hj (rss_of hR.1) (vl_e (rl_v hR.1))
  refine ⟨r, r, h1, h2, q1, q2, mobj hh1, hh2, hj2, fun q hq => ?_, cRel_fr (cRel_fr hR.2.1 f1 (by decide +kernel)) f2 (by decide +kernel), ⟨xk_fr (xk_fr hR.2.2.1 f1 (by decide +kernel)) f2 (by decide +kernel), vb hR.2.2.2⟩⟩
  rcases List.mem_append.mp hq with hq | hq
  · exact pRel_fr (pRel_fr (R := RLf) (rl_f hR.1) f1 (by decide +kernel)) f2 (by decide +kernel) q hq
  · exact vl_i rv q hq
theorem lw_lay (x1 x2 x3 : Int32) (hh : HI HT h) (hj : JT h) (hR : RJ h) : ∃ (r1 r2 : Int32) (h1 h2 : List pC), Run prog E pV1 120 mX7_lay [.ref 0, .int x1, .int x2, .int x3] h (some (.int r1), h1, 0, 0) ∧ Run prog E pV1 120 mX8_lay [.ref 110, .int x1, .int x2, .int x3] h1 (some (.int r2), h2, 0, 0) ∧ (∃ o, pobj h1 110 = some o ∧ o.1 = 8) ∧ HI HT h2 ∧ JT h2 ∧ RJ h2 := by
  obtain ⟨r1, h1, q1, hh1, f1, hj1⟩ := pub_of (E := E) (a := 0) (kg_c_lay JT_P hands) (N := mX7_lay) rfl (List.cons_ne_nil _ _) [x1, x2, x3] rfl (fun q => by cases q) (Nat.le_of_ble_eq_true rfl) hh hj
  obtain ⟨r2, h2, q2, hh2, f2, hj2⟩ := pub_of (E := E) (a := 110) (kg_r_lay JT_P hands) (N := mX8_lay) rfl (List.cons_ne_nil _ _) [x1, x2, x3] rfl (fun q => by cases q) (Nat.le_of_ble_eq_true rfl) hh1 hj1
  exact ⟨r1, r2, h1, h2, q1, q2, mobj hh1, hh2, hj2, ⟨pRel_fr (pRel_fr hR.1 f1 (by decide +kernel)) f2 (by decide +kernel), cRel_fr (cRel_fr hR.2.1 f1 (by decide +kernel)) f2 (by decide +kernel), xj_fr (xj_fr hR.2.2 f1 (by decide +kernel)) f2 (by decide +kernel)⟩⟩
theorem lw_ask (x1 x2 : Int32) (hh : HI HT h) (hj : JT h) (hR : RJ h) : ∃ (r1 r2 : Int32) (h1 h2 : List pC), Run prog E pV1 120 mX7_ask [.ref 0, .int x1, .int x2] h (some (.int r1), h1, 0, 0) ∧ Run prog E pV1 120 mX8_ask [.ref 110, .int x1, .int x2] h1 (some (.int r2), h2, 0, 0) ∧ (∃ o, pobj h1 110 = some o ∧ o.1 = 8) ∧ HI HT h2 ∧ JT h2 ∧ RJ h2 := by
  obtain ⟨r1, h1, q1, hh1, f1, hj1⟩ := pub_of (E := E) (a := 0) (kg_c_ask JT_P hands) (N := mX7_ask) rfl (List.cons_ne_nil _ _) [x1, x2] rfl (fun q => by cases q) (Nat.le_of_ble_eq_true rfl) hh hj
  obtain ⟨r2, h2, q2, hh2, f2, hj2⟩ := pub_of (E := E) (a := 110) (kg_r_ask JT_P hands) (N := mX8_ask) rfl (List.cons_ne_nil _ _) [x1, x2] rfl (fun q => by cases q) (Nat.le_of_ble_eq_true rfl) hh1 hj1
  exact ⟨r1, r2, h1, h2, q1, q2, mobj hh1, hh2, hj2, ⟨pRel_fr (pRel_fr hR.1 f1 (by decide +kernel)) f2 (by decide +kernel), cRel_fr (cRel_fr hR.2.1 f1 (by decide +kernel)) f2 (by decide +kernel), xj_fr (xj_fr hR.2.2 f1 (by decide +kernel)) f2 (by decide +kernel)⟩⟩
theorem lw_item (x1 x2 : Int32) (hh : HI HT h) (hj : JT h) (hR : RJ h) : ∃ (r1 r2 : Int32) (h1 h2 : List pC), Run prog E pV1 120 mX7_item [.ref 0, .int x1, .int x2] h (some (.int r1), h1, 0, 0) ∧ Run prog E pV1 120 mX8_item [.ref 110, .int x1, .int x2] h1 (some (.int r2), h2, 0, 0) ∧ (∃ o, pobj h1 110 = some o ∧ o.1 = 8) ∧ HI HT h2 ∧ JT h2 ∧ RJ h2 := by
  obtain ⟨r1, h1, q1, hh1, f1, hj1⟩ := pub_of (E := E) (a := 0) (kg_c_item JT_P hands) (N := mX7_item) rfl (List.cons_ne_nil _ _) [x1, x2] rfl (fun q => by cases q) (Nat.le_of_ble_eq_true rfl) hh hj
  obtain ⟨r2, h2, q2, hh2, f2, hj2⟩ := pub_of (E := E) (a := 110) (kg_r_item JT_P hands) (N := mX8_item) rfl (List.cons_ne_nil _ _) [x1, x2] rfl (fun q => by cases q) (Nat.le_of_ble_eq_true rfl) hh1 hj1
  exact ⟨r1, r2, h1, h2, q1, q2, mobj hh1, hh2, hj2, ⟨pRel_fr (pRel_fr hR.1 f1 (by decide +kernel)) f2 (by decide +kernel), cRel_fr (cRel_fr hR.2.1 f1 (by decide +kernel)) f2 (by decide +kernel), xj_fr (xj_fr hR.2.2 f1 (by decide +kernel)) f2 (by decide +kernel)⟩⟩
theorem lw_rest (x1 x2 : Int32) (hh : HI HT h) (hj : JT h) (hR : RJ h) : ∃ (r1 r2 : Int32) (h1 h2 : List pC), Run prog E pV1 120 mX7_rest [.ref 0, .int x1, .int x2] h (some (.int r1), h1, 0, 0) ∧ Run prog E pV1 120 mX8_rest [.ref 110, .int x1, .int x2] h1 (some (.int r2), h2, 0, 0) ∧ (∃ o, pobj h1 110 = some o ∧ o.1 = 8) ∧ HI HT h2 ∧ JT h2 ∧ RJ h2 := by
  obtain ⟨r1, h1, q1, hh1, f1, hj1⟩ := pub_of (E := E) (a := 0) (kg_c_rest JT_P hands) (N := mX7_rest) rfl (List.cons_ne_nil _ _) [x1, x2] rfl (fun q => by cases q) (Nat.le_of_ble_eq_true rfl) hh hj
  obtain ⟨r2, h2, q2, hh2, f2, hj2⟩ := pub_of (E := E) (a := 110) (kg_r_rest JT_P hands) (N := mX8_rest) rfl (List.cons_ne_nil _ _) [x1, x2] rfl (fun q => by cases q) (Nat.le_of_ble_eq_true rfl) hh1 hj1
  exact ⟨r1, r2, h1, h2, q1, q2, mobj hh1, hh2, hj2, ⟨pRel_fr (pRel_fr hR.1 f1 (by decide +kernel)) f2 (by decide +kernel), cRel_fr (cRel_fr hR.2.1 f1 (by decide +kernel)) f2 (by decide +kernel), xj_fr (xj_fr hR.2.2 f1 (by decide +kernel)) f2 (by decide +kernel)⟩⟩
theorem lw_tell (x1 : Int32) (hh : HI HT h) (hj : JT h) (hR : RJ h) : ∃ (r1 r2 : Int32) (h1 h2 : List pC), Run prog E pV1 120 mX7_tell [.ref 0, .int x1] h (some (.int r1), h1, 0, 0) ∧ Run prog E pV1 120 mX8_tell [.ref 110, .int x1] h1 (some (.int r2), h2, 0, 0) ∧ (∃ o, pobj h1 110 = some o ∧ o.1 = 8) ∧ HI HT h2 ∧ JT h2 ∧ RJ h2 := by
  obtain ⟨r1, h1, q1, hh1, f1, hj1⟩ := pub_of (E := E) (a := 0) (kg_c_tell JT_P hands) (N := mX7_tell) rfl (List.cons_ne_nil _ _) [x1] rfl (fun q => by cases q) (Nat.le_of_ble_eq_true rfl) hh hj
  obtain ⟨r2, h2, q2, hh2, f2, hj2⟩ := pub_of (E := E) (a := 110) (kg_r_tell JT_P hands) (N := mX8_tell) rfl (List.cons_ne_nil _ _) [x1] rfl (fun q => by cases q) (Nat.le_of_ble_eq_true rfl) hh1 hj1
  exact ⟨r1, r2, h1, h2, q1, q2, mobj hh1, hh2, hj2, ⟨pRel_fr (pRel_fr hR.1 f1 (by decide +kernel)) f2 (by decide +kernel), cRel_fr (cRel_fr hR.2.1 f1 (by decide +kernel)) f2 (by decide +kernel), xj_fr (xj_fr hR.2.2 f1 (by decide +kernel)) f2 (by decide +kernel)⟩⟩
theorem lw_check (x1 : Int32) (hh : HI HT h) (hj : JT h) (hR : RJ h) : ∃ (r1 r2 : Int32) (h1 h2 : List pC), Run prog E pV1 120 mX7_check [.ref 0, .int x1] h (some (.int r1), h1, 0, 0) ∧ Run prog E pV1 120 mX8_check [.ref 110, .int x1] h1 (some (.int r2), h2, 0, 0) ∧ (∃ o, pobj h1 110 = some o ∧ o.1 = 8) ∧ HI HT h2 ∧ JT h2 ∧ RJ h2 := by
  obtain ⟨r1, h1, q1, hh1, f1, hj1⟩ := pub_of (E := E) (a := 0) (kg_c_check JT_P hands) (N := mX7_check) rfl (List.cons_ne_nil _ _) [x1] rfl (fun q => by cases q) (Nat.le_of_ble_eq_true rfl) hh hj
  obtain ⟨r2, h2, q2, hh2, f2, hj2⟩ := pub_of (E := E) (a := 110) (hd_check hands) (N := mX8_check) rfl (List.cons_ne_nil _ _) [x1] rfl (fun q => by cases q) (Nat.le_of_ble_eq_true rfl) hh1 hj1
  exact ⟨r1, r2, h1, h2, q1, q2, mobj hh1, hh2, hj2, ⟨pRel_fr (pRel_fr hR.1 f1 (by decide +kernel)) f2 (by decide +kernel), cRel_fr (cRel_fr hR.2.1 f1 (by decide +kernel)) f2 (by decide +kernel), xj_fr (xj_fr hR.2.2 f1 (by decide +kernel)) f2 (by decide +kernel)⟩⟩
theorem lw_keep (hh : HI HT h) (hj : JT h) (hR : RJ h) : ∃ (r1 r2 : Int32) (h1 h2 : List pC), Run prog E pV1 120 mX7_keep [.ref 0] h (some (.int r1), h1, 0, 0) ∧ Run prog E pV1 120 mX8_keep [.ref 110] h1 (some (.int r2), h2, 0, 0) ∧ (∃ o, pobj h1 110 = some o ∧ o.1 = 8) ∧ HI HT h2 ∧ JT h2 ∧ RJ h2 := by
  obtain ⟨m, h1, m9, em, q1, hh1, hj1, f1, z, z5, z9⟩ := keep_all (E := E) hh hj hR
  obtain ⟨h2, q2, hh2, hj2, f2, k1, k2⟩ := keep_x (E := E) hh1 hj1
  have e0 : ri h 34 5 = ri h 111 0 := (sub_rel (R' := [((8, 34, 5), (0, 111, 0), 0, 9)]) hR.1 (by decide) _ List.mem_cons_self)
  have e1 : ri h1 111 0 = nI m := by
    rw [ri_fr (a := 111) (i := 0) f1 (by decide), ← e0]
    exact Int32.toInt_inj.mp (em.trans (nI_toInt (by omega)).symm)
  rw [e1] at q2
  have rr := cl_1 hR.2.1 (ty_34_5 hh hR).2
  refine ⟨_, _, h1, h2, q1, q2, mobj hh1, hh2, hj2, fun q hq => ?_, cl_i (fun k f hk hf b => ?_) (fun k f hk hf b => ?_) (fun b1 b2 => ?_), ⟨⟨by unfold tdB; rw [ri_fr (a := 34) (i := 7) f2 (by decide), ri_fr (a := 34) (i := 7) f1 (by decide)]; exact hR.2.2.1.1, by unfold tdB; rw [ri_fr (a := 48) (i := 7) f2 (by decide), z ((48, 7), (34, 7)) (List.mem_append_left _ (by decide +kernel))]; exact hR.2.2.1.1⟩, vb_fr (vb_fr hR.2.2.2 f1 (by decide +kernel)) f2 (by decide +kernel)⟩⟩
  · rcases List.mem_append.mp hq with hq | hq
    · rcases List.mem_cons.mp hq with rfl | hq
      · exact pRel_fr (pRel_fr (R := [((8, 34, 5), (0, 111, 0), 0, 9)]) (sub_rel hR.1 (by decide)) f1 (by decide +kernel)) f2 (by decide +kernel) _ List.mem_cons_self
      rcases List.mem_cons.mp hq with rfl | hq
      · show ri h2 48 5 = ri h2 112 0
        exact Int32.toInt_inj.mp (by rw [ri_fr (a := 48) (i := 5) f2 (by decide), z5, k1 0 (by decide), ri_fr (a := 111) (i := 0) f1 (by decide), ← (sub_rel (R' := [((8, 34, 5), (0, 111, 0), 0, 9)]) hR.1 (by decide) _ List.mem_cons_self), em])
      rcases List.mem_cons.mp hq with rfl | hq
      · show ri h2 0 9 = ri h2 110 3
        rw [ri_fr (a := 0) (i := 9) f2 (by decide), z9, k2]
      rcases List.mem_cons.mp hq with rfl | hq
      · exact pRel_fr (pRel_fr (R := [((8, 34, 9), (0, 111, 4), (-2147483648), 2147483647)]) (sub_rel hR.1 (by decide)) f1 (by decide +kernel)) f2 (by decide +kernel) _ List.mem_cons_self
      rcases List.mem_cons.mp hq with rfl | hq
      · exact pRel_fr (pRel_fr (R := [((8, 34, 7), (0, 111, 2), (-2147483648), 2147483647)]) (sub_rel hR.1 (by decide)) f1 (by decide +kernel)) f2 (by decide +kernel) _ List.mem_cons_self
      rcases List.mem_cons.mp hq with rfl | hq
      · show ri h2 48 7 = ri h2 112 2
        rw [ri_fr (a := 48) (i := 7) f2 (by decide), z ((48, 7), (34, 7)) (List.mem_append_left _ (by decide +kernel)), k1 2 (by decide), ri_fr (a := 111) (i := 2) f1 (by decide)]
        exact (sub_rel (R' := [((8, 34, 7), (0, 111, 2), (-2147483648), 2147483647)]) hR.1 (by decide) _ List.mem_cons_self)
      rcases List.mem_cons.mp hq with rfl | hq
      · exact pRel_fr (pRel_fr (R := [((5, 82, 1), (0, 114, 0), (-1), 1)]) (sub_rel hR.1 (by decide)) f1 (by decide +kernel)) f2 (by decide +kernel) _ List.mem_cons_self
      rcases List.mem_cons.mp hq with rfl | hq
      · exact pRel_fr (pRel_fr (R := [((5, 84, 1), (0, 114, 1), (-1), 1)]) (sub_rel hR.1 (by decide)) f1 (by decide +kernel)) f2 (by decide +kernel) _ List.mem_cons_self
      rcases List.mem_cons.mp hq with rfl | hq
      · exact pRel_fr (pRel_fr (R := [((5, 86, 1), (0, 114, 2), (-1), 1)]) (sub_rel hR.1 (by decide)) f1 (by decide +kernel)) f2 (by decide +kernel) _ List.mem_cons_self
      rcases List.mem_cons.mp hq with rfl | hq
      · exact pRel_fr (pRel_fr (R := [((5, 88, 1), (0, 114, 3), (-1), 1)]) (sub_rel hR.1 (by decide)) f1 (by decide +kernel)) f2 (by decide +kernel) _ List.mem_cons_self
      rcases List.mem_cons.mp hq with rfl | hq
      · exact pRel_fr (pRel_fr (R := [((5, 82, 2), (0, 115, 0), 0, 24)]) (sub_rel hR.1 (by decide)) f1 (by decide +kernel)) f2 (by decide +kernel) _ List.mem_cons_self
      rcases List.mem_cons.mp hq with rfl | hq
      · exact pRel_fr (pRel_fr (R := [((5, 84, 2), (0, 115, 1), 0, 24)]) (sub_rel hR.1 (by decide)) f1 (by decide +kernel)) f2 (by decide +kernel) _ List.mem_cons_self
      rcases List.mem_cons.mp hq with rfl | hq
      · exact pRel_fr (pRel_fr (R := [((5, 86, 2), (0, 115, 2), 0, 24)]) (sub_rel hR.1 (by decide)) f1 (by decide +kernel)) f2 (by decide +kernel) _ List.mem_cons_self
      obtain rfl := List.mem_singleton.mp hq
      exact pRel_fr (pRel_fr (R := [((5, 88, 2), (0, 115, 3), 0, 24)]) (sub_rel hR.1 (by decide)) f1 (by decide +kernel)) f2 (by decide +kernel) _ List.mem_cons_self
    · exact pRel_fr (pRel_fr (R := VLs) (rl_v hR.1) f1 (by decide +kernel)) f2 (by decide +kernel) q hq
  · have g : ∀ a i, 34 ≤ a → a ≤ 47 ∨ a = 111 → ri h2 a i = ri h a i := fun a i ha1 ha2 => by
      rw [ri_fr (a := a) (i := i) f2 (nin_iff.mpr (by simp only [WKe, List.forall_mem_cons]; exact ⟨by omega, by omega, fun _ h => absurd h List.not_mem_nil⟩)), ri_fr (a := a) (i := i) f1 (nin_iff.mpr (by simp only [List.forall_mem_cons]; exact ⟨by omega, by omega, by omega, by omega, by omega, fun _ h => absurd h List.not_mem_nil⟩))]
    rw [g _ _ (by omega) (Or.inl (by omega))] at b
    rw [g _ _ (by omega) (Or.inl (by omega)), g _ _ (by omega) (Or.inr rfl)]
    exact rr k f hk hf b
  · rw [ri_fr (a := 48) (i := 5) f2 (by decide), z5] at b
    rw [ri_fr (a := 48 + 5 + k) (i := f) f2 (nin_iff.mpr (by simp only [WKe, List.forall_mem_cons]; exact ⟨by omega, by omega, fun _ h => absurd h List.not_mem_nil⟩)), z _ (List.mem_append_right _ (mlr_mem (by omega) hf)), k1 _ (by omega), ri_fr (a := 111) (i := 21 + 6 * k + f) f1 (nin_iff.mpr (by simp only [List.forall_mem_cons]; exact ⟨by omega, by omega, by omega, by omega, by omega, fun _ h => absurd h List.not_mem_nil⟩))]
    exact rr k f hk hf (by omega)
  · rw [ri_fr (a := 48) (i := 9) f2 (by decide), z ((48, 9), (34, 9)) (List.mem_append_left _ (by decide +kernel)), k1 4 (by decide), ri_fr (a := 111) (i := 4) f1 (by decide)]
    exact (sub_rel (R' := [((8, 34, 9), (0, 111, 4), (-2147483648), 2147483647)]) hR.1 (by decide) _ List.mem_cons_self)
theorem lw_back (hh : HI HT h) (hj : JT h) (hR : RJ h) : ∃ (r1 r2 : Int32) (h1 h2 : List pC), Run prog E pV1 120 mX7_back [.ref 0] h (some (.int r1), h1, 0, 0) ∧ Run prog E pV1 120 mX8_back [.ref 110] h1 (some (.int r2), h2, 0, 0) ∧ (∃ o, pobj h1 110 = some o ∧ o.1 = 8) ∧ HI HT h2 ∧ JT h2 ∧ RJ h2 := by
  have t9 := ty_0_9 hh hR
  have e9 : ri h 0 9 = ri h 110 3 := (sub_rel (R' := [((9, 0, 9), (10, 110, 3), 0, 1)]) hR.1 (by decide) _ List.mem_cons_self)
  have r1 := cl_1 hR.2.1 (ty_34_5 hh hR).2
  have r2 := cl_2 hR.2.1 (ty_48_5 hh hR).2
  by_cases c9 : (ri h 0 9).toInt ≤ 0
  · have z9 : ri h 110 3 = 0 := by
      rw [← e9]
      exact Int32.toInt_inj.mp (by rw [show (0 : Int32).toInt = 0 by decide]; omega)
    obtain ⟨r0, h1, q1, hh1, hj1, f1, z3⟩ := ox_ok (E := E) (xs := []) (R' := ro_back0) (Q := fun r h' => r = some (.int (-1000000002))) ox_back0 rfl (fun _ h => absurd h List.not_mem_nil) hj hh (sub_rel hR.1 (by decide +kernel)) (pBd.cs t9.1 c9 pBd.nl) trivial (fun e he => by cases he) (fun σ Γ C Δ x r h' he ha _ hC _ hr => by
      obtain ⟨a1, u, a2, a3⟩ := ecV_ok he hC hr
      rw [a2, show u = -1000000002 from Int32.toInt_inj.mp ((zcn (a3 _ rfl)).trans (by decide))])
    obtain ⟨h2, q2, hh2, hj2, f2, k1, k2⟩ := back_x (E := E) hh1 hj1
    have e3 : ri h1 110 3 = 0 := (ri_fr f1 (by decide)).trans z9
    subst z3
    rw [if_pos e3] at q2
    have hR1 : pRel RL h1 := pRel_fr hR.1 f1 (by decide +kernel)
    have g : ∀ a i, ri h2 a i = ri h a i := fun a i => by
      by_cases ea : a = 111
      · subst ea
        rw [k1 e3 i]
        exact ri_fr f1 rfl
      · rw [ri_fr (a := a) (i := i) f2 (nin_iff.mpr (by simp only [WBa, List.forall_mem_cons]; exact ⟨by omega, fun _ h => absurd h List.not_mem_nil⟩))]
        exact ri_fr f1 rfl
    refine ⟨_, _, h1, h2, q1, q2, mobj hh1, hh2, hj2, fun q hq => ?_, cl_i (fun k f hk hf b => by rw [g] at b; rw [g, g]; exact r1 k f hk hf b) (fun k f hk hf b => by rw [g] at b; rw [g, g]; exact r2 k f hk hf b) (fun b1 b2 => by rw [g] at b1 b2; rw [g, g]; exact cl_3 hR.2.1 b1 b2), xj_fr (xj_fr hR.2.2 f1 (by decide +kernel)) f2 (by decide +kernel)⟩
    rcases List.mem_append.mp hq with hq | hq
    · rcases List.mem_cons.mp hq with rfl | hq
      · show ri h2 34 5 = ri h2 111 0
        rw [ri_fr (a := 34) (i := 5) f2 (by decide), k1 e3 0]
        exact hR1 _ (List.mem_append_left _ List.mem_cons_self)
      rcases List.mem_cons.mp hq with rfl | hq
      · exact pRel_fr (pRel_fr (R := [((8, 48, 5), (0, 112, 0), 0, 9)]) (sub_rel hR.1 (by decide)) f1 (by decide +kernel)) f2 (by decide +kernel) _ List.mem_cons_self
      rcases List.mem_cons.mp hq with rfl | hq
      · exact pRel_fr (pRel_fr (R := [((9, 0, 9), (10, 110, 3), 0, 1)]) (sub_rel hR.1 (by decide)) f1 (by decide +kernel)) f2 (by decide +kernel) _ List.mem_cons_self
      rcases List.mem_cons.mp hq with rfl | hq
      · show ri h2 34 9 = ri h2 111 4
        rw [ri_fr (a := 34) (i := 9) f2 (by decide), k1 e3 4]
        exact hR1 _ (List.mem_append_left _ (List.mem_cons_of_mem _ (List.mem_cons_of_mem _ (List.mem_cons_of_mem _ List.mem_cons_self))))
      rcases List.mem_cons.mp hq with rfl | hq
      · show ri h2 34 7 = ri h2 111 2
        rw [ri_fr (a := 34) (i := 7) f2 (by decide), k1 e3 2]
        exact hR1 _ (List.mem_append_left _ (List.mem_cons_of_mem _ (List.mem_cons_of_mem _ (List.mem_cons_of_mem _ (List.mem_cons_of_mem _ List.mem_cons_self)))))
      rcases List.mem_cons.mp hq with rfl | hq
      · exact pRel_fr (pRel_fr (R := [((8, 48, 7), (0, 112, 2), (-2147483648), 2147483647)]) (sub_rel hR.1 (by decide)) f1 (by decide +kernel)) f2 (by decide +kernel) _ List.mem_cons_self
      rcases List.mem_cons.mp hq with rfl | hq
      · exact pRel_fr (pRel_fr (R := [((5, 82, 1), (0, 114, 0), (-1), 1)]) (sub_rel hR.1 (by decide)) f1 (by decide +kernel)) f2 (by decide +kernel) _ List.mem_cons_self
      rcases List.mem_cons.mp hq with rfl | hq
      · exact pRel_fr (pRel_fr (R := [((5, 84, 1), (0, 114, 1), (-1), 1)]) (sub_rel hR.1 (by decide)) f1 (by decide +kernel)) f2 (by decide +kernel) _ List.mem_cons_self
      rcases List.mem_cons.mp hq with rfl | hq
      · exact pRel_fr (pRel_fr (R := [((5, 86, 1), (0, 114, 2), (-1), 1)]) (sub_rel hR.1 (by decide)) f1 (by decide +kernel)) f2 (by decide +kernel) _ List.mem_cons_self
      rcases List.mem_cons.mp hq with rfl | hq
      · exact pRel_fr (pRel_fr (R := [((5, 88, 1), (0, 114, 3), (-1), 1)]) (sub_rel hR.1 (by decide)) f1 (by decide +kernel)) f2 (by decide +kernel) _ List.mem_cons_self
      rcases List.mem_cons.mp hq with rfl | hq
      · exact pRel_fr (pRel_fr (R := [((5, 82, 2), (0, 115, 0), 0, 24)]) (sub_rel hR.1 (by decide)) f1 (by decide +kernel)) f2 (by decide +kernel) _ List.mem_cons_self
      rcases List.mem_cons.mp hq with rfl | hq
      · exact pRel_fr (pRel_fr (R := [((5, 84, 2), (0, 115, 1), 0, 24)]) (sub_rel hR.1 (by decide)) f1 (by decide +kernel)) f2 (by decide +kernel) _ List.mem_cons_self
      rcases List.mem_cons.mp hq with rfl | hq
      · exact pRel_fr (pRel_fr (R := [((5, 86, 2), (0, 115, 2), 0, 24)]) (sub_rel hR.1 (by decide)) f1 (by decide +kernel)) f2 (by decide +kernel) _ List.mem_cons_self
      obtain rfl := List.mem_singleton.mp hq
      exact pRel_fr (pRel_fr (R := [((5, 88, 2), (0, 115, 3), 0, 24)]) (sub_rel hR.1 (by decide)) f1 (by decide +kernel)) f2 (by decide +kernel) _ List.mem_cons_self
    · exact (by rw [g, g]; exact rl_g hR.1 q hq)
  · obtain ⟨m, h1, m9, em, q1, hh1, hj1, f1, z, z5⟩ := backy_all (E := E) hh hj hR (by omega)
    obtain ⟨h2, q2, hh2, hj2, f2, k1, k2⟩ := back_x (E := E) hh1 hj1
    have n3 : ¬ ri h1 110 3 = 0 := fun e => c9 (by
      rw [e9, ← ri_fr (a := 110) (i := 3) f1 (by decide), e]
      decide)
    have e8 : ri h 48 5 = ri h 112 0 := (sub_rel (R' := [((8, 48, 5), (0, 112, 0), 0, 9)]) hR.1 (by decide) _ List.mem_cons_self)
    have e1' : ri h1 112 0 = ri h 112 0 := ri_fr f1 (by decide)
    have e1 : ri h1 112 0 = nI m := by
      rw [e1', ← e8]
      exact Int32.toInt_inj.mp (em.trans (nI_toInt (by omega)).symm)
    rw [if_neg n3, e1] at q2
    refine ⟨_, _, h1, h2, q1, q2, mobj hh1, hh2, hj2, fun q hq => ?_, cl_i (fun k f hk hf b => ?_) (fun k f hk hf b => ?_) (fun b1 b2 => ?_), ⟨⟨by unfold tdB; rw [ri_fr (a := 34) (i := 7) f2 (by decide), z ((34, 7), (48, 7)) (List.mem_append_left _ (by decide +kernel))]; exact hR.2.2.1.2, by unfold tdB; rw [ri_fr (a := 48) (i := 7) f2 (by decide), ri_fr (a := 48) (i := 7) f1 (by decide)]; exact hR.2.2.1.2⟩, vb_fr (vb_fr hR.2.2.2 f1 (by decide +kernel)) f2 (by decide +kernel)⟩⟩
    · rcases List.mem_append.mp hq with hq | hq
      · rcases List.mem_cons.mp hq with rfl | hq
        · show ri h2 34 5 = ri h2 111 0
          exact Int32.toInt_inj.mp (by rw [ri_fr (a := 34) (i := 5) f2 (by decide), z5, k2 n3 0 (by decide), e1', ← e8, em])
        rcases List.mem_cons.mp hq with rfl | hq
        · exact pRel_fr (pRel_fr (R := [((8, 48, 5), (0, 112, 0), 0, 9)]) (sub_rel hR.1 (by decide)) f1 (by decide +kernel)) f2 (by decide +kernel) _ List.mem_cons_self
        rcases List.mem_cons.mp hq with rfl | hq
        · exact pRel_fr (pRel_fr (R := [((9, 0, 9), (10, 110, 3), 0, 1)]) (sub_rel hR.1 (by decide)) f1 (by decide +kernel)) f2 (by decide +kernel) _ List.mem_cons_self
        rcases List.mem_cons.mp hq with rfl | hq
        · show ri h2 34 9 = ri h2 111 4
          rw [ri_fr (a := 34) (i := 9) f2 (by decide), z ((34, 9), (48, 9)) (List.mem_append_left _ (by decide +kernel)), k2 n3 4 (by decide), ri_fr (a := 112) (i := 4) f1 (by decide)]
          exact cl_3 hR.2.1 (by omega) t9.2
        rcases List.mem_cons.mp hq with rfl | hq
        · show ri h2 34 7 = ri h2 111 2
          rw [ri_fr (a := 34) (i := 7) f2 (by decide), z ((34, 7), (48, 7)) (List.mem_append_left _ (by decide +kernel)), k2 n3 2 (by decide), ri_fr (a := 112) (i := 2) f1 (by decide)]
          exact (sub_rel (R' := [((8, 48, 7), (0, 112, 2), (-2147483648), 2147483647)]) hR.1 (by decide) _ List.mem_cons_self)
        rcases List.mem_cons.mp hq with rfl | hq
        · exact pRel_fr (pRel_fr (R := [((8, 48, 7), (0, 112, 2), (-2147483648), 2147483647)]) (sub_rel hR.1 (by decide)) f1 (by decide +kernel)) f2 (by decide +kernel) _ List.mem_cons_self
        rcases List.mem_cons.mp hq with rfl | hq
        · exact pRel_fr (pRel_fr (R := [((5, 82, 1), (0, 114, 0), (-1), 1)]) (sub_rel hR.1 (by decide)) f1 (by decide +kernel)) f2 (by decide +kernel) _ List.mem_cons_self
        rcases List.mem_cons.mp hq with rfl | hq
        · exact pRel_fr (pRel_fr (R := [((5, 84, 1), (0, 114, 1), (-1), 1)]) (sub_rel hR.1 (by decide)) f1 (by decide +kernel)) f2 (by decide +kernel) _ List.mem_cons_self
        rcases List.mem_cons.mp hq with rfl | hq
        · exact pRel_fr (pRel_fr (R := [((5, 86, 1), (0, 114, 2), (-1), 1)]) (sub_rel hR.1 (by decide)) f1 (by decide +kernel)) f2 (by decide +kernel) _ List.mem_cons_self
        rcases List.mem_cons.mp hq with rfl | hq
        · exact pRel_fr (pRel_fr (R := [((5, 88, 1), (0, 114, 3), (-1), 1)]) (sub_rel hR.1 (by decide)) f1 (by decide +kernel)) f2 (by decide +kernel) _ List.mem_cons_self
        rcases List.mem_cons.mp hq with rfl | hq
        · exact pRel_fr (pRel_fr (R := [((5, 82, 2), (0, 115, 0), 0, 24)]) (sub_rel hR.1 (by decide)) f1 (by decide +kernel)) f2 (by decide +kernel) _ List.mem_cons_self
        rcases List.mem_cons.mp hq with rfl | hq
        · exact pRel_fr (pRel_fr (R := [((5, 84, 2), (0, 115, 1), 0, 24)]) (sub_rel hR.1 (by decide)) f1 (by decide +kernel)) f2 (by decide +kernel) _ List.mem_cons_self
        rcases List.mem_cons.mp hq with rfl | hq
        · exact pRel_fr (pRel_fr (R := [((5, 86, 2), (0, 115, 2), 0, 24)]) (sub_rel hR.1 (by decide)) f1 (by decide +kernel)) f2 (by decide +kernel) _ List.mem_cons_self
        obtain rfl := List.mem_singleton.mp hq
        exact pRel_fr (pRel_fr (R := [((5, 88, 2), (0, 115, 3), 0, 24)]) (sub_rel hR.1 (by decide)) f1 (by decide +kernel)) f2 (by decide +kernel) _ List.mem_cons_self
      · exact pRel_fr (pRel_fr (R := VLs) (rl_v hR.1) f1 (by decide +kernel)) f2 (by decide +kernel) q hq
    · rw [ri_fr (a := 34) (i := 5) f2 (by decide), z5] at b
      rw [ri_fr (a := 34 + 5 + k) (i := f) f2 (nin_iff.mpr (by simp only [WBa, List.forall_mem_cons]; exact ⟨by omega, fun _ h => absurd h List.not_mem_nil⟩)), z _ (List.mem_append_right _ (mlr_mem (by omega) hf)), k2 n3 _ (by omega), ri_fr (a := 112) (i := 21 + 6 * k + f) f1 (nin_iff.mpr (by simp only [List.forall_mem_cons]; exact ⟨by omega, by omega, by omega, by omega, fun _ h => absurd h List.not_mem_nil⟩))]
      exact r2 k f hk hf (by omega)
    · have g : ∀ a i, 48 ≤ a → a ≤ 61 ∨ a = 112 → ri h2 a i = ri h a i := fun a i ha1 ha2 => by
        rw [ri_fr (a := a) (i := i) f2 (nin_iff.mpr (by simp only [WBa, List.forall_mem_cons]; exact ⟨by omega, fun _ h => absurd h List.not_mem_nil⟩)), ri_fr (a := a) (i := i) f1 (nin_iff.mpr (by simp only [List.forall_mem_cons]; exact ⟨by omega, by omega, by omega, by omega, fun _ h => absurd h List.not_mem_nil⟩))]
      rw [g _ _ (by omega) (Or.inl (by omega))] at b
      rw [g _ _ (by omega) (Or.inl (by omega)), g _ _ (by omega) (Or.inr rfl)]
      exact r2 k f hk hf b
    · rw [ri_fr (a := 48) (i := 9) f2 (by decide), ri_fr (a := 48) (i := 9) f1 (by decide), ri_fr (a := 112) (i := 4) f2 (by decide), ri_fr (a := 112) (i := 4) f1 (by decide)]
      exact cl_3 hR.2.1 (by omega) t9.2
theorem lw_count (x1 : Int32) (hh : HI HT h) (hj : JT h) (hR : RJ h) : ∃ (r1 r2 : Int32) (h1 h2 : List pC), Run prog E pV1 120 mX7_count [.ref 0, .int x1] h (some (.int r1), h1, 0, 0) ∧ Run prog E pV1 120 mX8_count [.ref 110, .int x1] h1 (some (.int r2), h2, 0, 0) ∧ (∃ o, pobj h1 110 = some o ∧ o.1 = 8) ∧ HI HT h2 ∧ JT h2 ∧ RJ h2 := by
  obtain ⟨r1, h1, q1, hh1, f1, hj1⟩ := pub_of (E := E) (a := 0) (kg_c_count JT_P hands) (N := mX7_count) rfl (List.cons_ne_nil _ _) [x1] rfl (fun q => by cases q) (Nat.le_of_ble_eq_true rfl) hh hj
  obtain ⟨r2, h2, q2, hh2, f2, hj2⟩ := pub_of (E := E) (a := 110) (kg_r_count JT_P hands) (N := mX8_count) rfl (List.cons_ne_nil _ _) [x1] rfl (fun q => by cases q) (Nat.le_of_ble_eq_true rfl) hh1 hj1
  exact ⟨r1, r2, h1, h2, q1, q2, mobj hh1, hh2, hj2, ⟨pRel_fr (pRel_fr hR.1 f1 (by decide +kernel)) f2 (by decide +kernel), cRel_fr (cRel_fr hR.2.1 f1 (by decide +kernel)) f2 (by decide +kernel), xj_fr (xj_fr hR.2.2 f1 (by decide +kernel)) f2 (by decide +kernel)⟩⟩
end LWS
