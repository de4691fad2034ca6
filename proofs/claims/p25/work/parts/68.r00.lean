/-! ===== what each pair of calls does, and what stays alike (printed by program) ===== -/
def VLs : List pq := (List.range 4).flatMap (fun u => (List.range 24).map (fun j => ((0, 83 + 2 * u, j), (0, 116, 24 * u + j), -2147483648, 2147483647)))
def MKw (w b : Nat) : List pq := (List.range 16).map (fun i => ((0, w + 1, i), (0, b, 5 + i), 0, 3))
def MLm (S D : Nat) : List ((Nat × Nat) × (Nat × Nat)) := (List.range 16).map (fun i => ((D + 1, i), (S + 1, i)))
theorem mlm_mem {S D i : Nat} (hi : i < 16) : ((D + 1, i), (S + 1, i)) ∈ MLm S D := List.mem_map.mpr ⟨i, List.mem_range.mpr hi, rfl⟩
theorem vl_e {h : List pC} (hr : pRel VLs h) : ∀ u j : Nat, u < 4 → j < 24 → ri h (83 + 2 * u) j = ri h 116 (24 * u + j) := fun u j hu hj => hr _ (List.mem_flatMap.mpr ⟨u, List.mem_range.mpr hu, List.mem_map.mpr ⟨j, List.mem_range.mpr hj, rfl⟩⟩)
theorem vl_i {h : List pC} (hr : ∀ u j : Nat, u < 4 → j < 24 → ri h (83 + 2 * u) j = ri h 116 (24 * u + j)) : pRel VLs h := fun q hq => by
  obtain ⟨u, hu, h1⟩ := List.mem_flatMap.mp hq
  obtain ⟨j, hj, rfl⟩ := List.mem_map.mp h1
  exact hr u j (List.mem_range.mp hu) (List.mem_range.mp hj)
theorem mk_e {w b : Nat} {h : List pC} (hr : pRel (MKw w b) h) : ∀ i : Nat, i < 16 → ri h (w + 1) i = ri h b (5 + i) := fun i hi => hr _ (List.mem_map.mpr ⟨i, List.mem_range.mpr hi, rfl⟩)
theorem mk_i {w b : Nat} {h : List pC} (hr : ∀ i : Nat, i < 16 → ri h (w + 1) i = ri h b (5 + i)) : pRel (MKw w b) h := fun q hq => by
  obtain ⟨i, hi, rfl⟩ := List.mem_map.mp hq
  exact hr i (List.mem_range.mp hi)
def RLf : List pq := [((8, 34, 5), (0, 111, 0), 0, 9), ((8, 48, 5), (0, 112, 0), 0, 9), ((9, 0, 9), (10, 110, 3), 0, 1), ((8, 34, 9), (0, 111, 4), (-2147483648), 2147483647), ((8, 34, 7), (0, 111, 2), (-2147483648), 2147483647), ((8, 48, 7), (0, 112, 2), (-2147483648), 2147483647), ((5, 82, 1), (0, 114, 0), (-1), 1), ((5, 84, 1), (0, 114, 1), (-1), 1), ((5, 86, 1), (0, 114, 2), (-1), 1), ((5, 88, 1), (0, 114, 3), (-1), 1), ((5, 82, 2), (0, 115, 0), 0, 24), ((5, 84, 2), (0, 115, 1), 0, 24), ((5, 86, 2), (0, 115, 2), 0, 24), ((5, 88, 2), (0, 115, 3), 0, 24)]
def RLg : List pq := VLs
def RL : List pq := RLf ++ RLg
theorem rl_g {h : List pC} (hr : pRel RL h) : pRel RLg h := fun q hq => hr q (List.mem_append_right _ hq)
theorem rl_v {h : List pC} (hr : pRel RL h) : pRel VLs h := rl_g hr
theorem rl_f {h : List pC} (hr : pRel RL h) : pRel RLf h := fun q hq => hr q (List.mem_append_left _ hq)
def CLw (w b : Nat) : List cq := (List.range 9).flatMap (fun (k : Nat) => (List.range 4).map (fun (f : Nat) => ((8, w, 5), ((k : Nat) : Int) + 1, 9, ((6, (w + 5 + k : Nat), f), (0, b, (21 + 6 * k + f : Nat)), -2147483648, 2147483647))))
def CLz : List cq := [((9, 0, 9), 1, 1, ((8, 48, 9), (0, 112, 4), -2147483648, 2147483647))]
def CL : List cq := CLw 34 111 ++ (CLw 48 112 ++ CLz)
/-- what is kept beside: THE TIDE is within its bound -/
def tdB (h : List pC) (a : Nat) : Prop := 0 ≤ (ri h a 7).toInt ∧ (ri h a 7).toInt ≤ 9999
def XK (h : List pC) : Prop := tdB h 34 ∧ tdB h 48
def xkW (W : aW) : Bool := !inW W 34 7 && !inW W 48 7
theorem xk_fr {W : aW} {h h' : List pC} (hx : XK h) (hf : Fr W h h') (hw : xkW W = true) : XK h' := by
  unfold xkW at hw
  rw [Bool.and_eq_true] at hw
  have n1 : inW W 34 7 = false := by simpa using hw.1
  have n2 : inW W 48 7 = false := by simpa using hw.2
  unfold XK tdB
  rw [ri_fr hf n1, ri_fr hf n2]
  exact hx
theorem xk0 : XK h0 := by
  have e1 : ri h0 34 7 = 0 := by decide +kernel
  have e2 : ri h0 48 7 = 0 := by decide +kernel
  unfold XK tdB
  rw [e1, e2]
  decide
/-- the sheets' numbers are within their bounds -/
def VB (h : List pC) : Prop := ∀ u j : Nat, u < 4 → j < 24 → -1000000005 ≤ (ri h (83 + 2 * u) j).toInt ∧ (ri h (83 + 2 * u) j).toInt ≤ 99999
def vbW (W : aW) : Bool := (List.range 4).all (fun u => (List.range 24).all (fun j => !inW W (83 + 2 * u) j))
theorem vb_fr {W : aW} {h h' : List pC} (hx : VB h) (hf : Fr W h h') (hw : vbW W = true) : VB h' := fun u j hu hj => by
  have n0 := List.all_eq_true.mp (List.all_eq_true.mp hw u (List.mem_range.mpr hu)) j (List.mem_range.mpr hj)
  have n1 : inW W (83 + 2 * u) j = false := by simpa using n0
  rw [ri_fr hf n1]
  exact hx u j hu hj
def XJ (h : List pC) : Prop := XK h ∧ VB h
def xjW (W : aW) : Bool := xkW W && vbW W
theorem xj_fr {W : aW} {h h' : List pC} (hx : XJ h) (hf : Fr W h h') (hw : xjW W = true) : XJ h' := by
  unfold xjW at hw
  rw [Bool.and_eq_true] at hw
  exact ⟨xk_fr hx.1 hf hw.1, vb_fr hx.2 hf hw.2⟩
theorem vb0 : VB h0 := fun u j hu hj => by
  have a := show (List.range 4).all (fun u => (List.range 24).all (fun j => decide (ri h0 (83 + 2 * u) j = 0))) = true by decide +kernel
  have e : ri h0 (83 + 2 * u) j = 0 := of_decide_eq_true (List.all_eq_true.mp (List.all_eq_true.mp a u (List.mem_range.mpr hu)) j (List.mem_range.mpr hj))
  rw [e]
  decide +kernel
theorem xj0 : XJ h0 := ⟨xk0, vb0⟩
def RJ (h : List pC) : Prop := pRel RL h ∧ cRel CL h ∧ XJ h
theorem rj0 : RJ h0 := ⟨fun q hq => of_decide_eq_true (List.all_eq_true.mp (show RL.all (fun q => decide (ri h0 q.1.2.1 q.1.2.2 = ri h0 q.2.1.2.1 q.2.1.2.2)) = true by decide +kernel) q hq), fun c hc b1 b2 => of_decide_eq_true (List.all_eq_true.mp (show CL.all (fun c => decide (c.2.1 ≤ (ri h0 c.1.2.1 c.1.2.2).toInt → (ri h0 c.1.2.1 c.1.2.2).toInt ≤ c.2.2.1 → ri h0 c.2.2.2.1.2.1 c.2.2.2.1.2.2 = ri h0 c.2.2.2.2.1.2.1 c.2.2.2.2.1.2.2)) = true by decide +kernel) c hc) b1 b2, xj0⟩
theorem i32_b (v : Int32) : -2147483648 ≤ v.toInt ∧ v.toInt ≤ 2147483647 := ⟨i32_lo v, i32_hi v⟩
theorem args_top : ∀ (xs : List Int32), argsG (xs.map Value.int) (List.replicate xs.length (.inl (-2147483648, 2147483647)))
  | [] => trivial
  | x :: xs => ⟨⟨x, rfl, i32_lo x, i32_hi x⟩, args_top xs⟩
/-- what a public method does, from its contract -/
theorem pub_of {E : pX} {i a : Nat} {c : aK} (hk : KGi E pV1 JT i c) {N : pM} (hN : prog[i]? = some N) (hc : m_code N ≠ []) (xs : List Int32) (h1 : c.1 = .inr (false, [a]) :: List.replicate xs.length (.inl (-2147483648, 2147483647))) (h2 : c.2.1 ≠ none) (h3 : c.2.2.2 ≤ 120) {h : List pC} (hh : HI HT h) (hj : JT h) : ∃ (r : Int32) (h' : List pC), Run prog E pV1 120 N (.ref a :: xs.map Value.int) h (some (.int r), h', 0, 0) ∧ HI HT h' ∧ Fr c.2.2.1 h h' ∧ JT h' := by
  obtain ⟨r, h', q, hr, hh', hf, hj'⟩ := hk N hN 120 h3 (.ref a :: xs.map Value.int) h (by rw [h1]; exact ⟨Or.inr ⟨a, List.mem_singleton.mpr rfl, rfl⟩, args_top xs⟩) hh hj
  obtain ⟨z, hz⟩ : ∃ z, c.2.1 = some z := by
    cases e : c.2.1 with
    | none => exact absurd e h2
    | some z => exact ⟨z, rfl⟩
  rw [hz] at hr
  obtain ⟨v, rfl, -⟩ := (show ∃ v : Int32, r = some (.int v) ∧ z.1 ≤ v.toInt ∧ v.toInt ≤ z.2 from hr)
  rcases q with q | q
  · exact ⟨v, h', q, hh', hf, hj'⟩
  · exact absurd q.1 hc
theorem cobj {h : List pC} (hh : HI HT h) : ∃ o, pobj h 0 = some o ∧ o.1 = 7 := by
  obtain ⟨fs, ho, -⟩ := hi_obj hh (a := 0) rfl
  exact ⟨_, ho, rfl⟩
def k_c_carveF : aK := ([.inr (false, [0]), .inl ((-2147483648), 2147483647), .inl ((-2147483648), 2147483647)], some ((-2147483648), 2147483647), [(35, 35, 0, 15)], 50)
def tb_c_carveF : aTb := fun mi i => none
def kc_c_carveF : List (Nat × aK) := [(48, k_covers), (50, k_sayAt), (44, k_value), (54, k_gainOver), (55, k_loss), (56, k_worth), (49, k_covered), (57, k_joined), (58, k_clashes), (70, k_falsehood34), (71, k_trustOfAll34), (72, k_laidSet34), (73, k_coveredBy34), (77, k_deniers34), (80, k_gainOf34), (78, k_flow34), (75, k_noteClashes), (76, k_anyClash)]
set_option maxRecDepth 100000 in
set_option maxHeartbeats 40000000 in
theorem ck_c_carveF : kchk prog HT kc_c_carveF tb_c_carveF 72 92 k_c_carveF = true := by decide +kernel
theorem kg_c_carveF {E : pX} : KGi E pV1 JT 92 k_c_carveF := kgi_of JT_P (by decide) ck_c_carveF (by unfold kc_c_carveF; exact (List.forall_mem_cons.mpr ⟨kg_covers JT_P hands, (List.forall_mem_cons.mpr ⟨kg_sayAt JT_P hands, (List.forall_mem_cons.mpr ⟨kg_value JT_P hands, (List.forall_mem_cons.mpr ⟨kg_gainOver JT_P hands, (List.forall_mem_cons.mpr ⟨kg_loss JT_P hands, (List.forall_mem_cons.mpr ⟨kg_worth JT_P hands, (List.forall_mem_cons.mpr ⟨kg_covered JT_P hands, (List.forall_mem_cons.mpr ⟨kg_joined JT_P hands, (List.forall_mem_cons.mpr ⟨kg_clashes JT_P hands, (List.forall_mem_cons.mpr ⟨kg_falsehood34 JT_P hands, (List.forall_mem_cons.mpr ⟨kg_trustOfAll34 JT_P hands, (List.forall_mem_cons.mpr ⟨kg_laidSet34 JT_P hands, (List.forall_mem_cons.mpr ⟨kg_coveredBy34 JT_P hands, (List.forall_mem_cons.mpr ⟨kg_deniers34 JT_P hands, (List.forall_mem_cons.mpr ⟨kg_gainOf34 JT_P hands, (List.forall_mem_cons.mpr ⟨kg_flow34 JT_P hands, (List.forall_mem_cons.mpr ⟨kg_noteClashes JT_P hands, (List.forall_mem_cons.mpr ⟨kg_anyClash JT_P hands, (fun _ h => absurd h List.not_mem_nil)⟩)⟩)⟩)⟩)⟩)⟩)⟩)⟩)⟩)⟩)⟩)⟩)⟩)⟩)⟩)⟩)⟩)⟩))
def k_r_carveF : aK := ([.inr (false, [110]), .inl ((-2147483648), 2147483647), .inl ((-2147483648), 2147483647)], some ((-2147483648), 2147483647), [(111, 111, 5, 20)], 50)
def tb_r_carveF : aTb := fun mi i => none
def kc_r_carveF : List (Nat × aK) := [(158, k_m_saysAt), (160, k_m_loses), (161, k_m_worth), (163, k_m_covers), (222, k_m_counts), (159, k_m_gains), (147, k_m_manyIn), (175, k_m_falseOf), (178, k_m_joinBy), (180, k_m_doClash), (182, k_m_laidOnes), (183, k_m_coveredBy), (184, k_m_findClashing), (185, k_m_areAtPeace), (188, k_m_otherwiseAt), (193, k_m_allTrust), (190, k_m_goesOn), (191, k_m_goesOnMany)]
set_option maxRecDepth 100000 in
set_option maxHeartbeats 40000000 in
theorem ck_r_carveF : kchk prog HT kc_r_carveF tb_r_carveF 57 171 k_r_carveF = true := by decide +kernel
theorem kg_r_carveF {E : pX} : KGi E pV1 JT 171 k_r_carveF := kgi_of JT_P (by decide) ck_r_carveF (by unfold kc_r_carveF; exact (List.forall_mem_cons.mpr ⟨kg_m_saysAt JT_P hands, (List.forall_mem_cons.mpr ⟨kg_m_loses JT_P hands, (List.forall_mem_cons.mpr ⟨kg_m_worth JT_P hands, (List.forall_mem_cons.mpr ⟨kg_m_covers JT_P hands, (List.forall_mem_cons.mpr ⟨kg_m_counts JT_P hands, (List.forall_mem_cons.mpr ⟨kg_m_gains hands, (List.forall_mem_cons.mpr ⟨kg_m_manyIn hands, (List.forall_mem_cons.mpr ⟨kg_m_falseOf JT_P hands, (List.forall_mem_cons.mpr ⟨kg_m_joinBy JT_P hands, (List.forall_mem_cons.mpr ⟨kg_m_doClash JT_P hands, (List.forall_mem_cons.mpr ⟨kg_m_laidOnes JT_P hands, (List.forall_mem_cons.mpr ⟨kg_m_coveredBy JT_P hands, (List.forall_mem_cons.mpr ⟨kg_m_findClashing JT_P hands, (List.forall_mem_cons.mpr ⟨kg_m_areAtPeace JT_P hands, (List.forall_mem_cons.mpr ⟨kg_m_otherwiseAt JT_P hands, (List.forall_mem_cons.mpr ⟨kg_m_allTrust JT_P hands, (List.forall_mem_cons.mpr ⟨kg_m_goesOn JT_P hands, (List.forall_mem_cons.mpr ⟨kg_m_goesOnMany JT_P hands, (fun _ h => absurd h List.not_mem_nil)⟩)⟩)⟩)⟩)⟩)⟩)⟩)⟩)⟩)⟩)⟩)⟩)⟩)⟩)⟩)⟩)⟩)⟩))
def k_c_pourF : aK := ([.inr (false, [0]), .inl ((-2147483648), 2147483647)], some ((-2147483648), 2147483647), [(35, 35, 0, 15)], 50)
def tb_c_pourF : aTb := fun mi i => if mi = 119 ∧ i = 17 then some ([((-2147483648), 2147483647, .inl 3), (0, 2147483647, .inl 4)], [], [5, 6], [(35, 35, 0, 15)], 1, true) else none
def kc_c_pourF : List (Nat × aK) := [(48, k_covers), (50, k_sayAt), (44, k_value), (54, k_gainOver), (55, k_loss), (56, k_worth), (49, k_covered), (57, k_joined), (58, k_clashes), (70, k_falsehood34), (71, k_trustOfAll34), (72, k_laidSet34), (73, k_coveredBy34), (77, k_deniers34), (80, k_gainOf34), (78, k_flow34), (75, k_noteClashes), (76, k_anyClash)]
set_option maxRecDepth 100000 in
set_option maxHeartbeats 40000000 in
theorem ck_c_pourF : kchk prog HT kc_c_pourF tb_c_pourF 122 119 k_c_pourF = true := by decide +kernel
theorem kg_c_pourF {E : pX} : KGi E pV1 JT 119 k_c_pourF := kgi_of JT_P (by decide) ck_c_pourF (by unfold kc_c_pourF; exact (List.forall_mem_cons.mpr ⟨kg_covers JT_P hands, (List.forall_mem_cons.mpr ⟨kg_sayAt JT_P hands, (List.forall_mem_cons.mpr ⟨kg_value JT_P hands, (List.forall_mem_cons.mpr ⟨kg_gainOver JT_P hands, (List.forall_mem_cons.mpr ⟨kg_loss JT_P hands, (List.forall_mem_cons.mpr ⟨kg_worth JT_P hands, (List.forall_mem_cons.mpr ⟨kg_covered JT_P hands, (List.forall_mem_cons.mpr ⟨kg_joined JT_P hands, (List.forall_mem_cons.mpr ⟨kg_clashes JT_P hands, (List.forall_mem_cons.mpr ⟨kg_falsehood34 JT_P hands, (List.forall_mem_cons.mpr ⟨kg_trustOfAll34 JT_P hands, (List.forall_mem_cons.mpr ⟨kg_laidSet34 JT_P hands, (List.forall_mem_cons.mpr ⟨kg_coveredBy34 JT_P hands, (List.forall_mem_cons.mpr ⟨kg_deniers34 JT_P hands, (List.forall_mem_cons.mpr ⟨kg_gainOf34 JT_P hands, (List.forall_mem_cons.mpr ⟨kg_flow34 JT_P hands, (List.forall_mem_cons.mpr ⟨kg_noteClashes JT_P hands, (List.forall_mem_cons.mpr ⟨kg_anyClash JT_P hands, (fun _ h => absurd h List.not_mem_nil)⟩)⟩)⟩)⟩)⟩)⟩)⟩)⟩)⟩)⟩)⟩)⟩)⟩)⟩)⟩)⟩)⟩)⟩))
def k_r_pourF : aK := ([.inr (false, [110]), .inl ((-2147483648), 2147483647)], some ((-2147483648), 2147483647), [(111, 111, 5, 20)], 50)
def tb_r_pourF : aTb := fun mi i => if mi = 229 ∧ i = 16 then some ([((-2147483648), 2147483647, .inl 2), (0, 2147483647, .inl 3)], [], [4, 5], [(111, 111, 5, 20)], 1, true) else none
def kc_r_pourF : List (Nat × aK) := [(158, k_m_saysAt), (160, k_m_loses), (161, k_m_worth), (163, k_m_covers), (222, k_m_counts), (159, k_m_gains), (147, k_m_manyIn), (175, k_m_falseOf), (178, k_m_joinBy), (180, k_m_doClash), (182, k_m_laidOnes), (183, k_m_coveredBy), (184, k_m_findClashing), (185, k_m_areAtPeace), (188, k_m_otherwiseAt), (193, k_m_allTrust), (190, k_m_goesOn), (191, k_m_goesOnMany)]
set_option maxRecDepth 100000 in
set_option maxHeartbeats 40000000 in
theorem ck_r_pourF : kchk prog HT kc_r_pourF tb_r_pourF 94 229 k_r_pourF = true := by decide +kernel
theorem kg_r_pourF {E : pX} : KGi E pV1 JT 229 k_r_pourF := kgi_of JT_P (by decide) ck_r_pourF (by unfold kc_r_pourF; exact (List.forall_mem_cons.mpr ⟨kg_m_saysAt JT_P hands, (List.forall_mem_cons.mpr ⟨kg_m_loses JT_P hands, (List.forall_mem_cons.mpr ⟨kg_m_worth JT_P hands, (List.forall_mem_cons.mpr ⟨kg_m_covers JT_P hands, (List.forall_mem_cons.mpr ⟨kg_m_counts JT_P hands, (List.forall_mem_cons.mpr ⟨kg_m_gains hands, (List.forall_mem_cons.mpr ⟨kg_m_manyIn hands, (List.forall_mem_cons.mpr ⟨kg_m_falseOf JT_P hands, (List.forall_mem_cons.mpr ⟨kg_m_joinBy JT_P hands, (List.forall_mem_cons.mpr ⟨kg_m_doClash JT_P hands, (List.forall_mem_cons.mpr ⟨kg_m_laidOnes JT_P hands, (List.forall_mem_cons.mpr ⟨kg_m_coveredBy JT_P hands, (List.forall_mem_cons.mpr ⟨kg_m_findClashing JT_P hands, (List.forall_mem_cons.mpr ⟨kg_m_areAtPeace JT_P hands, (List.forall_mem_cons.mpr ⟨kg_m_otherwiseAt JT_P hands, (List.forall_mem_cons.mpr ⟨kg_m_allTrust JT_P hands, (List.forall_mem_cons.mpr ⟨kg_m_goesOn JT_P hands, (List.forall_mem_cons.mpr ⟨kg_m_goesOnMany JT_P hands, (fun _ h => absurd h List.not_mem_nil)⟩)⟩)⟩)⟩)⟩)⟩)⟩)⟩)⟩)⟩)⟩)⟩)⟩)⟩)⟩)⟩)⟩)⟩))
def k_seeAgain34F : aK := ([.inr (false, [34]), .inr (false, [39, 40, 41, 42, 43, 44, 45, 46, 47]), .inl ((-2147483648), 2147483647)], none, [(5, 5, 0, 95), (1, 1, 3, 3), (34, 34, 8, 8), (39, 47, 4, 5)], 24)
def tb_seeAgain34F : aTb := fun mi i => none
def kc_seeAgain34F : List (Nat × aK) := [(48, k_covers), (50, k_sayAt), (44, k_value), (54, k_gainOver), (55, k_loss), (56, k_worth), (49, k_covered), (57, k_joined), (58, k_clashes), (80, k_gainOf34)]
set_option maxRecDepth 100000 in
set_option maxHeartbeats 40000000 in
theorem ck_seeAgain34F : kchk prog HT kc_seeAgain34F tb_seeAgain34F 53 79 k_seeAgain34F = true := by decide +kernel
theorem kg_seeAgain34F {E : pX} : KGi E pV1 JT 79 k_seeAgain34F := kgi_of JT_P (by decide) ck_seeAgain34F (by unfold kc_seeAgain34F; exact (List.forall_mem_cons.mpr ⟨kg_covers JT_P hands, (List.forall_mem_cons.mpr ⟨kg_sayAt JT_P hands, (List.forall_mem_cons.mpr ⟨kg_value JT_P hands, (List.forall_mem_cons.mpr ⟨kg_gainOver JT_P hands, (List.forall_mem_cons.mpr ⟨kg_loss JT_P hands, (List.forall_mem_cons.mpr ⟨kg_worth JT_P hands, (List.forall_mem_cons.mpr ⟨kg_covered JT_P hands, (List.forall_mem_cons.mpr ⟨kg_joined JT_P hands, (List.forall_mem_cons.mpr ⟨kg_clashes JT_P hands, (List.forall_mem_cons.mpr ⟨kg_gainOf34 JT_P hands, (fun _ h => absurd h List.not_mem_nil)⟩)⟩)⟩)⟩)⟩)⟩)⟩)⟩)⟩)⟩))
def k_c_markF : aK := ([.inr (false, [0]), .inl ((-2147483648), 2147483647), .inl ((-2147483648), 2147483647), .inl ((-2147483648), 2147483647)], some ((-2147483648), 2147483647), [(83, 83, 0, 23), (85, 85, 0, 23), (87, 87, 0, 23), (89, 89, 0, 23)], 50)
def tb_c_markF : aTb := fun mi i => none
def kc_c_markF : List (Nat × aK) := [(48, k_covers), (50, k_sayAt), (44, k_value), (54, k_gainOver), (55, k_loss), (56, k_worth), (49, k_covered), (57, k_joined), (58, k_clashes), (70, k_falsehood34), (71, k_trustOfAll34), (72, k_laidSet34), (73, k_coveredBy34), (77, k_deniers34), (80, k_gainOf34), (78, k_flow34), (75, k_noteClashes), (76, k_anyClash)]
set_option maxRecDepth 100000 in
set_option maxHeartbeats 40000000 in
theorem ck_c_markF : kchk prog HT kc_c_markF tb_c_markF 94 118 k_c_markF = true := by decide +kernel
theorem kg_c_markF {E : pX} : KGi E pV1 JT 118 k_c_markF := kgi_of JT_P (by decide) ck_c_markF (by unfold kc_c_markF; exact (List.forall_mem_cons.mpr ⟨kg_covers JT_P hands, (List.forall_mem_cons.mpr ⟨kg_sayAt JT_P hands, (List.forall_mem_cons.mpr ⟨kg_value JT_P hands, (List.forall_mem_cons.mpr ⟨kg_gainOver JT_P hands, (List.forall_mem_cons.mpr ⟨kg_loss JT_P hands, (List.forall_mem_cons.mpr ⟨kg_worth JT_P hands, (List.forall_mem_cons.mpr ⟨kg_covered JT_P hands, (List.forall_mem_cons.mpr ⟨kg_joined JT_P hands, (List.forall_mem_cons.mpr ⟨kg_clashes JT_P hands, (List.forall_mem_cons.mpr ⟨kg_falsehood34 JT_P hands, (List.forall_mem_cons.mpr ⟨kg_trustOfAll34 JT_P hands, (List.forall_mem_cons.mpr ⟨kg_laidSet34 JT_P hands, (List.forall_mem_cons.mpr ⟨kg_coveredBy34 JT_P hands, (List.forall_mem_cons.mpr ⟨kg_deniers34 JT_P hands, (List.forall_mem_cons.mpr ⟨kg_gainOf34 JT_P hands, (List.forall_mem_cons.mpr ⟨kg_flow34 JT_P hands, (List.forall_mem_cons.mpr ⟨kg_noteClashes JT_P hands, (List.forall_mem_cons.mpr ⟨kg_anyClash JT_P hands, (fun _ h => absurd h List.not_mem_nil)⟩)⟩)⟩)⟩)⟩)⟩)⟩)⟩)⟩)⟩)⟩)⟩)⟩)⟩)⟩)⟩)⟩)⟩))
def k_r_markF : aK := ([.inr (false, [110]), .inl ((-2147483648), 2147483647), .inl ((-2147483648), 2147483647), .inl ((-2147483648), 2147483647)], some ((-2147483648), 2147483647), [(116, 116, 0, 95)], 50)
def tb_r_markF : aTb := fun mi i => none
def kc_r_markF : List (Nat × aK) := [(158, k_m_saysAt), (160, k_m_loses), (161, k_m_worth), (163, k_m_covers), (222, k_m_counts), (159, k_m_gains), (147, k_m_manyIn), (175, k_m_falseOf), (178, k_m_joinBy), (180, k_m_doClash), (182, k_m_laidOnes), (183, k_m_coveredBy), (184, k_m_findClashing), (185, k_m_areAtPeace), (188, k_m_otherwiseAt), (193, k_m_allTrust), (190, k_m_goesOn), (191, k_m_goesOnMany)]
set_option maxRecDepth 100000 in
set_option maxHeartbeats 40000000 in
theorem ck_r_markF : kchk prog HT kc_r_markF tb_r_markF 98 228 k_r_markF = true := by decide +kernel
theorem kg_r_markF {E : pX} : KGi E pV1 JT 228 k_r_markF := kgi_of JT_P (by decide) ck_r_markF (by unfold kc_r_markF; exact (List.forall_mem_cons.mpr ⟨kg_m_saysAt JT_P hands, (List.forall_mem_cons.mpr ⟨kg_m_loses JT_P hands, (List.forall_mem_cons.mpr ⟨kg_m_worth JT_P hands, (List.forall_mem_cons.mpr ⟨kg_m_covers JT_P hands, (List.forall_mem_cons.mpr ⟨kg_m_counts JT_P hands, (List.forall_mem_cons.mpr ⟨kg_m_gains hands, (List.forall_mem_cons.mpr ⟨kg_m_manyIn hands, (List.forall_mem_cons.mpr ⟨kg_m_falseOf JT_P hands, (List.forall_mem_cons.mpr ⟨kg_m_joinBy JT_P hands, (List.forall_mem_cons.mpr ⟨kg_m_doClash JT_P hands, (List.forall_mem_cons.mpr ⟨kg_m_laidOnes JT_P hands, (List.forall_mem_cons.mpr ⟨kg_m_coveredBy JT_P hands, (List.forall_mem_cons.mpr ⟨kg_m_findClashing JT_P hands, (List.forall_mem_cons.mpr ⟨kg_m_areAtPeace JT_P hands, (List.forall_mem_cons.mpr ⟨kg_m_otherwiseAt JT_P hands, (List.forall_mem_cons.mpr ⟨kg_m_allTrust JT_P hands, (List.forall_mem_cons.mpr ⟨kg_m_goesOn JT_P hands, (List.forall_mem_cons.mpr ⟨kg_m_goesOnMany JT_P hands, (fun _ h => absurd h List.not_mem_nil)⟩)⟩)⟩)⟩)⟩)⟩)⟩)⟩)⟩)⟩)⟩)⟩)⟩)⟩)⟩)⟩)⟩)⟩))
def k_c_copyF : aK := ([.inr (false, [0]), .inl ((-2147483648), 2147483647), .inl ((-2147483648), 2147483647), .inl ((-2147483648), 2147483647), .inl ((-2147483648), 2147483647), .inl ((-2147483648), 2147483647)], some ((-2147483648), 2147483647), [(83, 83, 0, 23), (85, 85, 0, 23), (87, 87, 0, 23), (89, 89, 0, 23)], 50)
def tb_c_copyF : aTb := fun mi i => none
def kc_c_copyF : List (Nat × aK) := [(48, k_covers), (50, k_sayAt), (44, k_value), (54, k_gainOver), (55, k_loss), (56, k_worth), (49, k_covered), (57, k_joined), (58, k_clashes), (70, k_falsehood34), (71, k_trustOfAll34), (72, k_laidSet34), (73, k_coveredBy34), (77, k_deniers34), (80, k_gainOf34), (78, k_flow34), (75, k_noteClashes), (76, k_anyClash)]
set_option maxRecDepth 100000 in
set_option maxHeartbeats 40000000 in
theorem ck_c_copyF : kchk prog HT kc_c_copyF tb_c_copyF 130 121 k_c_copyF = true := by decide +kernel
theorem kg_c_copyF {E : pX} : KGi E pV1 JT 121 k_c_copyF := kgi_of JT_P (by decide) ck_c_copyF (by unfold kc_c_copyF; exact (List.forall_mem_cons.mpr ⟨kg_covers JT_P hands, (List.forall_mem_cons.mpr ⟨kg_sayAt JT_P hands, (List.forall_mem_cons.mpr ⟨kg_value JT_P hands, (List.forall_mem_cons.mpr ⟨kg_gainOver JT_P hands, (List.forall_mem_cons.mpr ⟨kg_loss JT_P hands, (List.forall_mem_cons.mpr ⟨kg_worth JT_P hands, (List.forall_mem_cons.mpr ⟨kg_covered JT_P hands, (List.forall_mem_cons.mpr ⟨kg_joined JT_P hands, (List.forall_mem_cons.mpr ⟨kg_clashes JT_P hands, (List.forall_mem_cons.mpr ⟨kg_falsehood34 JT_P hands, (List.forall_mem_cons.mpr ⟨kg_trustOfAll34 JT_P hands, (List.forall_mem_cons.mpr ⟨kg_laidSet34 JT_P hands, (List.forall_mem_cons.mpr ⟨kg_coveredBy34 JT_P hands, (List.forall_mem_cons.mpr ⟨kg_deniers34 JT_P hands, (List.forall_mem_cons.mpr ⟨kg_gainOf34 JT_P hands, (List.forall_mem_cons.mpr ⟨kg_flow34 JT_P hands, (List.forall_mem_cons.mpr ⟨kg_noteClashes JT_P hands, (List.forall_mem_cons.mpr ⟨kg_anyClash JT_P hands, (fun _ h => absurd h List.not_mem_nil)⟩)⟩)⟩)⟩)⟩)⟩)⟩)⟩)⟩)⟩)⟩)⟩)⟩)⟩)⟩)⟩)⟩)⟩))
def k_c_sayF : aK := ([.inr (false, [39, 40, 41, 42, 43, 44, 45, 46, 47]), .inl ((-2147483648), 2147483647)], some (0, 3), [], 10)
def tb_c_sayF : aTb := fun mi i => none
def kc_c_sayF : List (Nat × aK) := []
set_option maxRecDepth 100000 in
set_option maxHeartbeats 40000000 in
theorem ck_c_sayF : kchk prog HT kc_c_sayF tb_c_sayF 57 50 k_c_sayF = true := by decide +kernel
theorem kg_c_sayF {E : pX} : KGi E pV1 JT 50 k_c_sayF := kgi_of JT_P (by decide) ck_c_sayF (by unfold kc_c_sayF; exact (fun _ h => absurd h List.not_mem_nil))
def tp_rubbing0 : aTb := fun mi i => none
def rp_rubbing0 : List pq := [((8, 34, 5), (0, 111, 0), 0, 0)]
set_option maxRecDepth 100000 in
set_option maxHeartbeats 40000000 in
theorem cp_rubbing0 : prchk RL CL rp_rubbing0 [(34, 34, 5, 5), (39, 39, 0, 5), (111, 111, 0, 0), (111, 111, 21, 26)] [] tp_rubbing0 324 86 156 3 [((-2147483648), 2147483647), ((-2147483648), 2147483647), ((-2147483648), 2147483647)] [] = true := by decide +kernel
def tp_rubbing1 : aTb := fun mi i => none
def rp_rubbing1 : List pq := [((8, 34, 5), (0, 111, 0), 1, 1)]
set_option maxRecDepth 100000 in
set_option maxHeartbeats 40000000 in
theorem cp_rubbing1 : prchk RL CL rp_rubbing1 [(34, 34, 5, 5), (40, 40, 0, 5), (111, 111, 0, 0), (111, 111, 27, 32)] [] tp_rubbing1 324 86 156 3 [((-2147483648), 2147483647), ((-2147483648), 2147483647), ((-2147483648), 2147483647)] [] = true := by decide +kernel
def tp_rubbing2 : aTb := fun mi i => none
def rp_rubbing2 : List pq := [((8, 34, 5), (0, 111, 0), 2, 2)]
set_option maxRecDepth 100000 in
set_option maxHeartbeats 40000000 in
theorem cp_rubbing2 : prchk RL CL rp_rubbing2 [(34, 34, 5, 5), (41, 41, 0, 5), (111, 111, 0, 0), (111, 111, 33, 38)] [] tp_rubbing2 324 86 156 3 [((-2147483648), 2147483647), ((-2147483648), 2147483647), ((-2147483648), 2147483647)] [] = true := by decide +kernel
def tp_rubbing3 : aTb := fun mi i => none
def rp_rubbing3 : List pq := [((8, 34, 5), (0, 111, 0), 3, 3)]
set_option maxRecDepth 100000 in
set_option maxHeartbeats 40000000 in
theorem cp_rubbing3 : prchk RL CL rp_rubbing3 [(34, 34, 5, 5), (42, 42, 0, 5), (111, 111, 0, 0), (111, 111, 39, 44)] [] tp_rubbing3 324 86 156 3 [((-2147483648), 2147483647), ((-2147483648), 2147483647), ((-2147483648), 2147483647)] [] = true := by decide +kernel
def tp_rubbing4 : aTb := fun mi i => none
def rp_rubbing4 : List pq := [((8, 34, 5), (0, 111, 0), 4, 4)]
set_option maxRecDepth 100000 in
set_option maxHeartbeats 40000000 in
theorem cp_rubbing4 : prchk RL CL rp_rubbing4 [(34, 34, 5, 5), (43, 43, 0, 5), (111, 111, 0, 0), (111, 111, 45, 50)] [] tp_rubbing4 324 86 156 3 [((-2147483648), 2147483647), ((-2147483648), 2147483647), ((-2147483648), 2147483647)] [] = true := by decide +kernel
def tp_rubbing5 : aTb := fun mi i => none
def rp_rubbing5 : List pq := [((8, 34, 5), (0, 111, 0), 5, 5)]
set_option maxRecDepth 100000 in
set_option maxHeartbeats 40000000 in
theorem cp_rubbing5 : prchk RL CL rp_rubbing5 [(34, 34, 5, 5), (44, 44, 0, 5), (111, 111, 0, 0), (111, 111, 51, 56)] [] tp_rubbing5 324 86 156 3 [((-2147483648), 2147483647), ((-2147483648), 2147483647), ((-2147483648), 2147483647)] [] = true := by decide +kernel
def tp_rubbing6 : aTb := fun mi i => none
def rp_rubbing6 : List pq := [((8, 34, 5), (0, 111, 0), 6, 6)]
set_option maxRecDepth 100000 in
set_option maxHeartbeats 40000000 in
theorem cp_rubbing6 : prchk RL CL rp_rubbing6 [(34, 34, 5, 5), (45, 45, 0, 5), (111, 111, 0, 0), (111, 111, 57, 62)] [] tp_rubbing6 324 86 156 3 [((-2147483648), 2147483647), ((-2147483648), 2147483647), ((-2147483648), 2147483647)] [] = true := by decide +kernel
def tp_rubbing7 : aTb := fun mi i => none
def rp_rubbing7 : List pq := [((8, 34, 5), (0, 111, 0), 7, 7)]
set_option maxRecDepth 100000 in
set_option maxHeartbeats 40000000 in
theorem cp_rubbing7 : prchk RL CL rp_rubbing7 [(34, 34, 5, 5), (46, 46, 0, 5), (111, 111, 0, 0), (111, 111, 63, 68)] [] tp_rubbing7 324 86 156 3 [((-2147483648), 2147483647), ((-2147483648), 2147483647), ((-2147483648), 2147483647)] [] = true := by decide +kernel
def tp_rubbing8 : aTb := fun mi i => none
def rp_rubbing8 : List pq := [((8, 34, 5), (0, 111, 0), 8, 8)]
set_option maxRecDepth 100000 in
set_option maxHeartbeats 40000000 in
theorem cp_rubbing8 : prchk RL CL rp_rubbing8 [(34, 34, 5, 5), (47, 47, 0, 5), (111, 111, 0, 0), (111, 111, 69, 74)] [] tp_rubbing8 324 86 156 3 [((-2147483648), 2147483647), ((-2147483648), 2147483647), ((-2147483648), 2147483647)] [] = true := by decide +kernel
def tp_rubbing9 : aTb := fun mi i => none
def rp_rubbing9 : List pq := [((8, 34, 5), (0, 111, 0), 9, 9)]
set_option maxRecDepth 100000 in
set_option maxHeartbeats 40000000 in
theorem cp_rubbing9 : prchk RL CL rp_rubbing9 [] [] tp_rubbing9 133 86 156 3 [((-2147483648), 2147483647), ((-2147483648), 2147483647), ((-2147483648), 2147483647)] [] = true := by decide +kernel
def tp_deall : aTb := fun mi i => none
def rp_deall : List pq := []
set_option maxRecDepth 100000 in
set_option maxHeartbeats 40000000 in
theorem cp_deall : prchk RL CL rp_deall [] [] tp_deall 39 94 173 1 [((-2147483648), 0)] [] = true := by decide +kernel
def tp_dealh : aTb := fun mi i => none
def rp_dealh : List pq := []
set_option maxRecDepth 100000 in
set_option maxHeartbeats 40000000 in
theorem cp_dealh : prchk RL CL rp_dealh [] [] tp_dealh 46 94 173 1 [(10, 2147483647)] [] = true := by decide +kernel
def tp_turns0n : aTb := fun mi i => none
def rp_turns0n : List pq := [((8, 34, 5), (0, 111, 0), 0, 0)]
set_option maxRecDepth 100000 in
set_option maxHeartbeats 40000000 in
theorem cp_turns0n : podchk RL CL rp_turns0n [] [] tp_turns0n 62 90 168 2 [(0, 0), ((-2147483648), 2147483647)] [] = true := by decide +kernel
def tp_turns0y : aTb := fun mi i => none
def rp_turns0y : List pq := [((8, 34, 5), (0, 111, 0), 1, 9), ((6, 39, 0), (0, 111, 21), (-2147483648), 2147483647)]
set_option maxRecDepth 100000 in
set_option maxHeartbeats 40000000 in
theorem cp_turns0y : podchk RL CL rp_turns0y [(39, 39, 0, 0), (111, 111, 21, 21)] [] tp_turns0y 132 90 168 2 [(0, 0), ((-2147483648), 2147483647)] [] = true := by decide +kernel
def tp_turns1n : aTb := fun mi i => none
def rp_turns1n : List pq := [((8, 34, 5), (0, 111, 0), 0, 1)]
set_option maxRecDepth 100000 in
set_option maxHeartbeats 40000000 in
theorem cp_turns1n : podchk RL CL rp_turns1n [] [] tp_turns1n 62 90 168 2 [(1, 1), ((-2147483648), 2147483647)] [] = true := by decide +kernel
def tp_turns1y : aTb := fun mi i => none
def rp_turns1y : List pq := [((8, 34, 5), (0, 111, 0), 2, 9), ((6, 40, 0), (0, 111, 27), (-2147483648), 2147483647)]
set_option maxRecDepth 100000 in
set_option maxHeartbeats 40000000 in
theorem cp_turns1y : podchk RL CL rp_turns1y [(40, 40, 0, 0), (111, 111, 27, 27)] [] tp_turns1y 132 90 168 2 [(1, 1), ((-2147483648), 2147483647)] [] = true := by decide +kernel
def tp_turns2n : aTb := fun mi i => none
def rp_turns2n : List pq := [((8, 34, 5), (0, 111, 0), 0, 2)]
set_option maxRecDepth 100000 in
set_option maxHeartbeats 40000000 in
theorem cp_turns2n : podchk RL CL rp_turns2n [] [] tp_turns2n 62 90 168 2 [(2, 2), ((-2147483648), 2147483647)] [] = true := by decide +kernel
def tp_turns2y : aTb := fun mi i => none
def rp_turns2y : List pq := [((8, 34, 5), (0, 111, 0), 3, 9), ((6, 41, 0), (0, 111, 33), (-2147483648), 2147483647)]
set_option maxRecDepth 100000 in
set_option maxHeartbeats 40000000 in
theorem cp_turns2y : podchk RL CL rp_turns2y [(41, 41, 0, 0), (111, 111, 33, 33)] [] tp_turns2y 132 90 168 2 [(2, 2), ((-2147483648), 2147483647)] [] = true := by decide +kernel
def tp_turns3n : aTb := fun mi i => none
def rp_turns3n : List pq := [((8, 34, 5), (0, 111, 0), 0, 3)]
set_option maxRecDepth 100000 in
set_option maxHeartbeats 40000000 in
theorem cp_turns3n : podchk RL CL rp_turns3n [] [] tp_turns3n 62 90 168 2 [(3, 3), ((-2147483648), 2147483647)] [] = true := by decide +kernel
def tp_turns3y : aTb := fun mi i => none
def rp_turns3y : List pq := [((8, 34, 5), (0, 111, 0), 4, 9), ((6, 42, 0), (0, 111, 39), (-2147483648), 2147483647)]
set_option maxRecDepth 100000 in
set_option maxHeartbeats 40000000 in
theorem cp_turns3y : podchk RL CL rp_turns3y [(42, 42, 0, 0), (111, 111, 39, 39)] [] tp_turns3y 132 90 168 2 [(3, 3), ((-2147483648), 2147483647)] [] = true := by decide +kernel
def tp_turns4n : aTb := fun mi i => none
def rp_turns4n : List pq := [((8, 34, 5), (0, 111, 0), 0, 4)]
set_option maxRecDepth 100000 in
set_option maxHeartbeats 40000000 in
theorem cp_turns4n : podchk RL CL rp_turns4n [] [] tp_turns4n 62 90 168 2 [(4, 4), ((-2147483648), 2147483647)] [] = true := by decide +kernel
def tp_turns4y : aTb := fun mi i => none
def rp_turns4y : List pq := [((8, 34, 5), (0, 111, 0), 5, 9), ((6, 43, 0), (0, 111, 45), (-2147483648), 2147483647)]
set_option maxRecDepth 100000 in
set_option maxHeartbeats 40000000 in
theorem cp_turns4y : podchk RL CL rp_turns4y [(43, 43, 0, 0), (111, 111, 45, 45)] [] tp_turns4y 132 90 168 2 [(4, 4), ((-2147483648), 2147483647)] [] = true := by decide +kernel
def tp_turns5n : aTb := fun mi i => none
def rp_turns5n : List pq := [((8, 34, 5), (0, 111, 0), 0, 5)]
set_option maxRecDepth 100000 in
set_option maxHeartbeats 40000000 in
theorem cp_turns5n : podchk RL CL rp_turns5n [] [] tp_turns5n 62 90 168 2 [(5, 5), ((-2147483648), 2147483647)] [] = true := by decide +kernel
def tp_turns5y : aTb := fun mi i => none
def rp_turns5y : List pq := [((8, 34, 5), (0, 111, 0), 6, 9), ((6, 44, 0), (0, 111, 51), (-2147483648), 2147483647)]
set_option maxRecDepth 100000 in
set_option maxHeartbeats 40000000 in
theorem cp_turns5y : podchk RL CL rp_turns5y [(44, 44, 0, 0), (111, 111, 51, 51)] [] tp_turns5y 132 90 168 2 [(5, 5), ((-2147483648), 2147483647)] [] = true := by decide +kernel
def tp_turns6n : aTb := fun mi i => none
def rp_turns6n : List pq := [((8, 34, 5), (0, 111, 0), 0, 6)]
set_option maxRecDepth 100000 in
set_option maxHeartbeats 40000000 in
theorem cp_turns6n : podchk RL CL rp_turns6n [] [] tp_turns6n 62 90 168 2 [(6, 6), ((-2147483648), 2147483647)] [] = true := by decide +kernel
def tp_turns6y : aTb := fun mi i => none
def rp_turns6y : List pq := [((8, 34, 5), (0, 111, 0), 7, 9), ((6, 45, 0), (0, 111, 57), (-2147483648), 2147483647)]
set_option maxRecDepth 100000 in
set_option maxHeartbeats 40000000 in
theorem cp_turns6y : podchk RL CL rp_turns6y [(45, 45, 0, 0), (111, 111, 57, 57)] [] tp_turns6y 132 90 168 2 [(6, 6), ((-2147483648), 2147483647)] [] = true := by decide +kernel
def tp_turns7n : aTb := fun mi i => none
def rp_turns7n : List pq := [((8, 34, 5), (0, 111, 0), 0, 7)]
set_option maxRecDepth 100000 in
set_option maxHeartbeats 40000000 in
theorem cp_turns7n : podchk RL CL rp_turns7n [] [] tp_turns7n 62 90 168 2 [(7, 7), ((-2147483648), 2147483647)] [] = true := by decide +kernel
def tp_turns7y : aTb := fun mi i => none
def rp_turns7y : List pq := [((8, 34, 5), (0, 111, 0), 8, 9), ((6, 46, 0), (0, 111, 63), (-2147483648), 2147483647)]
set_option maxRecDepth 100000 in
set_option maxHeartbeats 40000000 in
theorem cp_turns7y : podchk RL CL rp_turns7y [(46, 46, 0, 0), (111, 111, 63, 63)] [] tp_turns7y 132 90 168 2 [(7, 7), ((-2147483648), 2147483647)] [] = true := by decide +kernel
def tp_turns8n : aTb := fun mi i => none
def rp_turns8n : List pq := [((8, 34, 5), (0, 111, 0), 0, 8)]
set_option maxRecDepth 100000 in
set_option maxHeartbeats 40000000 in
theorem cp_turns8n : podchk RL CL rp_turns8n [] [] tp_turns8n 62 90 168 2 [(8, 8), ((-2147483648), 2147483647)] [] = true := by decide +kernel
def tp_turns8y : aTb := fun mi i => none
def rp_turns8y : List pq := [((8, 34, 5), (0, 111, 0), 9, 9), ((6, 47, 0), (0, 111, 69), (-2147483648), 2147483647)]
set_option maxRecDepth 100000 in
set_option maxHeartbeats 40000000 in
theorem cp_turns8y : podchk RL CL rp_turns8y [(47, 47, 0, 0), (111, 111, 69, 69)] [] tp_turns8y 132 90 168 2 [(8, 8), ((-2147483648), 2147483647)] [] = true := by decide +kernel
def tp_turnsl : aTb := fun mi i => none
def rp_turnsl : List pq := []
set_option maxRecDepth 100000 in
set_option maxHeartbeats 40000000 in
theorem cp_turnsl : podchk RL CL rp_turnsl [] [] tp_turnsl 54 90 168 2 [((-2147483648), (-1)), ((-2147483648), 2147483647)] [] = true := by decide +kernel
def tp_turnsh : aTb := fun mi i => none
def rp_turnsh : List pq := []
set_option maxRecDepth 100000 in
set_option maxHeartbeats 40000000 in
theorem cp_turnsh : podchk RL CL rp_turnsh [] [] tp_turnsh 62 90 168 2 [(9, 2147483647), ((-2147483648), 2147483647)] [] = true := by decide +kernel
def tp_set0n : aTb := fun mi i => none
def rp_set0n : List pq := [((8, 34, 5), (0, 111, 0), 0, 0)]
set_option maxRecDepth 100000 in
set_option maxHeartbeats 40000000 in
theorem cp_set0n : podchk RL CL rp_set0n [] [] tp_set0n 64 91 170 3 [(0, 0), ((-2147483648), 2147483647), ((-2147483648), 2147483647)] [] = true := by decide +kernel
def tp_set0y : aTb := fun mi i => none
def rp_set0y : List pq := [((8, 34, 5), (0, 111, 0), 1, 9), ((6, 39, 1), (0, 111, 22), (-2147483648), 2147483647), ((6, 39, 2), (0, 111, 23), 1, 8), ((6, 39, 3), (0, 111, 24), (-2147483648), 2147483647)]
set_option maxRecDepth 100000 in
set_option maxHeartbeats 40000000 in
theorem cp_set0y : podchk RL CL rp_set0y [(39, 39, 1, 5), (111, 111, 22, 26)] [] tp_set0y 202 91 170 3 [(0, 0), ((-2147483648), 2147483647), ((-2147483648), 2147483647)] [] = true := by decide +kernel
def tp_set1n : aTb := fun mi i => none
def rp_set1n : List pq := [((8, 34, 5), (0, 111, 0), 0, 1)]
set_option maxRecDepth 100000 in
set_option maxHeartbeats 40000000 in
theorem cp_set1n : podchk RL CL rp_set1n [] [] tp_set1n 64 91 170 3 [(1, 1), ((-2147483648), 2147483647), ((-2147483648), 2147483647)] [] = true := by decide +kernel
def tp_set1y : aTb := fun mi i => none
def rp_set1y : List pq := [((8, 34, 5), (0, 111, 0), 2, 9), ((6, 40, 1), (0, 111, 28), (-2147483648), 2147483647), ((6, 40, 2), (0, 111, 29), 1, 8), ((6, 40, 3), (0, 111, 30), (-2147483648), 2147483647)]
set_option maxRecDepth 100000 in
set_option maxHeartbeats 40000000 in
theorem cp_set1y : podchk RL CL rp_set1y [(40, 40, 1, 5), (111, 111, 28, 32)] [] tp_set1y 202 91 170 3 [(1, 1), ((-2147483648), 2147483647), ((-2147483648), 2147483647)] [] = true := by decide +kernel
def tp_set2n : aTb := fun mi i => none
def rp_set2n : List pq := [((8, 34, 5), (0, 111, 0), 0, 2)]
set_option maxRecDepth 100000 in
set_option maxHeartbeats 40000000 in
theorem cp_set2n : podchk RL CL rp_set2n [] [] tp_set2n 64 91 170 3 [(2, 2), ((-2147483648), 2147483647), ((-2147483648), 2147483647)] [] = true := by decide +kernel
