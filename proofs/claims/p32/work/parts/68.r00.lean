/-! ===== what each pair of calls does, and what stays alike (printed by program) ===== -/
def TPs : List pq := (List.range 96).map (fun (i : Nat) => ((0, 77, i), (0, 124, i), 0, 255))
theorem tp_e {h : List pC} (hr : pRel TPs h) : ∀ i : Nat, i < 96 → ri h 77 i = ri h 124 i := fun i hi => hr _ (List.mem_map.mpr ⟨i, List.mem_range.mpr hi, rfl⟩)
theorem tp_i {h : List pC} (hr : ∀ i : Nat, i < 96 → ri h 77 i = ri h 124 i) : pRel TPs h := fun q hq => by
  obtain ⟨i, hi, rfl⟩ := List.mem_map.mp hq
  exact hr i (List.mem_range.mp hi)
def RLf : List pq := [((8, 34, 5), (0, 111, 0), 0, 9), ((8, 48, 5), (0, 112, 0), 0, 9), ((9, 0, 9), (10, 110, 3), 0, 1), ((8, 34, 6), (0, 111, 1), 0, 14), ((8, 48, 6), (0, 112, 1), 0, 14), ((4, 76, 1), (10, 110, 15), 0, 96), ((0, 38, 0), (0, 38, 0), (-2147483648), 2147483647), ((0, 38, 1), (0, 38, 1), (-2147483648), 2147483647), ((0, 38, 2), (0, 38, 2), (-2147483648), 2147483647), ((0, 52, 0), (0, 52, 0), (-2147483648), 2147483647), ((0, 52, 1), (0, 52, 1), (-2147483648), 2147483647), ((0, 52, 2), (0, 52, 2), (-2147483648), 2147483647)]
def RLg : List pq := TPs
def RL : List pq := RLf ++ RLg
theorem rl_g {h : List pC} (hr : pRel RL h) : pRel RLg h := fun q hq => hr q (List.mem_append_right _ hq)
theorem rl_t {h : List pC} (hr : pRel RL h) : pRel TPs h := rl_g hr
theorem rl_f {h : List pC} (hr : pRel RL h) : pRel RLf h := fun q hq => hr q (List.mem_append_left _ hq)
def CL : List cq := []
/-- the last of the first m that is k, or none -/
def lastT (f : Nat → Int32) (k : Int32) : Nat → Int32
  | 0 => -1000000005
  | t + 1 => if f t = k then nI t else lastT f k t
theorem lastT_c {f g : Nat → Int32} (k : Int32) : ∀ m : Nat, (∀ t : Nat, t < m → f t = g t) → lastT f k m = lastT g k m
  | 0, _ => rfl
  | m + 1, hq => by
    rw [lastT, lastT, hq m (Nat.lt_succ_self m), lastT_c k m (fun t ht => hq t (Nat.lt_succ_of_lt ht))]
/-- which texts count, on a wall -/
def LT (w v b : Nat) (h : List pC) : Prop := 0 ≤ (ri h w 6).toInt ∧ (ri h w 6).toInt ≤ 14 ∧ ∀ k : Nat, k < 3 → ri h v k = lastT (fun t => ri h b (75 + 200 * t)) (nI k) (ri h w 6).toInt.toNat
theorem LT.mv {w v b w2 v2 b2 : Nat} {h h' : List pC} (hx : LT w v b h) (e6 : ri h' w2 6 = ri h w 6) (e4 : ∀ k : Nat, k < 3 → ri h' v2 k = ri h v k) (eb : ∀ t : Nat, t < 14 → (t : Int) < (ri h w 6).toInt → ri h' b2 (75 + 200 * t) = ri h b (75 + 200 * t)) : LT w2 v2 b2 h' := by
  obtain ⟨h1, h2, h3⟩ := hx
  refine ⟨by rw [e6]; exact h1, by rw [e6]; exact h2, fun k hk => ?_⟩
  rw [e4 k hk, e6, h3 k hk]
  exact lastT_c _ _ (fun t ht => (eb t (by omega) (by omega)).symm)
/-- what is kept beside: which texts count -/
def XJ (h : List pC) : Prop := LT 34 38 111 h ∧ LT 48 52 112 h
def xjW (W : aW) : Bool := (!inW W 34 6 && !inW W 48 6) && ((List.range 3).all (fun k => !inW W 38 k && !inW W 52 k) && (List.range 14).all (fun t => !inW W 111 (75 + 200 * t) && !inW W 112 (75 + 200 * t)))
theorem xj_fr {W : aW} {h h' : List pC} (hx : XJ h) (hf : Fr W h h') (hw : xjW W = true) : XJ h' := by
  unfold xjW at hw
  rw [Bool.and_eq_true, Bool.and_eq_true, Bool.and_eq_true] at hw
  obtain ⟨⟨w1, w2⟩, w3, w4⟩ := hw
  have n1 : inW W 34 6 = false := by simpa using w1
  have n2 : inW W 48 6 = false := by simpa using w2
  have c3 : ∀ k : Nat, k < 3 → inW W 38 k = false ∧ inW W 52 k = false := fun k hk => by
    have q := List.all_eq_true.mp w3 k (List.mem_range.mpr hk)
    rw [Bool.and_eq_true] at q
    exact ⟨by simpa using q.1, by simpa using q.2⟩
  have c4 : ∀ t : Nat, t < 14 → inW W 111 (75 + 200 * t) = false ∧ inW W 112 (75 + 200 * t) = false := fun t ht => by
    have q := List.all_eq_true.mp w4 t (List.mem_range.mpr ht)
    rw [Bool.and_eq_true] at q
    exact ⟨by simpa using q.1, by simpa using q.2⟩
  exact ⟨hx.1.mv (ri_fr hf n1) (fun k hk => ri_fr hf (c3 k hk).1) (fun t ht _ => ri_fr hf (c4 t ht).1), hx.2.mv (ri_fr hf n2) (fun k hk => ri_fr hf (c3 k hk).2) (fun t ht _ => ri_fr hf (c4 t ht).2)⟩
theorem xj0 : XJ h0 := by
  have e1 : ri h0 34 6 = 0 := by decide +kernel
  have e2 : ri h0 48 6 = 0 := by decide +kernel
  have a1 : ∀ k : Nat, k < 3 → ri h0 38 k = -1000000005 := fun k hk => of_decide_eq_true (List.all_eq_true.mp (show (List.range 3).all (fun k => decide (ri h0 38 k = -1000000005)) = true by decide +kernel) k (List.mem_range.mpr hk))
  have a2 : ∀ k : Nat, k < 3 → ri h0 52 k = -1000000005 := fun k hk => of_decide_eq_true (List.all_eq_true.mp (show (List.range 3).all (fun k => decide (ri h0 52 k = -1000000005)) = true by decide +kernel) k (List.mem_range.mpr hk))
  refine ⟨⟨by rw [e1]; decide, by rw [e1]; decide, fun k hk => ?_⟩, ⟨by rw [e2]; decide, by rw [e2]; decide, fun k hk => ?_⟩⟩
  · rw [e1]
    exact a1 k hk
  · rw [e2]
    exact a2 k hk
/-- which counts, moved with the wall -/
def MLc (S D : Nat) : List ((Nat × Nat) × (Nat × Nat)) := (List.range 3).map (fun i => ((D + 4, i), (S + 4, i)))
theorem mlc_mem {S D i : Nat} (hi : i < 3) : ((D + 4, i), (S + 4, i)) ∈ MLc S D := List.mem_map.mpr ⟨i, List.mem_range.mpr hi, rfl⟩
def RJ (h : List pC) : Prop := pRel RL h ∧ cRel CL h ∧ XJ h
theorem rj0 : RJ h0 := ⟨fun q hq => of_decide_eq_true (List.all_eq_true.mp (show RL.all (fun q => decide (ri h0 q.1.2.1 q.1.2.2 = ri h0 q.2.1.2.1 q.2.1.2.2)) = true by decide +kernel) q hq), fun c hc b1 b2 => of_decide_eq_true (List.all_eq_true.mp (show CL.all (fun c => decide (c.2.1 ≤ (ri h0 c.1.2.1 c.1.2.2).toInt → (ri h0 c.1.2.1 c.1.2.2).toInt ≤ c.2.2.1 → ri h0 c.2.2.2.1.2.1 c.2.2.2.1.2.2 = ri h0 c.2.2.2.2.1.2.1 c.2.2.2.2.1.2.2)) = true by decide +kernel) c hc) b1 b2, xj0⟩
theorem i32_b (v : Int32) : -2147483648 ≤ v.toInt ∧ v.toInt ≤ 2147483647 := ⟨i32_lo v, i32_hi v⟩
theorem args_top : ∀ (xs : List Int32), argsG (xs.map Value.int) (List.replicate xs.length (.inl (-2147483648, 2147483647)))
  | [] => trivial
  | x :: xs => ⟨⟨x, rfl, i32_lo x, i32_hi x⟩, args_top xs⟩
/-- what a public method does, from its contract -/
theorem pub_of {E : pX} {i a : Nat} {c : aK} (hk : KGi E pV1 JT i c) {N : pM} (hN : prog[i]? = some N) (hc : m_code N ≠ []) (xs : List Int32) (h1 : c.1 = .inr (false, [a]) :: List.replicate xs.length (.inl (-2147483648, 2147483647))) (h2 : c.2.1 ≠ none) (h3 : c.2.2.2 ≤ 120) {h : List pC} (hh : HI HT h) (hj : JT h) : ∃ (r : Int32) (h' : List pC), Run prog E pV1 120 N (.ref a :: xs.map Value.int) h (some (.int r), h', 0, 0) ∧ HI HT h' ∧ Fr c.2.2.1 h h' ∧ JT h' := by
  obtain ⟨r, h', q, hr, hh', hf, hj'⟩ := hk N hN 120 h3 (.ref a :: xs.map Value.int) h (by rw [h1]; exact ⟨Or.inr ⟨a, List.mem_singleton.mpr rfl, rfl⟩, args_top xs⟩) hh hj
  obtain ⟨z, hz⟩ : ∃ z, c.2.1 = some z := by
    cases e : c.2.1 with
    | none => exact absurd e h2
    | some z => exact ⟨z, rfl⟩
  rw [hz] at hr
  obtain ⟨v, rfl, -⟩ := (show ∃ v : Int32, r = some (.int v) ∧ z.1 ≤ v.toInt ∧ v.toInt ≤ z.2 from hr)
  rcases q with q | q
  · exact ⟨v, h', q, hh', hf, hj'⟩
  · exact absurd q.1 hc
theorem cobj {h : List pC} (hh : HI HT h) : ∃ o, pobj h 0 = some o ∧ o.1 = 7 := by
  obtain ⟨fs, ho, -⟩ := hi_obj hh (a := 0) rfl
  exact ⟨_, ho, rfl⟩
def k_c_carveF : aK := ([.inr (false, [0]), .inl ((-2147483648), 2147483647), .inl ((-2147483648), 2147483647)], some ((-2147483648), 2147483647), [(35, 35, 0, 15)], 50)
def tb_c_carveF : aTb := fun mi i => none
def kc_c_carveF : List (Nat × aK) := [(48, k_covers), (50, k_sayAt), (44, k_value), (54, k_gainOver), (55, k_loss), (56, k_worth), (49, k_covered), (57, k_joined), (58, k_clashes), (70, k_falsehood34), (71, k_trustOfAll34), (72, k_laidSet34), (73, k_coveredBy34), (77, k_deniers34), (80, k_gainOf34), (78, k_flow34), (75, k_noteClashes), (76, k_anyClash)]
set_option maxRecDepth 100000 in
set_option maxHeartbeats 40000000 in
theorem ck_c_carveF : kchk prog HT kc_c_carveF tb_c_carveF 72 92 k_c_carveF = true := by decide +kernel
theorem kg_c_carveF {E : pX} : KGi E pV1 JT 92 k_c_carveF := kgi_of JT_P (by decide) ck_c_carveF (by unfold kc_c_carveF; exact (List.forall_mem_cons.mpr ⟨kg_covers JT_P hands, (List.forall_mem_cons.mpr ⟨kg_sayAt JT_P hands, (List.forall_mem_cons.mpr ⟨kg_value JT_P hands, (List.forall_mem_cons.mpr ⟨kg_gainOver JT_P hands, (List.forall_mem_cons.mpr ⟨kg_loss JT_P hands, (List.forall_mem_cons.mpr ⟨kg_worth JT_P hands, (List.forall_mem_cons.mpr ⟨kg_covered JT_P hands, (List.forall_mem_cons.mpr ⟨kg_joined JT_P hands, (List.forall_mem_cons.mpr ⟨kg_clashes JT_P hands, (List.forall_mem_cons.mpr ⟨kg_falsehood34 JT_P hands, (List.forall_mem_cons.mpr ⟨kg_trustOfAll34 JT_P hands, (List.forall_mem_cons.mpr ⟨kg_laidSet34 JT_P hands, (List.forall_mem_cons.mpr ⟨kg_coveredBy34 JT_P hands, (List.forall_mem_cons.mpr ⟨kg_deniers34 JT_P hands, (List.forall_mem_cons.mpr ⟨kg_gainOf34 JT_P hands, (List.forall_mem_cons.mpr ⟨kg_flow34 JT_P hands, (List.forall_mem_cons.mpr ⟨kg_noteClashes JT_P hands, (List.forall_mem_cons.mpr ⟨kg_anyClash JT_P hands, (fun _ h => absurd h List.not_mem_nil)⟩)⟩)⟩)⟩)⟩)⟩)⟩)⟩)⟩)⟩)⟩)⟩)⟩)⟩)⟩)⟩)⟩)⟩))
def k_r_carveF : aK := ([.inr (false, [110]), .inl ((-2147483648), 2147483647), .inl ((-2147483648), 2147483647)], some ((-2147483648), 2147483647), [(111, 111, 5, 20)], 50)
def tb_r_carveF : aTb := fun mi i => none
def kc_r_carveF : List (Nat × aK) := [(158, k_m_saysAt), (160, k_m_loses), (161, k_m_worth), (163, k_m_covers), (222, k_m_counts), (159, k_m_gains), (147, k_m_manyIn), (175, k_m_falseOf), (178, k_m_joinBy), (180, k_m_doClash), (182, k_m_laidOnes), (183, k_m_coveredBy), (184, k_m_findClashing), (185, k_m_areAtPeace), (188, k_m_otherwiseAt), (193, k_m_allTrust), (190, k_m_goesOn), (191, k_m_goesOnMany)]
set_option maxRecDepth 100000 in
set_option maxHeartbeats 40000000 in
theorem ck_r_carveF : kchk prog HT kc_r_carveF tb_r_carveF 57 171 k_r_carveF = true := by decide +kernel
theorem kg_r_carveF {E : pX} : KGi E pV1 JT 171 k_r_carveF := kgi_of JT_P (by decide) ck_r_carveF (by unfold kc_r_carveF; exact (List.forall_mem_cons.mpr ⟨kg_m_saysAt JT_P hands, (List.forall_mem_cons.mpr ⟨kg_m_loses JT_P hands, (List.forall_mem_cons.mpr ⟨kg_m_worth JT_P hands, (List.forall_mem_cons.mpr ⟨kg_m_covers JT_P hands, (List.forall_mem_cons.mpr ⟨kg_m_counts JT_P hands, (List.forall_mem_cons.mpr ⟨kg_m_gains hands, (List.forall_mem_cons.mpr ⟨kg_m_manyIn hands, (List.forall_mem_cons.mpr ⟨kg_m_falseOf JT_P hands, (List.forall_mem_cons.mpr ⟨kg_m_joinBy JT_P hands, (List.forall_mem_cons.mpr ⟨kg_m_doClash JT_P hands, (List.forall_mem_cons.mpr ⟨kg_m_laidOnes JT_P hands, (List.forall_mem_cons.mpr ⟨kg_m_coveredBy JT_P hands, (List.forall_mem_cons.mpr ⟨kg_m_findClashing JT_P hands, (List.forall_mem_cons.mpr ⟨kg_m_areAtPeace JT_P hands, (List.forall_mem_cons.mpr ⟨kg_m_otherwiseAt JT_P hands, (List.forall_mem_cons.mpr ⟨kg_m_allTrust JT_P hands, (List.forall_mem_cons.mpr ⟨kg_m_goesOn JT_P hands, (List.forall_mem_cons.mpr ⟨kg_m_goesOnMany JT_P hands, (fun _ h => absurd h List.not_mem_nil)⟩)⟩)⟩)⟩)⟩)⟩)⟩)⟩)⟩)⟩)⟩)⟩)⟩)⟩)⟩)⟩)⟩)⟩))
def k_c_seedF : aK := ([.inr (false, [0]), .inl ((-2147483648), 2147483647)], some ((-2147483648), 2147483647), [(34, 34, 9, 9)], 50)
def tb_c_seedF : aTb := fun mi i => none
def kc_c_seedF : List (Nat × aK) := [(48, k_covers), (50, k_sayAt), (44, k_value), (54, k_gainOver), (55, k_loss), (56, k_worth), (49, k_covered), (57, k_joined), (58, k_clashes), (70, k_falsehood34), (71, k_trustOfAll34), (72, k_laidSet34), (73, k_coveredBy34), (77, k_deniers34), (80, k_gainOf34), (78, k_flow34), (75, k_noteClashes), (76, k_anyClash)]
set_option maxRecDepth 100000 in
set_option maxHeartbeats 40000000 in
theorem ck_c_seedF : kchk prog HT kc_c_seedF tb_c_seedF 13 95 k_c_seedF = true := by decide +kernel
theorem kg_c_seedF {E : pX} : KGi E pV1 JT 95 k_c_seedF := kgi_of JT_P (by decide) ck_c_seedF (by unfold kc_c_seedF; exact (List.forall_mem_cons.mpr ⟨kg_covers JT_P hands, (List.forall_mem_cons.mpr ⟨kg_sayAt JT_P hands, (List.forall_mem_cons.mpr ⟨kg_value JT_P hands, (List.forall_mem_cons.mpr ⟨kg_gainOver JT_P hands, (List.forall_mem_cons.mpr ⟨kg_loss JT_P hands, (List.forall_mem_cons.mpr ⟨kg_worth JT_P hands, (List.forall_mem_cons.mpr ⟨kg_covered JT_P hands, (List.forall_mem_cons.mpr ⟨kg_joined JT_P hands, (List.forall_mem_cons.mpr ⟨kg_clashes JT_P hands, (List.forall_mem_cons.mpr ⟨kg_falsehood34 JT_P hands, (List.forall_mem_cons.mpr ⟨kg_trustOfAll34 JT_P hands, (List.forall_mem_cons.mpr ⟨kg_laidSet34 JT_P hands, (List.forall_mem_cons.mpr ⟨kg_coveredBy34 JT_P hands, (List.forall_mem_cons.mpr ⟨kg_deniers34 JT_P hands, (List.forall_mem_cons.mpr ⟨kg_gainOf34 JT_P hands, (List.forall_mem_cons.mpr ⟨kg_flow34 JT_P hands, (List.forall_mem_cons.mpr ⟨kg_noteClashes JT_P hands, (List.forall_mem_cons.mpr ⟨kg_anyClash JT_P hands, (fun _ h => absurd h List.not_mem_nil)⟩)⟩)⟩)⟩)⟩)⟩)⟩)⟩)⟩)⟩)⟩)⟩)⟩)⟩)⟩)⟩)⟩)⟩))
def k_r_seedF : aK := ([.inr (false, [110]), .inl ((-2147483648), 2147483647)], some ((-2147483648), 2147483647), [(111, 111, 4, 4)], 50)
def tb_r_seedF : aTb := fun mi i => none
def kc_r_seedF : List (Nat × aK) := [(158, k_m_saysAt), (160, k_m_loses), (161, k_m_worth), (163, k_m_covers), (222, k_m_counts), (159, k_m_gains), (147, k_m_manyIn), (175, k_m_falseOf), (178, k_m_joinBy), (180, k_m_doClash), (182, k_m_laidOnes), (183, k_m_coveredBy), (184, k_m_findClashing), (185, k_m_areAtPeace), (188, k_m_otherwiseAt), (193, k_m_allTrust), (190, k_m_goesOn), (191, k_m_goesOnMany)]
set_option maxRecDepth 100000 in
set_option maxHeartbeats 40000000 in
theorem ck_r_seedF : kchk prog HT kc_r_seedF tb_r_seedF 20 174 k_r_seedF = true := by decide +kernel
theorem kg_r_seedF {E : pX} : KGi E pV1 JT 174 k_r_seedF := kgi_of JT_P (by decide) ck_r_seedF (by unfold kc_r_seedF; exact (List.forall_mem_cons.mpr ⟨kg_m_saysAt JT_P hands, (List.forall_mem_cons.mpr ⟨kg_m_loses JT_P hands, (List.forall_mem_cons.mpr ⟨kg_m_worth JT_P hands, (List.forall_mem_cons.mpr ⟨kg_m_covers JT_P hands, (List.forall_mem_cons.mpr ⟨kg_m_counts JT_P hands, (List.forall_mem_cons.mpr ⟨kg_m_gains hands, (List.forall_mem_cons.mpr ⟨kg_m_manyIn hands, (List.forall_mem_cons.mpr ⟨kg_m_falseOf JT_P hands, (List.forall_mem_cons.mpr ⟨kg_m_joinBy JT_P hands, (List.forall_mem_cons.mpr ⟨kg_m_doClash JT_P hands, (List.forall_mem_cons.mpr ⟨kg_m_laidOnes JT_P hands, (List.forall_mem_cons.mpr ⟨kg_m_coveredBy JT_P hands, (List.forall_mem_cons.mpr ⟨kg_m_findClashing JT_P hands, (List.forall_mem_cons.mpr ⟨kg_m_areAtPeace JT_P hands, (List.forall_mem_cons.mpr ⟨kg_m_otherwiseAt JT_P hands, (List.forall_mem_cons.mpr ⟨kg_m_allTrust JT_P hands, (List.forall_mem_cons.mpr ⟨kg_m_goesOn JT_P hands, (List.forall_mem_cons.mpr ⟨kg_m_goesOnMany JT_P hands, (fun _ h => absurd h List.not_mem_nil)⟩)⟩)⟩)⟩)⟩)⟩)⟩)⟩)⟩)⟩)⟩)⟩)⟩)⟩)⟩)⟩)⟩)⟩))
def k_c_turnsF : aK := ([.inr (false, [0]), .inl ((-2147483648), 2147483647), .inl ((-2147483648), 2147483647)], some ((-2147483648), 2147483647), [(39, 47, 0, 0)], 50)
def tb_c_turnsF : aTb := fun mi i => none
def kc_c_turnsF : List (Nat × aK) := [(48, k_covers), (50, k_sayAt), (44, k_value), (54, k_gainOver), (55, k_loss), (56, k_worth), (49, k_covered), (57, k_joined), (58, k_clashes), (70, k_falsehood34), (71, k_trustOfAll34), (72, k_laidSet34), (73, k_coveredBy34), (77, k_deniers34), (80, k_gainOf34), (78, k_flow34), (75, k_noteClashes), (76, k_anyClash)]
set_option maxRecDepth 100000 in
set_option maxHeartbeats 40000000 in
theorem ck_c_turnsF : kchk prog HT kc_c_turnsF tb_c_turnsF 52 90 k_c_turnsF = true := by decide +kernel
theorem kg_c_turnsF {E : pX} : KGi E pV1 JT 90 k_c_turnsF := kgi_of JT_P (by decide) ck_c_turnsF (by unfold kc_c_turnsF; exact (List.forall_mem_cons.mpr ⟨kg_covers JT_P hands, (List.forall_mem_cons.mpr ⟨kg_sayAt JT_P hands, (List.forall_mem_cons.mpr ⟨kg_value JT_P hands, (List.forall_mem_cons.mpr ⟨kg_gainOver JT_P hands, (List.forall_mem_cons.mpr ⟨kg_loss JT_P hands, (List.forall_mem_cons.mpr ⟨kg_worth JT_P hands, (List.forall_mem_cons.mpr ⟨kg_covered JT_P hands, (List.forall_mem_cons.mpr ⟨kg_joined JT_P hands, (List.forall_mem_cons.mpr ⟨kg_clashes JT_P hands, (List.forall_mem_cons.mpr ⟨kg_falsehood34 JT_P hands, (List.forall_mem_cons.mpr ⟨kg_trustOfAll34 JT_P hands, (List.forall_mem_cons.mpr ⟨kg_laidSet34 JT_P hands, (List.forall_mem_cons.mpr ⟨kg_coveredBy34 JT_P hands, (List.forall_mem_cons.mpr ⟨kg_deniers34 JT_P hands, (List.forall_mem_cons.mpr ⟨kg_gainOf34 JT_P hands, (List.forall_mem_cons.mpr ⟨kg_flow34 JT_P hands, (List.forall_mem_cons.mpr ⟨kg_noteClashes JT_P hands, (List.forall_mem_cons.mpr ⟨kg_anyClash JT_P hands, (fun _ h => absurd h List.not_mem_nil)⟩)⟩)⟩)⟩)⟩)⟩)⟩)⟩)⟩)⟩)⟩)⟩)⟩)⟩)⟩)⟩)⟩)⟩))
def k_r_turnsF : aK := ([.inr (false, [110]), .inl ((-2147483648), 2147483647), .inl ((-2147483648), 2147483647)], some ((-2147483648), 2147483647), [(111, 111, 21, 74)], 50)
def tb_r_turnsF : aTb := fun mi i => none
def kc_r_turnsF : List (Nat × aK) := [(158, k_m_saysAt), (160, k_m_loses), (161, k_m_worth), (163, k_m_covers), (222, k_m_counts), (159, k_m_gains), (147, k_m_manyIn), (175, k_m_falseOf), (178, k_m_joinBy), (180, k_m_doClash), (182, k_m_laidOnes), (183, k_m_coveredBy), (184, k_m_findClashing), (185, k_m_areAtPeace), (188, k_m_otherwiseAt), (193, k_m_allTrust), (190, k_m_goesOn), (191, k_m_goesOnMany)]
set_option maxRecDepth 100000 in
set_option maxHeartbeats 40000000 in
theorem ck_r_turnsF : kchk prog HT kc_r_turnsF tb_r_turnsF 69 168 k_r_turnsF = true := by decide +kernel
theorem kg_r_turnsF {E : pX} : KGi E pV1 JT 168 k_r_turnsF := kgi_of JT_P (by decide) ck_r_turnsF (by unfold kc_r_turnsF; exact (List.forall_mem_cons.mpr ⟨kg_m_saysAt JT_P hands, (List.forall_mem_cons.mpr ⟨kg_m_loses JT_P hands, (List.forall_mem_cons.mpr ⟨kg_m_worth JT_P hands, (List.forall_mem_cons.mpr ⟨kg_m_covers JT_P hands, (List.forall_mem_cons.mpr ⟨kg_m_counts JT_P hands, (List.forall_mem_cons.mpr ⟨kg_m_gains hands, (List.forall_mem_cons.mpr ⟨kg_m_manyIn hands, (List.forall_mem_cons.mpr ⟨kg_m_falseOf JT_P hands, (List.forall_mem_cons.mpr ⟨kg_m_joinBy JT_P hands, (List.forall_mem_cons.mpr ⟨kg_m_doClash JT_P hands, (List.forall_mem_cons.mpr ⟨kg_m_laidOnes JT_P hands, (List.forall_mem_cons.mpr ⟨kg_m_coveredBy JT_P hands, (List.forall_mem_cons.mpr ⟨kg_m_findClashing JT_P hands, (List.forall_mem_cons.mpr ⟨kg_m_areAtPeace JT_P hands, (List.forall_mem_cons.mpr ⟨kg_m_otherwiseAt JT_P hands, (List.forall_mem_cons.mpr ⟨kg_m_allTrust JT_P hands, (List.forall_mem_cons.mpr ⟨kg_m_goesOn JT_P hands, (List.forall_mem_cons.mpr ⟨kg_m_goesOnMany JT_P hands, (fun _ h => absurd h List.not_mem_nil)⟩)⟩)⟩)⟩)⟩)⟩)⟩)⟩)⟩)⟩)⟩)⟩)⟩)⟩)⟩)⟩)⟩)⟩))
def k_c_setF : aK := ([.inr (false, [0]), .inl ((-2147483648), 2147483647), .inl ((-2147483648), 2147483647), .inl ((-2147483648), 2147483647)], some ((-2147483648), 2147483647), [(39, 47, 1, 5)], 50)
def tb_c_setF : aTb := fun mi i => none
def kc_c_setF : List (Nat × aK) := [(48, k_covers), (50, k_sayAt), (44, k_value), (54, k_gainOver), (55, k_loss), (56, k_worth), (49, k_covered), (57, k_joined), (58, k_clashes), (70, k_falsehood34), (71, k_trustOfAll34), (72, k_laidSet34), (73, k_coveredBy34), (77, k_deniers34), (80, k_gainOf34), (78, k_flow34), (75, k_noteClashes), (76, k_anyClash)]
set_option maxRecDepth 100000 in
set_option maxHeartbeats 40000000 in
theorem ck_c_setF : kchk prog HT kc_c_setF tb_c_setF 87 91 k_c_setF = true := by decide +kernel
theorem kg_c_setF {E : pX} : KGi E pV1 JT 91 k_c_setF := kgi_of JT_P (by decide) ck_c_setF (by unfold kc_c_setF; exact (List.forall_mem_cons.mpr ⟨kg_covers JT_P hands, (List.forall_mem_cons.mpr ⟨kg_sayAt JT_P hands, (List.forall_mem_cons.mpr ⟨kg_value JT_P hands, (List.forall_mem_cons.mpr ⟨kg_gainOver JT_P hands, (List.forall_mem_cons.mpr ⟨kg_loss JT_P hands, (List.forall_mem_cons.mpr ⟨kg_worth JT_P hands, (List.forall_mem_cons.mpr ⟨kg_covered JT_P hands, (List.forall_mem_cons.mpr ⟨kg_joined JT_P hands, (List.forall_mem_cons.mpr ⟨kg_clashes JT_P hands, (List.forall_mem_cons.mpr ⟨kg_falsehood34 JT_P hands, (List.forall_mem_cons.mpr ⟨kg_trustOfAll34 JT_P hands, (List.forall_mem_cons.mpr ⟨kg_laidSet34 JT_P hands, (List.forall_mem_cons.mpr ⟨kg_coveredBy34 JT_P hands, (List.forall_mem_cons.mpr ⟨kg_deniers34 JT_P hands, (List.forall_mem_cons.mpr ⟨kg_gainOf34 JT_P hands, (List.forall_mem_cons.mpr ⟨kg_flow34 JT_P hands, (List.forall_mem_cons.mpr ⟨kg_noteClashes JT_P hands, (List.forall_mem_cons.mpr ⟨kg_anyClash JT_P hands, (fun _ h => absurd h List.not_mem_nil)⟩)⟩)⟩)⟩)⟩)⟩)⟩)⟩)⟩)⟩)⟩)⟩)⟩)⟩)⟩)⟩)⟩)⟩))
def k_r_setF : aK := ([.inr (false, [110]), .inl ((-2147483648), 2147483647), .inl ((-2147483648), 2147483647), .inl ((-2147483648), 2147483647)], some ((-2147483648), 2147483647), [(111, 111, 21, 74)], 50)
def tb_r_setF : aTb := fun mi i => none
def kc_r_setF : List (Nat × aK) := [(158, k_m_saysAt), (160, k_m_loses), (161, k_m_worth), (163, k_m_covers), (222, k_m_counts), (159, k_m_gains), (147, k_m_manyIn), (175, k_m_falseOf), (178, k_m_joinBy), (180, k_m_doClash), (182, k_m_laidOnes), (183, k_m_coveredBy), (184, k_m_findClashing), (185, k_m_areAtPeace), (188, k_m_otherwiseAt), (193, k_m_allTrust), (190, k_m_goesOn), (191, k_m_goesOnMany)]
set_option maxRecDepth 100000 in
set_option maxHeartbeats 40000000 in
theorem ck_r_setF : kchk prog HT kc_r_setF tb_r_setF 97 170 k_r_setF = true := by decide +kernel
theorem kg_r_setF {E : pX} : KGi E pV1 JT 170 k_r_setF := kgi_of JT_P (by decide) ck_r_setF (by unfold kc_r_setF; exact (List.forall_mem_cons.mpr ⟨kg_m_saysAt JT_P hands, (List.forall_mem_cons.mpr ⟨kg_m_loses JT_P hands, (List.forall_mem_cons.mpr ⟨kg_m_worth JT_P hands, (List.forall_mem_cons.mpr ⟨kg_m_covers JT_P hands, (List.forall_mem_cons.mpr ⟨kg_m_counts JT_P hands, (List.forall_mem_cons.mpr ⟨kg_m_gains hands, (List.forall_mem_cons.mpr ⟨kg_m_manyIn hands, (List.forall_mem_cons.mpr ⟨kg_m_falseOf JT_P hands, (List.forall_mem_cons.mpr ⟨kg_m_joinBy JT_P hands, (List.forall_mem_cons.mpr ⟨kg_m_doClash JT_P hands, (List.forall_mem_cons.mpr ⟨kg_m_laidOnes JT_P hands, (List.forall_mem_cons.mpr ⟨kg_m_coveredBy JT_P hands, (List.forall_mem_cons.mpr ⟨kg_m_findClashing JT_P hands, (List.forall_mem_cons.mpr ⟨kg_m_areAtPeace JT_P hands, (List.forall_mem_cons.mpr ⟨kg_m_otherwiseAt JT_P hands, (List.forall_mem_cons.mpr ⟨kg_m_allTrust JT_P hands, (List.forall_mem_cons.mpr ⟨kg_m_goesOn JT_P hands, (List.forall_mem_cons.mpr ⟨kg_m_goesOnMany JT_P hands, (fun _ h => absurd h List.not_mem_nil)⟩)⟩)⟩)⟩)⟩)⟩)⟩)⟩)⟩)⟩)⟩)⟩)⟩)⟩)⟩)⟩)⟩)⟩))
def k_c_pourF : aK := ([.inr (false, [0]), .inl ((-2147483648), 2147483647)], some ((-2147483648), 2147483647), [(35, 35, 0, 15)], 50)
def tb_c_pourF : aTb := fun mi i => if mi = 119 ∧ i = 17 then some ([((-2147483648), 2147483647, .inl 3), (0, 2147483647, .inl 4)], [], [5, 6], [(35, 35, 0, 15)], 1, true) else none
def kc_c_pourF : List (Nat × aK) := [(48, k_covers), (50, k_sayAt), (44, k_value), (54, k_gainOver), (55, k_loss), (56, k_worth), (49, k_covered), (57, k_joined), (58, k_clashes), (70, k_falsehood34), (71, k_trustOfAll34), (72, k_laidSet34), (73, k_coveredBy34), (77, k_deniers34), (80, k_gainOf34), (78, k_flow34), (75, k_noteClashes), (76, k_anyClash)]
set_option maxRecDepth 100000 in
set_option maxHeartbeats 40000000 in
theorem ck_c_pourF : kchk prog HT kc_c_pourF tb_c_pourF 122 119 k_c_pourF = true := by decide +kernel
theorem kg_c_pourF {E : pX} : KGi E pV1 JT 119 k_c_pourF := kgi_of JT_P (by decide) ck_c_pourF (by unfold kc_c_pourF; exact (List.forall_mem_cons.mpr ⟨kg_covers JT_P hands, (List.forall_mem_cons.mpr ⟨kg_sayAt JT_P hands, (List.forall_mem_cons.mpr ⟨kg_value JT_P hands, (List.forall_mem_cons.mpr ⟨kg_gainOver JT_P hands, (List.forall_mem_cons.mpr ⟨kg_loss JT_P hands, (List.forall_mem_cons.mpr ⟨kg_worth JT_P hands, (List.forall_mem_cons.mpr ⟨kg_covered JT_P hands, (List.forall_mem_cons.mpr ⟨kg_joined JT_P hands, (List.forall_mem_cons.mpr ⟨kg_clashes JT_P hands, (List.forall_mem_cons.mpr ⟨kg_falsehood34 JT_P hands, (List.forall_mem_cons.mpr ⟨kg_trustOfAll34 JT_P hands, (List.forall_mem_cons.mpr ⟨kg_laidSet34 JT_P hands, (List.forall_mem_cons.mpr ⟨kg_coveredBy34 JT_P hands, (List.forall_mem_cons.mpr ⟨kg_deniers34 JT_P hands, (List.forall_mem_cons.mpr ⟨kg_gainOf34 JT_P hands, (List.forall_mem_cons.mpr ⟨kg_flow34 JT_P hands, (List.forall_mem_cons.mpr ⟨kg_noteClashes JT_P hands, (List.forall_mem_cons.mpr ⟨kg_anyClash JT_P hands, (fun _ h => absurd h List.not_mem_nil)⟩)⟩)⟩)⟩)⟩)⟩)⟩)⟩)⟩)⟩)⟩)⟩)⟩)⟩)⟩)⟩)⟩)⟩))
def k_r_pourF : aK := ([.inr (false, [110]), .inl ((-2147483648), 2147483647)], some ((-2147483648), 2147483647), [(111, 111, 5, 20)], 50)
def tb_r_pourF : aTb := fun mi i => if mi = 229 ∧ i = 16 then some ([((-2147483648), 2147483647, .inl 2), (0, 2147483647, .inl 3)], [], [4, 5], [(111, 111, 5, 20)], 1, true) else none
def kc_r_pourF : List (Nat × aK) := [(158, k_m_saysAt), (160, k_m_loses), (161, k_m_worth), (163, k_m_covers), (222, k_m_counts), (159, k_m_gains), (147, k_m_manyIn), (175, k_m_falseOf), (178, k_m_joinBy), (180, k_m_doClash), (182, k_m_laidOnes), (183, k_m_coveredBy), (184, k_m_findClashing), (185, k_m_areAtPeace), (188, k_m_otherwiseAt), (193, k_m_allTrust), (190, k_m_goesOn), (191, k_m_goesOnMany)]
set_option maxRecDepth 100000 in
set_option maxHeartbeats 40000000 in
theorem ck_r_pourF : kchk prog HT kc_r_pourF tb_r_pourF 94 229 k_r_pourF = true := by decide +kernel
theorem kg_r_pourF {E : pX} : KGi E pV1 JT 229 k_r_pourF := kgi_of JT_P (by decide) ck_r_pourF (by unfold kc_r_pourF; exact (List.forall_mem_cons.mpr ⟨kg_m_saysAt JT_P hands, (List.forall_mem_cons.mpr ⟨kg_m_loses JT_P hands, (List.forall_mem_cons.mpr ⟨kg_m_worth JT_P hands, (List.forall_mem_cons.mpr ⟨kg_m_covers JT_P hands, (List.forall_mem_cons.mpr ⟨kg_m_counts JT_P hands, (List.forall_mem_cons.mpr ⟨kg_m_gains hands, (List.forall_mem_cons.mpr ⟨kg_m_manyIn hands, (List.forall_mem_cons.mpr ⟨kg_m_falseOf JT_P hands, (List.forall_mem_cons.mpr ⟨kg_m_joinBy JT_P hands, (List.forall_mem_cons.mpr ⟨kg_m_doClash JT_P hands, (List.forall_mem_cons.mpr ⟨kg_m_laidOnes JT_P hands, (List.forall_mem_cons.mpr ⟨kg_m_coveredBy JT_P hands, (List.forall_mem_cons.mpr ⟨kg_m_findClashing JT_P hands, (List.forall_mem_cons.mpr ⟨kg_m_areAtPeace JT_P hands, (List.forall_mem_cons.mpr ⟨kg_m_otherwiseAt JT_P hands, (List.forall_mem_cons.mpr ⟨kg_m_allTrust JT_P hands, (List.forall_mem_cons.mpr ⟨kg_m_goesOn JT_P hands, (List.forall_mem_cons.mpr ⟨kg_m_goesOnMany JT_P hands, (fun _ h => absurd h List.not_mem_nil)⟩)⟩)⟩)⟩)⟩)⟩)⟩)⟩)⟩)⟩)⟩)⟩)⟩)⟩)⟩)⟩)⟩)⟩))
def k_c_tidesF : aK := ([.inr (false, [0]), .inl ((-2147483648), 2147483647)], some ((-2147483648), 2147483647), [(5, 5, 0, 95), (1, 1, 3, 3), (34, 34, 7, 9), (39, 47, 0, 5)], 50)
def tb_c_tidesF : aTb := fun mi i => none
def kc_c_tidesF : List (Nat × aK) := [(48, k_covers), (50, k_sayAt), (44, k_value), (54, k_gainOver), (55, k_loss), (56, k_worth), (49, k_covered), (57, k_joined), (58, k_clashes), (70, k_falsehood34), (71, k_trustOfAll34), (72, k_laidSet34), (73, k_coveredBy34), (77, k_deniers34), (80, k_gainOf34), (78, k_flow34), (75, k_noteClashes), (76, k_anyClash)]
set_option maxRecDepth 100000 in
set_option maxHeartbeats 40000000 in
theorem ck_c_tidesF : kchk prog HT kc_c_tidesF tb_c_tidesF 37 103 k_c_tidesF = true := by decide +kernel
theorem kg_c_tidesF {E : pX} : KGi E pV1 JT 103 k_c_tidesF := kgi_of JT_P (by decide) ck_c_tidesF (by unfold kc_c_tidesF; exact (List.forall_mem_cons.mpr ⟨kg_covers JT_P hands, (List.forall_mem_cons.mpr ⟨kg_sayAt JT_P hands, (List.forall_mem_cons.mpr ⟨kg_value JT_P hands, (List.forall_mem_cons.mpr ⟨kg_gainOver JT_P hands, (List.forall_mem_cons.mpr ⟨kg_loss JT_P hands, (List.forall_mem_cons.mpr ⟨kg_worth JT_P hands, (List.forall_mem_cons.mpr ⟨kg_covered JT_P hands, (List.forall_mem_cons.mpr ⟨kg_joined JT_P hands, (List.forall_mem_cons.mpr ⟨kg_clashes JT_P hands, (List.forall_mem_cons.mpr ⟨kg_falsehood34 JT_P hands, (List.forall_mem_cons.mpr ⟨kg_trustOfAll34 JT_P hands, (List.forall_mem_cons.mpr ⟨kg_laidSet34 JT_P hands, (List.forall_mem_cons.mpr ⟨kg_coveredBy34 JT_P hands, (List.forall_mem_cons.mpr ⟨kg_deniers34 JT_P hands, (List.forall_mem_cons.mpr ⟨kg_gainOf34 JT_P hands, (List.forall_mem_cons.mpr ⟨kg_flow34 JT_P hands, (List.forall_mem_cons.mpr ⟨kg_noteClashes JT_P hands, (List.forall_mem_cons.mpr ⟨kg_anyClash JT_P hands, (fun _ h => absurd h List.not_mem_nil)⟩)⟩)⟩)⟩)⟩)⟩)⟩)⟩)⟩)⟩)⟩)⟩)⟩)⟩)⟩)⟩)⟩)⟩))
def k_m_goesOnF : aK := ([.inr (false, [110])], none, [(125, 125, 0, 127), (126, 126, 0, 99), (111, 111, 2, 4), (111, 111, 21, 74)], 24)
def tb_m_goesOnF : aTb := fun mi i => if mi = 190 ∧ i = 7 then some ([(0, 2147483647, .inl 2)], [], [3, 4], [(125, 125, 0, 127), (126, 126, 0, 99), (111, 111, 2, 4), (111, 111, 21, 74)], 0, true) else none
def kc_m_goesOnF : List (Nat × aK) := [(158, k_m_saysAt), (160, k_m_loses), (161, k_m_worth), (163, k_m_covers), (222, k_m_counts), (159, k_m_gains), (147, k_m_manyIn), (175, k_m_falseOf), (178, k_m_joinBy), (180, k_m_doClash), (182, k_m_laidOnes), (183, k_m_coveredBy)]
set_option maxRecDepth 100000 in
set_option maxHeartbeats 40000000 in
theorem ck_m_goesOnF : kchk prog HT kc_m_goesOnF tb_m_goesOnF 155 190 k_m_goesOnF = true := by decide +kernel
theorem kg_m_goesOnF {E : pX} : KGi E pV1 JT 190 k_m_goesOnF := kgi_of JT_P (by decide) ck_m_goesOnF (by unfold kc_m_goesOnF; exact (List.forall_mem_cons.mpr ⟨kg_m_saysAt JT_P hands, (List.forall_mem_cons.mpr ⟨kg_m_loses JT_P hands, (List.forall_mem_cons.mpr ⟨kg_m_worth JT_P hands, (List.forall_mem_cons.mpr ⟨kg_m_covers JT_P hands, (List.forall_mem_cons.mpr ⟨kg_m_counts JT_P hands, (List.forall_mem_cons.mpr ⟨kg_m_gains hands, (List.forall_mem_cons.mpr ⟨kg_m_manyIn hands, (List.forall_mem_cons.mpr ⟨kg_m_falseOf JT_P hands, (List.forall_mem_cons.mpr ⟨kg_m_joinBy JT_P hands, (List.forall_mem_cons.mpr ⟨kg_m_doClash JT_P hands, (List.forall_mem_cons.mpr ⟨kg_m_laidOnes JT_P hands, (List.forall_mem_cons.mpr ⟨kg_m_coveredBy JT_P hands, (fun _ h => absurd h List.not_mem_nil)⟩)⟩)⟩)⟩)⟩)⟩)⟩)⟩)⟩)⟩)⟩)⟩))
def k_r_tidesF : aK := ([.inr (false, [110]), .inl ((-2147483648), 2147483647)], some ((-2147483648), 2147483647), [(125, 125, 0, 127), (126, 126, 0, 99), (111, 111, 2, 4), (111, 111, 21, 74)], 50)
def tb_r_tidesF : aTb := fun mi i => if mi = 192 ∧ i = 15 then some ([(0, 2147483647, .inl 3)], [], [], [(125, 125, 0, 127), (126, 126, 0, 99), (111, 111, 2, 4), (111, 111, 21, 74)], 0, true) else none
def kc_r_tidesF : List (Nat × aK) := [(158, k_m_saysAt), (160, k_m_loses), (161, k_m_worth), (163, k_m_covers), (222, k_m_counts), (159, k_m_gains), (147, k_m_manyIn), (175, k_m_falseOf), (178, k_m_joinBy), (180, k_m_doClash), (182, k_m_laidOnes), (183, k_m_coveredBy), (184, k_m_findClashing), (185, k_m_areAtPeace), (188, k_m_otherwiseAt), (193, k_m_allTrust), (190, k_m_goesOnF)]
set_option maxRecDepth 100000 in
set_option maxHeartbeats 40000000 in
theorem ck_r_tidesF : kchk prog HT kc_r_tidesF tb_r_tidesF 44 192 k_r_tidesF = true := by decide +kernel
theorem kg_r_tidesF {E : pX} : KGi E pV1 JT 192 k_r_tidesF := kgi_of JT_P (by decide) ck_r_tidesF (by unfold kc_r_tidesF; exact (List.forall_mem_cons.mpr ⟨kg_m_saysAt JT_P hands, (List.forall_mem_cons.mpr ⟨kg_m_loses JT_P hands, (List.forall_mem_cons.mpr ⟨kg_m_worth JT_P hands, (List.forall_mem_cons.mpr ⟨kg_m_covers JT_P hands, (List.forall_mem_cons.mpr ⟨kg_m_counts JT_P hands, (List.forall_mem_cons.mpr ⟨kg_m_gains hands, (List.forall_mem_cons.mpr ⟨kg_m_manyIn hands, (List.forall_mem_cons.mpr ⟨kg_m_falseOf JT_P hands, (List.forall_mem_cons.mpr ⟨kg_m_joinBy JT_P hands, (List.forall_mem_cons.mpr ⟨kg_m_doClash JT_P hands, (List.forall_mem_cons.mpr ⟨kg_m_laidOnes JT_P hands, (List.forall_mem_cons.mpr ⟨kg_m_coveredBy JT_P hands, (List.forall_mem_cons.mpr ⟨kg_m_findClashing JT_P hands, (List.forall_mem_cons.mpr ⟨kg_m_areAtPeace JT_P hands, (List.forall_mem_cons.mpr ⟨kg_m_otherwiseAt JT_P hands, (List.forall_mem_cons.mpr ⟨kg_m_allTrust JT_P hands, (List.forall_mem_cons.mpr ⟨kg_m_goesOnF, (fun _ h => absurd h List.not_mem_nil)⟩)⟩)⟩)⟩)⟩)⟩)⟩)⟩)⟩)⟩)⟩)⟩)⟩)⟩)⟩)⟩)⟩))
def tp_rubbing : aTb := fun mi i => none
def rp_rubbing : List pq := [((8, 34, 5), (0, 111, 0), 0, 9)]
set_option maxRecDepth 100000 in
set_option maxHeartbeats 40000000 in
theorem cp_rubbing : prchk RL CL rp_rubbing [(34, 34, 5, 5), (39, 47, 0, 5), (111, 111, 0, 0), (111, 111, 21, 74)] [] tp_rubbing 324 86 156 3 [((-2147483648), 2147483647), ((-2147483648), 2147483647), ((-2147483648), 2147483647)] [] = true := by decide +kernel
def tp_deall : aTb := fun mi i => none
def rp_deall : List pq := []
set_option maxRecDepth 100000 in
set_option maxHeartbeats 40000000 in
theorem cp_deall : prchk RL CL rp_deall [] [] tp_deall 39 94 173 1 [((-2147483648), 0)] [] = true := by decide +kernel
def tp_dealh : aTb := fun mi i => none
def rp_dealh : List pq := []
set_option maxRecDepth 100000 in
set_option maxHeartbeats 40000000 in
theorem cp_dealh : prchk RL CL rp_dealh [] [] tp_dealh 46 94 173 1 [(10, 2147483647)] [] = true := by decide +kernel
def tp_trim : aTb := fun mi i => none
def rp_trim : List pq := [((4, 76, 1), (10, 110, 15), 0, 96)]
set_option maxRecDepth 100000 in
set_option maxHeartbeats 40000000 in
theorem cp_trim : prchk RL CL rp_trim [(76, 76, 1, 1), (110, 110, 15, 15)] [] tp_trim 59 113 204 1 [((-2147483648), 2147483647)] [] = true := by decide +kernel
def tp_whyl : aTb := fun mi i => none
def rp_whyl : List pq := []
set_option maxRecDepth 100000 in
set_option maxHeartbeats 40000000 in
theorem cp_whyl : prchk RL CL rp_whyl [] [] tp_whyl 39 116 223 1 [((-2147483648), (-1))] [] = true := by decide +kernel
def tp_whyh : aTb := fun mi i => none
def rp_whyh : List pq := []
set_option maxRecDepth 100000 in
set_option maxHeartbeats 40000000 in
theorem cp_whyh : prchk RL CL rp_whyh [] [] tp_whyh 46 116 223 1 [(3, 2147483647)] [] = true := by decide +kernel
def to_keep : aTb := fun mi i => if mi = 61 ∧ i = 38 then some ([(0, 2147483647, .inl 2)], [], [3], [(53, 61, 0, 5)], 0, true) else none
def ro_keep : List pq := [((8, 34, 5), (0, 111, 0), 0, 9), ((8, 34, 6), (0, 111, 1), 0, 14), ((0, 38, 0), (0, 38, 0), (-2147483648), 2147483647), ((0, 38, 1), (0, 38, 1), (-2147483648), 2147483647), ((0, 38, 2), (0, 38, 2), (-2147483648), 2147483647)]
set_option maxRecDepth 100000 in
set_option maxHeartbeats 40000000 in
theorem ox_keep : oxchk ro_keep [(48, 48, 5, 9), (49, 49, 0, 15), (52, 52, 0, 2), (53, 61, 0, 5), (0, 0, 9, 9)] [] to_keep 129 128 0 [] [] (fun _ C _ x => ecV [(48, 5, (1, 1, 0, 1)), (48, 6, (1, 1, 0, 2)), (0, 9, (0, 1, 1, 0)), (52, 0, (1, 1, 0, 3)), (52, 1, (1, 1, 0, 4)), (52, 2, (1, 1, 0, 5))] (some (1, 1, 0, 1)) C x) = true := by decide +kernel
def to_back1 : aTb := fun mi i => if mi = 61 ∧ i = 38 then some ([(0, 2147483647, .inl 2)], [], [3], [(39, 47, 0, 5)], 0, true) else none
def ro_back1 : List pq := [((8, 48, 5), (0, 112, 0), 0, 9), ((8, 48, 6), (0, 112, 1), 0, 14), ((9, 0, 9), (10, 110, 3), 1, 1), ((0, 52, 0), (0, 52, 0), (-2147483648), 2147483647), ((0, 52, 1), (0, 52, 1), (-2147483648), 2147483647), ((0, 52, 2), (0, 52, 2), (-2147483648), 2147483647)]
set_option maxRecDepth 100000 in
set_option maxHeartbeats 40000000 in
theorem ox_back1 : oxchk ro_back1 [(34, 34, 5, 9), (35, 35, 0, 15), (38, 38, 0, 2), (39, 47, 0, 5)] [] to_back1 132 129 0 [] [] (fun _ C _ x => ecV [(34, 5, (1, 1, 0, 1)), (34, 6, (1, 1, 0, 2)), (38, 0, (1, 1, 0, 4)), (38, 1, (1, 1, 0, 5)), (38, 2, (1, 1, 0, 6))] (some (1, 1, 0, 1)) C x) = true := by decide +kernel
def to_back0 : aTb := fun mi i => none
def ro_back0 : List pq := [((9, 0, 9), (10, 110, 3), 0, 0)]
set_option maxRecDepth 100000 in
set_option maxHeartbeats 40000000 in
theorem ox_back0 : oxchk ro_back0 [] [] to_back0 11 129 0 [] [] (fun _ C _ x => ecV [] (some (0, (-1000000002), (-1000000002), 0)) C x) = true := by decide +kernel
def to_why0 : aTb := fun mi i => none
def ro_why0 : List pq := [((0, 38, 0), (0, 38, 0), (-2147483648), 2147483647)]
set_option maxRecDepth 100000 in
set_option maxHeartbeats 40000000 in
theorem ox_why0 : oxchk ro_why0 [] [] to_why0 39 116 0 [(0, 0)] [] (fun _ C _ x => ecV [] (some (1, 1, 0, 2)) C x) = true := by decide +kernel
def to_why1 : aTb := fun mi i => none
def ro_why1 : List pq := [((0, 38, 1), (0, 38, 1), (-2147483648), 2147483647)]
set_option maxRecDepth 100000 in
set_option maxHeartbeats 40000000 in
theorem ox_why1 : oxchk ro_why1 [] [] to_why1 39 116 0 [(1, 1)] [] (fun _ C _ x => ecV [] (some (1, 1, 0, 2)) C x) = true := by decide +kernel
def to_why2 : aTb := fun mi i => none
def ro_why2 : List pq := [((0, 38, 2), (0, 38, 2), (-2147483648), 2147483647)]
set_option maxRecDepth 100000 in
set_option maxHeartbeats 40000000 in
theorem ox_why2 : oxchk ro_why2 [] [] to_why2 39 116 0 [(2, 2)] [] (fun _ C _ x => ecV [] (some (1, 1, 0, 2)) C x) = true := by decide +kernel
def ro_text : List pq := []
set_option maxRecDepth 100000 in
set_option maxHeartbeats 40000000 in
theorem ox_text : oxchk ro_text [(4, 4, 0, 95), (3, 3, 1, 1), (3, 3, 3, 3), (76, 76, 2, 10), (78, 78, 0, 95), (3, 3, 1, 3), (6, 33, 0, 95), (34, 34, 6, 6), (38, 38, 0, 2), (76, 76, 1, 1)] kc_c_text tb_c_text 29 114 0 [] [] (fun _ C _ x => ecV [(76, 1, (0, 0, 0, 0))] none C x) = true := by decide +kernel
