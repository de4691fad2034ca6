/-! ===== what each pair of calls does, and what stays alike (printed by program) ===== -/
def RL : List pq := [((4, 76, 1), (10, 110, 15), 0, 96)]
def RLt : List pq := []
def RLu : List pq := []
def CL : List cq := []
/-- what is kept beside -/
def XJ (_ : List pC) : Prop := True
def xjW (_ : aW) : Bool := true
theorem xj_fr {W : aW} {h h' : List pC} (hx : XJ h) (_ : Fr W h h') (_ : xjW W = true) : XJ h' := hx
theorem xj0 : XJ h0 := trivial
def RJ (h : List pC) : Prop := pRel RL h ∧ cRel CL h ∧ XJ h
theorem rj0 : RJ h0 := ⟨fun q hq => of_decide_eq_true (List.all_eq_true.mp (show RL.all (fun q => decide (ri h0 q.1.2.1 q.1.2.2 = ri h0 q.2.1.2.1 q.2.1.2.2)) = true by decide +kernel) q hq), fun c hc b1 b2 => of_decide_eq_true (List.all_eq_true.mp (show CL.all (fun c => decide (c.2.1 ≤ (ri h0 c.1.2.1 c.1.2.2).toInt → (ri h0 c.1.2.1 c.1.2.2).toInt ≤ c.2.2.1 → ri h0 c.2.2.2.1.2.1 c.2.2.2.1.2.2 = ri h0 c.2.2.2.2.1.2.1 c.2.2.2.2.1.2.2)) = true by decide +kernel) c hc) b1 b2, xj0⟩
theorem i32_b (v : Int32) : -2147483648 ≤ v.toInt ∧ v.toInt ≤ 2147483647 := ⟨i32_lo v, i32_hi v⟩
theorem args_top : ∀ (xs : List Int32), argsG (xs.map Value.int) (List.replicate xs.length (.inl (-2147483648, 2147483647)))
  | [] => trivial
  | x :: xs => ⟨⟨x, rfl, i32_lo x, i32_hi x⟩, args_top xs⟩
/-- what a public method does, from its contract -/
theorem pub_of {E : pX} {i a : Nat} {c : aK} (hk : KGi E pV1 JT i c) {N : pM} (hN : prog[i]? = some N) (hc : m_code N ≠ []) (xs : List Int32) (h1 : c.1 = .inr (false, [a]) :: List.replicate xs.length (.inl (-2147483648, 2147483647))) (h2 : c.2.1 ≠ none) (h3 : c.2.2.2 ≤ 120) {h : List pC} (hh : HI HT h) (hj : JT h) : ∃ (r : Int32) (h' : List pC), Run prog E pV1 120 N (.ref a :: xs.map Value.int) h (some (.int r), h', 0, 0) ∧ HI HT h' ∧ Fr c.2.2.1 h h' ∧ JT h' := by
  obtain ⟨r, h', q, hr, hh', hf, hj'⟩ := hk N hN 120 h3 (.ref a :: xs.map Value.int) h (by rw [h1]; exact ⟨Or.inr ⟨a, List.mem_singleton.mpr rfl, rfl⟩, args_top xs⟩) hh hj
  obtain ⟨z, hz⟩ : ∃ z, c.2.1 = some z := by
    cases e : c.2.1 with
    | none => exact absurd e h2
    | some z => exact ⟨z, rfl⟩
  rw [hz] at hr
  obtain ⟨v, rfl, -⟩ := (show ∃ v : Int32, r = some (.int v) ∧ z.1 ≤ v.toInt ∧ v.toInt ≤ z.2 from hr)
  rcases q with q | q
  · exact ⟨v, h', q, hh', hf, hj'⟩
  · exact absurd q.1 hc
theorem cobj {h : List pC} (hh : HI HT h) : ∃ o, pobj h 0 = some o ∧ o.1 = 7 := by
  obtain ⟨fs, ho, -⟩ := hi_obj hh (a := 0) rfl
  exact ⟨_, ho, rfl⟩
def tp_feed : aTb := fun mi i => none
def rp_feed : List pq := [((4, 76, 1), (10, 110, 15), 0, 96)]
set_option maxRecDepth 100000 in
set_option maxHeartbeats 40000000 in
theorem cp_feed : prchk RL CL rp_feed [(76, 76, 1, 1), (77, 77, 0, 95), (124, 124, 0, 95), (110, 110, 15, 15)] [] tp_feed 840 112 203 3 [((-2147483648), 2147483647), ((-2147483648), 2147483647), ((-2147483648), 2147483647)] [] = true := by decide +kernel
def tp_trim : aTb := fun mi i => none
def rp_trim : List pq := [((4, 76, 1), (10, 110, 15), 0, 96)]
set_option maxRecDepth 100000 in
set_option maxHeartbeats 40000000 in
theorem cp_trim : prchk RL CL rp_trim [(76, 76, 1, 1), (110, 110, 15, 15)] [] tp_trim 59 113 204 1 [((-2147483648), 2147483647)] [] = true := by decide +kernel
def ro_text : List pq := []
set_option maxRecDepth 100000 in
set_option maxHeartbeats 40000000 in
theorem ox_text : oxchk ro_text [(4, 4, 0, 95), (3, 3, 1, 1), (3, 3, 3, 3), (76, 76, 2, 10), (78, 78, 0, 95), (3, 3, 1, 3), (6, 33, 0, 95), (34, 34, 6, 6), (38, 38, 0, 2), (76, 76, 1, 1)] kc_c_text tb_c_text 29 114 0 [] [] (fun _ C _ x => ecV [(76, 1, (0, 0, 0, 0))] none C x) = true := by decide +kernel
section LWS
variable {E : pX} {h : List pC}
theorem ty_76_1 (hh : HI HT h) (hR : RJ h) : 0 ≤ (ri h 76 1).toInt ∧ (ri h 76 1).toInt ≤ 96 := by
  have e : ri h 76 1 = ri h 110 15 := (hR.1 _ List.mem_cons_self)
  have c := (ri_ty (k := 4) (a := 76) (i := 1) (p := ((-2147483648), 2147483647)) hh rfl).2
  have r := (ri_ty (k := 10) (a := 110) (i := 15) (p := (0, 96)) hh rfl).2
  rw [← e] at r
  dsimp only at c r
  omega
theorem lw_rubbing (x1 x2 x3 : Int32) (hh : HI HT h) (hj : JT h) (hR : RJ h) : ∃ (r1 r2 : Int32) (h1 h2 : List pC), Run prog E pV1 120 mX7_rubbing [.ref 0, .int x1, .int x2, .int x3] h (some (.int r1), h1, 0, 0) ∧ Run prog E pV1 120 mX8_rubbing [.ref 110, .int x1, .int x2, .int x3] h1 (some (.int r2), h2, 0, 0) ∧ (∃ o, pobj h1 110 = some o ∧ o.1 = 8) ∧ HI HT h2 ∧ JT h2 ∧ RJ h2 := by
  obtain ⟨r1, h1, q1, hh1, f1, hj1⟩ := pub_of (E := E) (a := 0) (kg_c_rubbing JT_P hands) (N := mX7_rubbing) rfl (List.cons_ne_nil _ _) [x1, x2, x3] rfl (fun q => by cases q) (Nat.le_of_ble_eq_true rfl) hh hj
  obtain ⟨r2, h2, q2, hh2, f2, hj2⟩ := pub_of (E := E) (a := 110) (kg_r_rubbing JT_P hands) (N := mX8_rubbing) rfl (List.cons_ne_nil _ _) [x1, x2, x3] rfl (fun q => by cases q) (Nat.le_of_ble_eq_true rfl) hh1 hj1
  exact ⟨r1, r2, h1, h2, q1, q2, mobj hh1, hh2, hj2, ⟨pRel_fr (pRel_fr hR.1 f1 (by decide)) f2 (by decide), cRel_fr (cRel_fr hR.2.1 f1 (by decide)) f2 (by decide), xj_fr (xj_fr hR.2.2 f1 (by decide)) f2 (by decide)⟩⟩
theorem lw_told (x1 x2 : Int32) (hh : HI HT h) (hj : JT h) (hR : RJ h) : ∃ (r1 r2 : Int32) (h1 h2 : List pC), Run prog E pV1 120 mX7_told [.ref 0, .int x1, .int x2] h (some (.int r1), h1, 0, 0) ∧ Run prog E pV1 120 mX8_told [.ref 110, .int x1, .int x2] h1 (some (.int r2), h2, 0, 0) ∧ (∃ o, pobj h1 110 = some o ∧ o.1 = 8) ∧ HI HT h2 ∧ JT h2 ∧ RJ h2 := by
  obtain ⟨r1, h1, q1, hh1, f1, hj1⟩ := pub_of (E := E) (a := 0) (kg_c_told JT_P hands) (N := mX7_told) rfl (List.cons_ne_nil _ _) [x1, x2] rfl (fun q => by cases q) (Nat.le_of_ble_eq_true rfl) hh hj
  obtain ⟨r2, h2, q2, hh2, f2, hj2⟩ := pub_of (E := E) (a := 110) (kg_r_told JT_P hands) (N := mX8_told) rfl (List.cons_ne_nil _ _) [x1, x2] rfl (fun q => by cases q) (Nat.le_of_ble_eq_true rfl) hh1 hj1
  exact ⟨r1, r2, h1, h2, q1, q2, mobj hh1, hh2, hj2, ⟨pRel_fr (pRel_fr hR.1 f1 (by decide)) f2 (by decide), cRel_fr (cRel_fr hR.2.1 f1 (by decide)) f2 (by decide), xj_fr (xj_fr hR.2.2 f1 (by decide)) f2 (by decide)⟩⟩
theorem lw_says (x1 x2 : Int32) (hh : HI HT h) (hj : JT h) (hR : RJ h) : ∃ (r1 r2 : Int32) (h1 h2 : List pC), Run prog E pV1 120 mX7_says [.ref 0, .int x1, .int x2] h (some (.int r1), h1, 0, 0) ∧ Run prog E pV1 120 mX8_says [.ref 110, .int x1, .int x2] h1 (some (.int r2), h2, 0, 0) ∧ (∃ o, pobj h1 110 = some o ∧ o.1 = 8) ∧ HI HT h2 ∧ JT h2 ∧ RJ h2 := by
  obtain ⟨r1, h1, q1, hh1, f1, hj1⟩ := pub_of (E := E) (a := 0) (kg_c_says JT_P hands) (N := mX7_says) rfl (List.cons_ne_nil _ _) [x1, x2] rfl (fun q => by cases q) (Nat.le_of_ble_eq_true rfl) hh hj
  obtain ⟨r2, h2, q2, hh2, f2, hj2⟩ := pub_of (E := E) (a := 110) (kg_r_says JT_P hands) (N := mX8_says) rfl (List.cons_ne_nil _ _) [x1, x2] rfl (fun q => by cases q) (Nat.le_of_ble_eq_true rfl) hh1 hj1
  exact ⟨r1, r2, h1, h2, q1, q2, mobj hh1, hh2, hj2, ⟨pRel_fr (pRel_fr hR.1 f1 (by decide)) f2 (by decide), cRel_fr (cRel_fr hR.2.1 f1 (by decide)) f2 (by decide), xj_fr (xj_fr hR.2.2 f1 (by decide)) f2 (by decide)⟩⟩
theorem lw_as (x1 x2 : Int32) (hh : HI HT h) (hj : JT h) (hR : RJ h) : ∃ (r1 r2 : Int32) (h1 h2 : List pC), Run prog E pV1 120 mX7_as [.ref 0, .int x1, .int x2] h (some (.int r1), h1, 0, 0) ∧ Run prog E pV1 120 mX8_as [.ref 110, .int x1, .int x2] h1 (some (.int r2), h2, 0, 0) ∧ (∃ o, pobj h1 110 = some o ∧ o.1 = 8) ∧ HI HT h2 ∧ JT h2 ∧ RJ h2 := by
  obtain ⟨r1, h1, q1, hh1, f1, hj1⟩ := pub_of (E := E) (a := 0) (kg_c_as JT_P hands) (N := mX7_as) rfl (List.cons_ne_nil _ _) [x1, x2] rfl (fun q => by cases q) (Nat.le_of_ble_eq_true rfl) hh hj
  obtain ⟨r2, h2, q2, hh2, f2, hj2⟩ := pub_of (E := E) (a := 110) (kg_r_as JT_P hands) (N := mX8_as) rfl (List.cons_ne_nil _ _) [x1, x2] rfl (fun q => by cases q) (Nat.le_of_ble_eq_true rfl) hh1 hj1
  exact ⟨r1, r2, h1, h2, q1, q2, mobj hh1, hh2, hj2, ⟨pRel_fr (pRel_fr hR.1 f1 (by decide)) f2 (by decide), cRel_fr (cRel_fr hR.2.1 f1 (by decide)) f2 (by decide), xj_fr (xj_fr hR.2.2 f1 (by decide)) f2 (by decide)⟩⟩
theorem lw_turns (x1 x2 : Int32) (hh : HI HT h) (hj : JT h) (hR : RJ h) : ∃ (r1 r2 : Int32) (h1 h2 : List pC), Run prog E pV1 120 mX7_turns [.ref 0, .int x1, .int x2] h (some (.int r1), h1, 0, 0) ∧ Run prog E pV1 120 mX8_turns [.ref 110, .int x1, .int x2] h1 (some (.int r2), h2, 0, 0) ∧ (∃ o, pobj h1 110 = some o ∧ o.1 = 8) ∧ HI HT h2 ∧ JT h2 ∧ RJ h2 := by
  obtain ⟨r1, h1, q1, hh1, f1, hj1⟩ := pub_of (E := E) (a := 0) (kg_c_turns JT_P hands) (N := mX7_turns) rfl (List.cons_ne_nil _ _) [x1, x2] rfl (fun q => by cases q) (Nat.le_of_ble_eq_true rfl) hh hj
  obtain ⟨r2, h2, q2, hh2, f2, hj2⟩ := pub_of (E := E) (a := 110) (kg_r_turns JT_P hands) (N := mX8_turns) rfl (List.cons_ne_nil _ _) [x1, x2] rfl (fun q => by cases q) (Nat.le_of_ble_eq_true rfl) hh1 hj1
  exact ⟨r1, r2, h1, h2, q1, q2, mobj hh1, hh2, hj2, ⟨pRel_fr (pRel_fr hR.1 f1 (by decide)) f2 (by decide), cRel_fr (cRel_fr hR.2.1 f1 (by decide)) f2 (by decide), xj_fr (xj_fr hR.2.2 f1 (by decide)) f2 (by decide)⟩⟩
theorem lw_set (x1 x2 x3 : Int32) (hh : HI HT h) (hj : JT h) (hR : RJ h) : ∃ (r1 r2 : Int32) (h1 h2 : List pC), Run prog E pV1 120 mX7_set [.ref 0, .int x1, .int x2, .int x3] h (some (.int r1), h1, 0, 0) ∧ Run prog E pV1 120 mX8_set [.ref 110, .int x1, .int x2, .int x3] h1 (some (.int r2), h2, 0, 0) ∧ (∃ o, pobj h1 110 = some o ∧ o.1 = 8) ∧ HI HT h2 ∧ JT h2 ∧ RJ h2 := by
  obtain ⟨r1, h1, q1, hh1, f1, hj1⟩ := pub_of (E := E) (a := 0) (kg_c_set JT_P hands) (N := mX7_set) rfl (List.cons_ne_nil _ _) [x1, x2, x3] rfl (fun q => by cases q) (Nat.le_of_ble_eq_true rfl) hh hj
  obtain ⟨r2, h2, q2, hh2, f2, hj2⟩ := pub_of (E := E) (a := 110) (kg_r_set JT_P hands) (N := mX8_set) rfl (List.cons_ne_nil _ _) [x1, x2, x3] rfl (fun q => by cases q) (Nat.le_of_ble_eq_true rfl) hh1 hj1
  exact ⟨r1, r2, h1, h2, q1, q2, mobj hh1, hh2, hj2, ⟨pRel_fr (pRel_fr hR.1 f1 (by decide)) f2 (by decide), cRel_fr (cRel_fr hR.2.1 f1 (by decide)) f2 (by decide), xj_fr (xj_fr hR.2.2 f1 (by decide)) f2 (by decide)⟩⟩
theorem lw_carve (x1 x2 : Int32) (hh : HI HT h) (hj : JT h) (hR : RJ h) : ∃ (r1 r2 : Int32) (h1 h2 : List pC), Run prog E pV1 120 mX7_carve [.ref 0, .int x1, .int x2] h (some (.int r1), h1, 0, 0) ∧ Run prog E pV1 120 mX8_carve [.ref 110, .int x1, .int x2] h1 (some (.int r2), h2, 0, 0) ∧ (∃ o, pobj h1 110 = some o ∧ o.1 = 8) ∧ HI HT h2 ∧ JT h2 ∧ RJ h2 := by
  obtain ⟨r1, h1, q1, hh1, f1, hj1⟩ := pub_of (E := E) (a := 0) (kg_c_carve JT_P hands) (N := mX7_carve) rfl (List.cons_ne_nil _ _) [x1, x2] rfl (fun q => by cases q) (Nat.le_of_ble_eq_true rfl) hh hj
  obtain ⟨r2, h2, q2, hh2, f2, hj2⟩ := pub_of (E := E) (a := 110) (kg_r_carve JT_P hands) (N := mX8_carve) rfl (List.cons_ne_nil _ _) [x1, x2] rfl (fun q => by cases q) (Nat.le_of_ble_eq_true rfl) hh1 hj1
  exact ⟨r1, r2, h1, h2, q1, q2, mobj hh1, hh2, hj2, ⟨pRel_fr (pRel_fr hR.1 f1 (by decide)) f2 (by decide), cRel_fr (cRel_fr hR.2.1 f1 (by decide)) f2 (by decide), xj_fr (xj_fr hR.2.2 f1 (by decide)) f2 (by decide)⟩⟩
theorem lw_carved (x1 : Int32) (hh : HI HT h) (hj : JT h) (hR : RJ h) : ∃ (r1 r2 : Int32) (h1 h2 : List pC), Run prog E pV1 120 mX7_carved [.ref 0, .int x1] h (some (.int r1), h1, 0, 0) ∧ Run prog E pV1 120 mX8_carved [.ref 110, .int x1] h1 (some (.int r2), h2, 0, 0) ∧ (∃ o, pobj h1 110 = some o ∧ o.1 = 8) ∧ HI HT h2 ∧ JT h2 ∧ RJ h2 := by
  obtain ⟨r1, h1, q1, hh1, f1, hj1⟩ := pub_of (E := E) (a := 0) (kg_c_carved JT_P hands) (N := mX7_carved) rfl (List.cons_ne_nil _ _) [x1] rfl (fun q => by cases q) (Nat.le_of_ble_eq_true rfl) hh hj
  obtain ⟨r2, h2, q2, hh2, f2, hj2⟩ := pub_of (E := E) (a := 110) (kg_r_carved JT_P hands) (N := mX8_carved) rfl (List.cons_ne_nil _ _) [x1] rfl (fun q => by cases q) (Nat.le_of_ble_eq_true rfl) hh1 hj1
  exact ⟨r1, r2, h1, h2, q1, q2, mobj hh1, hh2, hj2, ⟨pRel_fr (pRel_fr hR.1 f1 (by decide)) f2 (by decide), cRel_fr (cRel_fr hR.2.1 f1 (by decide)) f2 (by decide), xj_fr (xj_fr hR.2.2 f1 (by decide)) f2 (by decide)⟩⟩
theorem lw_deal (x1 : Int32) (hh : HI HT h) (hj : JT h) (hR : RJ h) : ∃ (r1 r2 : Int32) (h1 h2 : List pC), Run prog E pV1 120 mX7_deal [.ref 0, .int x1] h (some (.int r1), h1, 0, 0) ∧ Run prog E pV1 120 mX8_deal [.ref 110, .int x1] h1 (some (.int r2), h2, 0, 0) ∧ (∃ o, pobj h1 110 = some o ∧ o.1 = 8) ∧ HI HT h2 ∧ JT h2 ∧ RJ h2 := by
  obtain ⟨r1, h1, q1, hh1, f1, hj1⟩ := pub_of (E := E) (a := 0) (kg_c_deal JT_P hands) (N := mX7_deal) rfl (List.cons_ne_nil _ _) [x1] rfl (fun q => by cases q) (Nat.le_of_ble_eq_true rfl) hh hj
  obtain ⟨r2, h2, q2, hh2, f2, hj2⟩ := pub_of (E := E) (a := 110) (kg_r_deal JT_P hands) (N := mX8_deal) rfl (List.cons_ne_nil _ _) [x1] rfl (fun q => by cases q) (Nat.le_of_ble_eq_true rfl) hh1 hj1
  exact ⟨r1, r2, h1, h2, q1, q2, mobj hh1, hh2, hj2, ⟨pRel_fr (pRel_fr hR.1 f1 (by decide)) f2 (by decide), cRel_fr (cRel_fr hR.2.1 f1 (by decide)) f2 (by decide), xj_fr (xj_fr hR.2.2 f1 (by decide)) f2 (by decide)⟩⟩
theorem lw_seed (x1 : Int32) (hh : HI HT h) (hj : JT h) (hR : RJ h) : ∃ (r1 r2 : Int32) (h1 h2 : List pC), Run prog E pV1 120 mX7_seed [.ref 0, .int x1] h (some (.int r1), h1, 0, 0) ∧ Run prog E pV1 120 mX8_seed [.ref 110, .int x1] h1 (some (.int r2), h2, 0, 0) ∧ (∃ o, pobj h1 110 = some o ∧ o.1 = 8) ∧ HI HT h2 ∧ JT h2 ∧ RJ h2 := by
  obtain ⟨r1, h1, q1, hh1, f1, hj1⟩ := pub_of (E := E) (a := 0) (kg_c_seed JT_P hands) (N := mX7_seed) rfl (List.cons_ne_nil _ _) [x1] rfl (fun q => by cases q) (Nat.le_of_ble_eq_true rfl) hh hj
  obtain ⟨r2, h2, q2, hh2, f2, hj2⟩ := pub_of (E := E) (a := 110) (kg_r_seed JT_P hands) (N := mX8_seed) rfl (List.cons_ne_nil _ _) [x1] rfl (fun q => by cases q) (Nat.le_of_ble_eq_true rfl) hh1 hj1
  exact ⟨r1, r2, h1, h2, q1, q2, mobj hh1, hh2, hj2, ⟨pRel_fr (pRel_fr hR.1 f1 (by decide)) f2 (by decide), cRel_fr (cRel_fr hR.2.1 f1 (by decide)) f2 (by decide), xj_fr (xj_fr hR.2.2 f1 (by decide)) f2 (by decide)⟩⟩
theorem lw_falseAt (x1 x2 : Int32) (hh : HI HT h) (hj : JT h) (hR : RJ h) : ∃ (r1 r2 : Int32) (h1 h2 : List pC), Run prog E pV1 120 mX7_falseAt [.ref 0, .int x1, .int x2] h (some (.int r1), h1, 0, 0) ∧ Run prog E pV1 120 mX8_falseAt [.ref 110, .int x1, .int x2] h1 (some (.int r2), h2, 0, 0) ∧ (∃ o, pobj h1 110 = some o ∧ o.1 = 8) ∧ HI HT h2 ∧ JT h2 ∧ RJ h2 := by
  obtain ⟨r1, h1, q1, hh1, f1, hj1⟩ := pub_of (E := E) (a := 0) (kg_c_falseAt JT_P hands) (N := mX7_falseAt) rfl (List.cons_ne_nil _ _) [x1, x2] rfl (fun q => by cases q) (Nat.le_of_ble_eq_true rfl) hh hj
  obtain ⟨r2, h2, q2, hh2, f2, hj2⟩ := pub_of (E := E) (a := 110) (kg_r_falseAt JT_P hands) (N := mX8_falseAt) rfl (List.cons_ne_nil _ _) [x1, x2] rfl (fun q => by cases q) (Nat.le_of_ble_eq_true rfl) hh1 hj1
  exact ⟨r1, r2, h1, h2, q1, q2, mobj hh1, hh2, hj2, ⟨pRel_fr (pRel_fr hR.1 f1 (by decide)) f2 (by decide), cRel_fr (cRel_fr hR.2.1 f1 (by decide)) f2 (by decide), xj_fr (xj_fr hR.2.2 f1 (by decide)) f2 (by decide)⟩⟩
theorem lw_fits (x1 x2 : Int32) (hh : HI HT h) (hj : JT h) (hR : RJ h) : ∃ (r1 r2 : Int32) (h1 h2 : List pC), Run prog E pV1 120 mX7_fits [.ref 0, .int x1, .int x2] h (some (.int r1), h1, 0, 0) ∧ Run prog E pV1 120 mX8_fits [.ref 110, .int x1, .int x2] h1 (some (.int r2), h2, 0, 0) ∧ (∃ o, pobj h1 110 = some o ∧ o.1 = 8) ∧ HI HT h2 ∧ JT h2 ∧ RJ h2 := by
  obtain ⟨r1, h1, q1, hh1, f1, hj1⟩ := pub_of (E := E) (a := 0) (kg_c_fits JT_P hands) (N := mX7_fits) rfl (List.cons_ne_nil _ _) [x1, x2] rfl (fun q => by cases q) (Nat.le_of_ble_eq_true rfl) hh hj
  obtain ⟨r2, h2, q2, hh2, f2, hj2⟩ := pub_of (E := E) (a := 110) (kg_r_fits JT_P hands) (N := mX8_fits) rfl (List.cons_ne_nil _ _) [x1, x2] rfl (fun q => by cases q) (Nat.le_of_ble_eq_true rfl) hh1 hj1
  exact ⟨r1, r2, h1, h2, q1, q2, mobj hh1, hh2, hj2, ⟨pRel_fr (pRel_fr hR.1 f1 (by decide)) f2 (by decide), cRel_fr (cRel_fr hR.2.1 f1 (by decide)) f2 (by decide), xj_fr (xj_fr hR.2.2 f1 (by decide)) f2 (by decide)⟩⟩
theorem lw_join (x1 x2 x3 : Int32) (hh : HI HT h) (hj : JT h) (hR : RJ h) : ∃ (r1 r2 : Int32) (h1 h2 : List pC), Run prog E pV1 120 mX7_join [.ref 0, .int x1, .int x2, .int x3] h (some (.int r1), h1, 0, 0) ∧ Run prog E pV1 120 mX8_join [.ref 110, .int x1, .int x2, .int x3] h1 (some (.int r2), h2, 0, 0) ∧ (∃ o, pobj h1 110 = some o ∧ o.1 = 8) ∧ HI HT h2 ∧ JT h2 ∧ RJ h2 := by
  obtain ⟨r1, h1, q1, hh1, f1, hj1⟩ := pub_of (E := E) (a := 0) (kg_c_join JT_P hands) (N := mX7_join) rfl (List.cons_ne_nil _ _) [x1, x2, x3] rfl (fun q => by cases q) (Nat.le_of_ble_eq_true rfl) hh hj
  obtain ⟨r2, h2, q2, hh2, f2, hj2⟩ := pub_of (E := E) (a := 110) (kg_r_join JT_P hands) (N := mX8_join) rfl (List.cons_ne_nil _ _) [x1, x2, x3] rfl (fun q => by cases q) (Nat.le_of_ble_eq_true rfl) hh1 hj1
  exact ⟨r1, r2, h1, h2, q1, q2, mobj hh1, hh2, hj2, ⟨pRel_fr (pRel_fr hR.1 f1 (by decide)) f2 (by decide), cRel_fr (cRel_fr hR.2.1 f1 (by decide)) f2 (by decide), xj_fr (xj_fr hR.2.2 f1 (by decide)) f2 (by decide)⟩⟩
theorem lw_clash (x1 x2 : Int32) (hh : HI HT h) (hj : JT h) (hR : RJ h) : ∃ (r1 r2 : Int32) (h1 h2 : List pC), Run prog E pV1 120 mX7_clash [.ref 0, .int x1, .int x2] h (some (.int r1), h1, 0, 0) ∧ Run prog E pV1 120 mX8_clash [.ref 110, .int x1, .int x2] h1 (some (.int r2), h2, 0, 0) ∧ (∃ o, pobj h1 110 = some o ∧ o.1 = 8) ∧ HI HT h2 ∧ JT h2 ∧ RJ h2 := by
  obtain ⟨r1, h1, q1, hh1, f1, hj1⟩ := pub_of (E := E) (a := 0) (kg_c_clash JT_P hands) (N := mX7_clash) rfl (List.cons_ne_nil _ _) [x1, x2] rfl (fun q => by cases q) (Nat.le_of_ble_eq_true rfl) hh hj
  obtain ⟨r2, h2, q2, hh2, f2, hj2⟩ := pub_of (E := E) (a := 110) (kg_r_clash JT_P hands) (N := mX8_clash) rfl (List.cons_ne_nil _ _) [x1, x2] rfl (fun q => by cases q) (Nat.le_of_ble_eq_true rfl) hh1 hj1
  exact ⟨r1, r2, h1, h2, q1, q2, mobj hh1, hh2, hj2, ⟨pRel_fr (pRel_fr hR.1 f1 (by decide)) f2 (by decide), cRel_fr (cRel_fr hR.2.1 f1 (by decide)) f2 (by decide), xj_fr (xj_fr hR.2.2 f1 (by decide)) f2 (by decide)⟩⟩
theorem lw_undone (hh : HI HT h) (hj : JT h) (hR : RJ h) : ∃ (r1 r2 : Int32) (h1 h2 : List pC), Run prog E pV1 120 mX7_undone [.ref 0] h (some (.int r1), h1, 0, 0) ∧ Run prog E pV1 120 mX8_undone [.ref 110] h1 (some (.int r2), h2, 0, 0) ∧ (∃ o, pobj h1 110 = some o ∧ o.1 = 8) ∧ HI HT h2 ∧ JT h2 ∧ RJ h2 := by
  obtain ⟨r1, h1, q1, hh1, f1, hj1⟩ := pub_of (E := E) (a := 0) (kg_c_undone JT_P hands) (N := mX7_undone) rfl (List.cons_ne_nil _ _) [] rfl (fun q => by cases q) (Nat.le_of_ble_eq_true rfl) hh hj
  obtain ⟨r2, h2, q2, hh2, f2, hj2⟩ := pub_of (E := E) (a := 110) (kg_r_undone JT_P hands) (N := mX8_undone) rfl (List.cons_ne_nil _ _) [] rfl (fun q => by cases q) (Nat.le_of_ble_eq_true rfl) hh1 hj1
  exact ⟨r1, r2, h1, h2, q1, q2, mobj hh1, hh2, hj2, ⟨pRel_fr (pRel_fr hR.1 f1 (by decide)) f2 (by decide), cRel_fr (cRel_fr hR.2.1 f1 (by decide)) f2 (by decide), xj_fr (xj_fr hR.2.2 f1 (by decide)) f2 (by decide)⟩⟩
theorem lw_borne (hh : HI HT h) (hj : JT h) (hR : RJ h) : ∃ (r1 r2 : Int32) (h1 h2 : List pC), Run prog E pV1 120 mX7_borne [.ref 0] h (some (.int r1), h1, 0, 0) ∧ Run prog E pV1 120 mX8_borne [.ref 110] h1 (some (.int r2), h2, 0, 0) ∧ (∃ o, pobj h1 110 = some o ∧ o.1 = 8) ∧ HI HT h2 ∧ JT h2 ∧ RJ h2 := by
  obtain ⟨r1, h1, q1, hh1, f1, hj1⟩ := pub_of (E := E) (a := 0) (kg_c_borne JT_P hands) (N := mX7_borne) rfl (List.cons_ne_nil _ _) [] rfl (fun q => by cases q) (Nat.le_of_ble_eq_true rfl) hh hj
  obtain ⟨r2, h2, q2, hh2, f2, hj2⟩ := pub_of (E := E) (a := 110) (kg_r_borne JT_P hands) (N := mX8_borne) rfl (List.cons_ne_nil _ _) [] rfl (fun q => by cases q) (Nat.le_of_ble_eq_true rfl) hh1 hj1
  exact ⟨r1, r2, h1, h2, q1, q2, mobj hh1, hh2, hj2, ⟨pRel_fr (pRel_fr hR.1 f1 (by decide)) f2 (by decide), cRel_fr (cRel_fr hR.2.1 f1 (by decide)) f2 (by decide), xj_fr (xj_fr hR.2.2 f1 (by decide)) f2 (by decide)⟩⟩
theorem lw_look (x1 : Int32) (hh : HI HT h) (hj : JT h) (hR : RJ h) : ∃ (r1 r2 : Int32) (h1 h2 : List pC), Run prog E pV1 120 mX7_look [.ref 0, .int x1] h (some (.int r1), h1, 0, 0) ∧ Run prog E pV1 120 mX8_look [.ref 110, .int x1] h1 (some (.int r2), h2, 0, 0) ∧ (∃ o, pobj h1 110 = some o ∧ o.1 = 8) ∧ HI HT h2 ∧ JT h2 ∧ RJ h2 := by
  obtain ⟨r1, h1, q1, hh1, f1, hj1⟩ := pub_of (E := E) (a := 0) (kg_c_look JT_P hands) (N := mX7_look) rfl (List.cons_ne_nil _ _) [x1] rfl (fun q => by cases q) (Nat.le_of_ble_eq_true rfl) hh hj
  obtain ⟨r2, h2, q2, hh2, f2, hj2⟩ := pub_of (E := E) (a := 110) (kg_r_look JT_P hands) (N := mX8_look) rfl (List.cons_ne_nil _ _) [x1] rfl (fun q => by cases q) (Nat.le_of_ble_eq_true rfl) hh1 hj1
  exact ⟨r1, r2, h1, h2, q1, q2, mobj hh1, hh2, hj2, ⟨pRel_fr (pRel_fr hR.1 f1 (by decide)) f2 (by decide), cRel_fr (cRel_fr hR.2.1 f1 (by decide)) f2 (by decide), xj_fr (xj_fr hR.2.2 f1 (by decide)) f2 (by decide)⟩⟩
theorem lw_tides (x1 : Int32) (hh : HI HT h) (hj : JT h) (hR : RJ h) : ∃ (r1 r2 : Int32) (h1 h2 : List pC), Run prog E pV1 120 mX7_tides [.ref 0, .int x1] h (some (.int r1), h1, 0, 0) ∧ Run prog E pV1 120 mX8_tides [.ref 110, .int x1] h1 (some (.int r2), h2, 0, 0) ∧ (∃ o, pobj h1 110 = some o ∧ o.1 = 8) ∧ HI HT h2 ∧ JT h2 ∧ RJ h2 := by
  obtain ⟨r1, h1, q1, hh1, f1, hj1⟩ := pub_of (E := E) (a := 0) (kg_c_tides JT_P hands) (N := mX7_tides) rfl (List.cons_ne_nil _ _) [x1] rfl (fun q => by cases q) (Nat.le_of_ble_eq_true rfl) hh hj
  obtain ⟨r2, h2, q2, hh2, f2, hj2⟩ := pub_of (E := E) (a := 110) (kg_r_tides JT_P hands) (N := mX8_tides) rfl (List.cons_ne_nil _ _) [x1] rfl (fun q => by cases q) (Nat.le_of_ble_eq_true rfl) hh1 hj1
  exact ⟨r1, r2, h1, h2, q1, q2, mobj hh1, hh2, hj2, ⟨pRel_fr (pRel_fr hR.1 f1 (by decide)) f2 (by decide), cRel_fr (cRel_fr hR.2.1 f1 (by decide)) f2 (by decide), xj_fr (xj_fr hR.2.2 f1 (by decide)) f2 (by decide)⟩⟩
theorem lw_book (x1 : Int32) (hh : HI HT h) (hj : JT h) (hR : RJ h) : ∃ (r1 r2 : Int32) (h1 h2 : List pC), Run prog E pV1 120 mX7_book [.ref 0, .int x1] h (some (.int r1), h1, 0, 0) ∧ Run prog E pV1 120 mX8_book [.ref 110, .int x1] h1 (some (.int r2), h2, 0, 0) ∧ (∃ o, pobj h1 110 = some o ∧ o.1 = 8) ∧ HI HT h2 ∧ JT h2 ∧ RJ h2 := by
  obtain ⟨r1, h1, q1, hh1, f1, hj1⟩ := pub_of (E := E) (a := 0) (kg_c_book JT_P hands) (N := mX7_book) rfl (List.cons_ne_nil _ _) [x1] rfl (fun q => by cases q) (Nat.le_of_ble_eq_true rfl) hh hj
  obtain ⟨r2, h2, q2, hh2, f2, hj2⟩ := pub_of (E := E) (a := 110) (kg_r_book JT_P hands) (N := mX8_book) rfl (List.cons_ne_nil _ _) [x1] rfl (fun q => by cases q) (Nat.le_of_ble_eq_true rfl) hh1 hj1
  exact ⟨r1, r2, h1, h2, q1, q2, mobj hh1, hh2, hj2, ⟨pRel_fr (pRel_fr hR.1 f1 (by decide)) f2 (by decide), cRel_fr (cRel_fr hR.2.1 f1 (by decide)) f2 (by decide), xj_fr (xj_fr hR.2.2 f1 (by decide)) f2 (by decide)⟩⟩
theorem lw_behind (x1 x2 : Int32) (hh : HI HT h) (hj : JT h) (hR : RJ h) : ∃ (r1 r2 : Int32) (h1 h2 : List pC), Run prog E pV1 120 mX7_behind [.ref 0, .int x1, .int x2] h (some (.int r1), h1, 0, 0) ∧ Run prog E pV1 120 mX8_behind [.ref 110, .int x1, .int x2] h1 (some (.int r2), h2, 0, 0) ∧ (∃ o, pobj h1 110 = some o ∧ o.1 = 8) ∧ HI HT h2 ∧ JT h2 ∧ RJ h2 := by
  obtain ⟨r1, h1, q1, hh1, f1, hj1⟩ := pub_of (E := E) (a := 0) (kg_c_behind JT_P hands) (N := mX7_behind) rfl (List.cons_ne_nil _ _) [x1, x2] rfl (fun q => by cases q) (Nat.le_of_ble_eq_true rfl) hh hj
  obtain ⟨r2, h2, q2, hh2, f2, hj2⟩ := pub_of (E := E) (a := 110) (hd_behind hands) (N := mX8_behind) rfl (List.cons_ne_nil _ _) [x1, x2] rfl (fun q => by cases q) (Nat.le_of_ble_eq_true rfl) hh1 hj1
  exact ⟨r1, r2, h1, h2, q1, q2, mobj hh1, hh2, hj2, ⟨pRel_fr (pRel_fr hR.1 f1 (by decide)) f2 (by decide), cRel_fr (cRel_fr hR.2.1 f1 (by decide)) f2 (by decide), xj_fr (xj_fr hR.2.2 f1 (by decide)) f2 (by decide)⟩⟩
theorem lw_lasts (hh : HI HT h) (hj : JT h) (hR : RJ h) : ∃ (r1 r2 : Int32) (h1 h2 : List pC), Run prog E pV1 120 mX7_lasts [.ref 0] h (some (.int r1), h1, 0, 0) ∧ Run prog E pV1 120 mX8_lasts [.ref 110] h1 (some (.int r2), h2, 0, 0) ∧ (∃ o, pobj h1 110 = some o ∧ o.1 = 8) ∧ HI HT h2 ∧ JT h2 ∧ RJ h2 := by
  obtain ⟨r1, h1, q1, hh1, f1, hj1⟩ := pub_of (E := E) (a := 0) (kg_c_lasts JT_P hands) (N := mX7_lasts) rfl (List.cons_ne_nil _ _) [] rfl (fun q => by cases q) (Nat.le_of_ble_eq_true rfl) hh hj
  obtain ⟨r2, h2, q2, hh2, f2, hj2⟩ := pub_of (E := E) (a := 110) (hd_lasts hands) (N := mX8_lasts) rfl (List.cons_ne_nil _ _) [] rfl (fun q => by cases q) (Nat.le_of_ble_eq_true rfl) hh1 hj1
  exact ⟨r1, r2, h1, h2, q1, q2, mobj hh1, hh2, hj2, ⟨pRel_fr (pRel_fr hR.1 f1 (by decide)) f2 (by decide), cRel_fr (cRel_fr hR.2.1 f1 (by decide)) f2 (by decide), xj_fr (xj_fr hR.2.2 f1 (by decide)) f2 (by decide)⟩⟩
theorem lw_best (x1 x2 x3 : Int32) (hh : HI HT h) (hj : JT h) (hR : RJ h) : ∃ (r1 r2 : Int32) (h1 h2 : List pC), Run prog E pV1 120 mX7_best [.ref 0, .int x1, .int x2, .int x3] h (some (.int r1), h1, 0, 0) ∧ Run prog E pV1 120 mX8_best [.ref 110, .int x1, .int x2, .int x3] h1 (some (.int r2), h2, 0, 0) ∧ (∃ o, pobj h1 110 = some o ∧ o.1 = 8) ∧ HI HT h2 ∧ JT h2 ∧ RJ h2 := by
  obtain ⟨r1, h1, q1, hh1, f1, hj1⟩ := pub_of (E := E) (a := 0) (kg_c_best JT_P hands) (N := mX7_best) rfl (List.cons_ne_nil _ _) [x1, x2, x3] rfl (fun q => by cases q) (Nat.le_of_ble_eq_true rfl) hh hj
  obtain ⟨r2, h2, q2, hh2, f2, hj2⟩ := pub_of (E := E) (a := 110) (hd_best hands) (N := mX8_best) rfl (List.cons_ne_nil _ _) [x1, x2, x3] rfl (fun q => by cases q) (Nat.le_of_ble_eq_true rfl) hh1 hj1
  exact ⟨r1, r2, h1, h2, q1, q2, mobj hh1, hh2, hj2, ⟨pRel_fr (pRel_fr hR.1 f1 (by decide)) f2 (by decide), cRel_fr (cRel_fr hR.2.1 f1 (by decide)) f2 (by decide), xj_fr (xj_fr hR.2.2 f1 (by decide)) f2 (by decide)⟩⟩
theorem lw_taught (x1 x2 : Int32) (hh : HI HT h) (hj : JT h) (hR : RJ h) : ∃ (r1 r2 : Int32) (h1 h2 : List pC), Run prog E pV1 120 mX7_taught [.ref 0, .int x1, .int x2] h (some (.int r1), h1, 0, 0) ∧ Run prog E pV1 120 mX8_taught [.ref 110, .int x1, .int x2] h1 (some (.int r2), h2, 0, 0) ∧ (∃ o, pobj h1 110 = some o ∧ o.1 = 8) ∧ HI HT h2 ∧ JT h2 ∧ RJ h2 := by
  obtain ⟨r1, h1, q1, hh1, f1, hj1⟩ := pub_of (E := E) (a := 0) (kg_c_taught JT_P hands) (N := mX7_taught) rfl (List.cons_ne_nil _ _) [x1, x2] rfl (fun q => by cases q) (Nat.le_of_ble_eq_true rfl) hh hj
  obtain ⟨r2, h2, q2, hh2, f2, hj2⟩ := pub_of (E := E) (a := 110) (hd_taught hands) (N := mX8_taught) rfl (List.cons_ne_nil _ _) [x1, x2] rfl (fun q => by cases q) (Nat.le_of_ble_eq_true rfl) hh1 hj1
  exact ⟨r1, r2, h1, h2, q1, q2, mobj hh1, hh2, hj2, ⟨pRel_fr (pRel_fr hR.1 f1 (by decide)) f2 (by decide), cRel_fr (cRel_fr hR.2.1 f1 (by decide)) f2 (by decide), xj_fr (xj_fr hR.2.2 f1 (by decide)) f2 (by decide)⟩⟩
theorem lw_whose (x1 x2 : Int32) (hh : HI HT h) (hj : JT h) (hR : RJ h) : ∃ (r1 r2 : Int32) (h1 h2 : List pC), Run prog E pV1 120 mX7_whose [.ref 0, .int x1, .int x2] h (some (.int r1), h1, 0, 0) ∧ Run prog E pV1 120 mX8_whose [.ref 110, .int x1, .int x2] h1 (some (.int r2), h2, 0, 0) ∧ (∃ o, pobj h1 110 = some o ∧ o.1 = 8) ∧ HI HT h2 ∧ JT h2 ∧ RJ h2 := by
  obtain ⟨r1, h1, q1, hh1, f1, hj1⟩ := pub_of (E := E) (a := 0) (kg_c_whose JT_P hands) (N := mX7_whose) rfl (List.cons_ne_nil _ _) [x1, x2] rfl (fun q => by cases q) (Nat.le_of_ble_eq_true rfl) hh hj
  obtain ⟨r2, h2, q2, hh2, f2, hj2⟩ := pub_of (E := E) (a := 110) (kg_r_whose JT_P hands) (N := mX8_whose) rfl (List.cons_ne_nil _ _) [x1, x2] rfl (fun q => by cases q) (Nat.le_of_ble_eq_true rfl) hh1 hj1
  exact ⟨r1, r2, h1, h2, q1, q2, mobj hh1, hh2, hj2, ⟨pRel_fr (pRel_fr hR.1 f1 (by decide)) f2 (by decide), cRel_fr (cRel_fr hR.2.1 f1 (by decide)) f2 (by decide), xj_fr (xj_fr hR.2.2 f1 (by decide)) f2 (by decide)⟩⟩
theorem lw_fee (hh : HI HT h) (hj : JT h) (hR : RJ h) : ∃ (r1 r2 : Int32) (h1 h2 : List pC), Run prog E pV1 120 mX7_fee [.ref 0] h (some (.int r1), h1, 0, 0) ∧ Run prog E pV1 120 mX8_fee [.ref 110] h1 (some (.int r2), h2, 0, 0) ∧ (∃ o, pobj h1 110 = some o ∧ o.1 = 8) ∧ HI HT h2 ∧ JT h2 ∧ RJ h2 := by
  obtain ⟨r1, h1, q1, hh1, f1, hj1⟩ := pub_of (E := E) (a := 0) (kg_c_fee JT_P hands) (N := mX7_fee) rfl (List.cons_ne_nil _ _) [] rfl (fun q => by cases q) (Nat.le_of_ble_eq_true rfl) hh hj
  obtain ⟨r2, h2, q2, hh2, f2, hj2⟩ := pub_of (E := E) (a := 110) hd_fee (N := mX8_fee) rfl (List.cons_ne_nil _ _) [] rfl (fun q => by cases q) (Nat.le_of_ble_eq_true rfl) hh1 hj1
  exact ⟨r1, r2, h1, h2, q1, q2, mobj hh1, hh2, hj2, ⟨pRel_fr (pRel_fr hR.1 f1 (by decide)) f2 (by decide), cRel_fr (cRel_fr hR.2.1 f1 (by decide)) f2 (by decide), xj_fr (xj_fr hR.2.2 f1 (by decide)) f2 (by decide)⟩⟩
theorem lw_fine (x1 : Int32) (hh : HI HT h) (hj : JT h) (hR : RJ h) : ∃ (r1 r2 : Int32) (h1 h2 : List pC), Run prog E pV1 120 mX7_fine [.ref 0, .int x1] h (some (.int r1), h1, 0, 0) ∧ Run prog E pV1 120 mX8_fine [.ref 110, .int x1] h1 (some (.int r2), h2, 0, 0) ∧ (∃ o, pobj h1 110 = some o ∧ o.1 = 8) ∧ HI HT h2 ∧ JT h2 ∧ RJ h2 := by
  obtain ⟨r1, h1, q1, hh1, f1, hj1⟩ := pub_of (E := E) (a := 0) (kg_c_fine JT_P hands) (N := mX7_fine) rfl (List.cons_ne_nil _ _) [x1] rfl (fun q => by cases q) (Nat.le_of_ble_eq_true rfl) hh hj
  obtain ⟨r2, h2, q2, hh2, f2, hj2⟩ := pub_of (E := E) (a := 110) hd_fine (N := mX8_fine) rfl (List.cons_ne_nil _ _) [x1] rfl (fun q => by cases q) (Nat.le_of_ble_eq_true rfl) hh1 hj1
  exact ⟨r1, r2, h1, h2, q1, q2, mobj hh1, hh2, hj2, ⟨pRel_fr (pRel_fr hR.1 f1 (by decide)) f2 (by decide), cRel_fr (cRel_fr hR.2.1 f1 (by decide)) f2 (by decide), xj_fr (xj_fr hR.2.2 f1 (by decide)) f2 (by decide)⟩⟩
theorem lf_feed (x1 x2 x3 : Int32) (hh : HI HT h) (hj : JT h) (hR : RJ h) : ∃ (r1 r2 : Int32) (h1 h2 : List pC), Run prog E pV1 120 mX7_feed [.ref 0, .int x1, .int x2, .int x3] h (some (.int r1), h1, 0, 0) ∧ Run prog E pV1 120 mX8_feed [.ref 110, .int x1, .int x2, .int x3] h1 (some (.int r2), h2, 0, 0) ∧ (∃ o, pobj h1 110 = some o ∧ o.1 = 8) ∧ HI HT h2 ∧ JT h2 ∧ RJ h2 := by
  obtain ⟨r, h1, h2, q1, q2, q3, p1, p2, p3, p4⟩ := pr_ok3 (E := E) (x1 := x1) (x2 := x2) (x3 := x3) cp_feed rfl rfl (List.cons_ne_nil _ _) (List.cons_ne_nil _ _) (fun _ h => absurd h List.not_mem_nil) hh hj hR.1 hR.2.1 ⟨i32_b x1, i32_b x2, i32_b x3, trivial⟩ (pBd.cs (ty_76_1 hh hR).1 (ty_76_1 hh hR).2 pBd.nl) (fun e he => by cases he)
  exact ⟨r, r, h1, h2, q1, q2, q3, p1, p2, p3.1, p3.2, xj_fr hR.2.2 p4 (by decide)⟩
theorem lw_feed (x1 x2 x3 : Int32) (hh : HI HT h) (hj : JT h) (hR : RJ h) : ∃ (r1 r2 : Int32) (h1 h2 : List pC), Run prog E pV1 120 mX7_feed [.ref 0, .int x1, .int x2, .int x3] h (some (.int r1), h1, 0, 0) ∧ Run prog E pV1 120 mX8_feed [.ref 110, .int x1, .int x2, .int x3] h1 (some (.int r2), h2, 0, 0) ∧ (∃ o, pobj h1 110 = some o ∧ o.1 = 8) ∧ HI HT h2 ∧ JT h2 ∧ RJ h2 := by
  have ex1 := i32_b x1
  have ex2 := i32_b x2
  have ex3 := i32_b x3
  have t76_1 := ty_76_1 hh hR
  exact lf_feed x1 x2 x3 hh hj hR
theorem lf_trim (x1 : Int32) (hh : HI HT h) (hj : JT h) (hR : RJ h) : ∃ (r : Int32) (h1 h2 : List pC), Run prog E pV1 120 mX7_trim [.ref 0, .int x1] h (some (.int r), h1, 0, 0) ∧ Run prog E pV1 120 mX8_trim [.ref 110, .int x1] h1 (some (.int r), h2, 0, 0) ∧ (∃ o, pobj h1 110 = some o ∧ o.1 = 8) ∧ HI HT h2 ∧ JT h2 ∧ RJ h2 := by
  obtain ⟨r, h1, h2, q1, q2, q3, p1, p2, p3, p4⟩ := pr_ok1 (E := E) (x1 := x1) cp_trim rfl rfl (List.cons_ne_nil _ _) (List.cons_ne_nil _ _) (fun _ h => absurd h List.not_mem_nil) hh hj hR.1 hR.2.1 ⟨i32_b x1, trivial⟩ (pBd.cs (ty_76_1 hh hR).1 (ty_76_1 hh hR).2 pBd.nl) (fun e he => by cases he)
  exact ⟨r, h1, h2, q1, q2, q3, p1, p2, p3.1, p3.2, xj_fr hR.2.2 p4 (by decide)⟩
theorem lw_trim (x1 : Int32) (hh : HI HT h) (hj : JT h) (hR : RJ h) : ∃ (r : Int32) (h1 h2 : List pC), Run prog E pV1 120 mX7_trim [.ref 0, .int x1] h (some (.int r), h1, 0, 0) ∧ Run prog E pV1 120 mX8_trim [.ref 110, .int x1] h1 (some (.int r), h2, 0, 0) ∧ (∃ o, pobj h1 110 = some o ∧ o.1 = 8) ∧ HI HT h2 ∧ JT h2 ∧ RJ h2 := by
  have ex1 := i32_b x1
  have t76_1 := ty_76_1 hh hR
  exact lf_trim x1 hh hj hR
theorem lw_text (hh : HI HT h) (hj : JT h) (hR : RJ h) : ∃ (r1 r2 : Int32) (h1 h2 : List pC), Run prog E pV1 120 mX7_text [.ref 0] h (some (.int r1), h1, 0, 0) ∧ Run prog E pV1 120 mX8_text [.ref 110] h1 (some (.int r2), h2, 0, 0) ∧ (∃ o, pobj h1 110 = some o ∧ o.1 = 8) ∧ HI HT h2 ∧ JT h2 ∧ RJ h2 := by
  obtain ⟨r1, h1, q1, hh1, hj1, f1, z1, u1, rfl⟩ := ox_ok (E := E) (xs := []) (R' := ro_text) (Q := fun r h' => ri h' 76 1 = 0 ∧ ∃ u : Int32, r = some (.int u)) ox_text rfl (by unfold kc_c_text; exact (List.forall_mem_cons.mpr ⟨kg_readInto JT_P hands, (List.forall_mem_cons.mpr ⟨kg_addText JT_P hands, (fun _ h => absurd h List.not_mem_nil)⟩)⟩)) hj hh (sub_rel hR.1 (by decide)) (pBd_ty hh (sub_rel hR.1 (by decide)) (by decide +kernel)) trivial (fun e he => by cases he) (fun σ Γ C Δ x r h' he _ _ hC _ hr => by
    obtain ⟨a1, u, a2, -⟩ := ecV_ok he hC hr
    exact ⟨Int32.toInt_inj.mp (zcn (a1 _ List.mem_cons_self)), u, a2⟩)
  obtain ⟨r2, h2, q2, hh2, hj2, f2, z2⟩ := text_x hh1 hj1
  refine ⟨u1, r2, h1, h2, q1, q2, mobj hh1, hh2, hj2, fun q hq => ?_, cRel_fr (cRel_fr hR.2.1 f1 (by decide)) f2 (by decide), xj_fr (xj_fr hR.2.2 f1 (by decide)) f2 (by decide)⟩
  obtain rfl := List.mem_singleton.mp hq
  show ri h2 76 1 = ri h2 110 15
  rw [z2, ri_fr (a := 76) (i := 1) f2 (by decide), z1]
theorem lw_textTold (x1 x2 : Int32) (hh : HI HT h) (hj : JT h) (hR : RJ h) : ∃ (r1 r2 : Int32) (h1 h2 : List pC), Run prog E pV1 120 mX7_textTold [.ref 0, .int x1, .int x2] h (some (.int r1), h1, 0, 0) ∧ Run prog E pV1 120 mX8_textTold [.ref 110, .int x1, .int x2] h1 (some (.int r2), h2, 0, 0) ∧ (∃ o, pobj h1 110 = some o ∧ o.1 = 8) ∧ HI HT h2 ∧ JT h2 ∧ RJ h2 := by
  obtain ⟨r1, h1, q1, hh1, f1, hj1⟩ := pub_of (E := E) (a := 0) (kg_c_textTold JT_P hands) (N := mX7_textTold) rfl (List.cons_ne_nil _ _) [x1, x2] rfl (fun q => by cases q) (Nat.le_of_ble_eq_true rfl) hh hj
  obtain ⟨r2, h2, q2, hh2, f2, hj2⟩ := pub_of (E := E) (a := 110) (kg_r_textTold JT_P hands) (N := mX8_textTold) rfl (List.cons_ne_nil _ _) [x1, x2] rfl (fun q => by cases q) (Nat.le_of_ble_eq_true rfl) hh1 hj1
  exact ⟨r1, r2, h1, h2, q1, q2, mobj hh1, hh2, hj2, ⟨pRel_fr (pRel_fr hR.1 f1 (by decide)) f2 (by decide), cRel_fr (cRel_fr hR.2.1 f1 (by decide)) f2 (by decide), xj_fr (xj_fr hR.2.2 f1 (by decide)) f2 (by decide)⟩⟩
theorem lw_why (x1 : Int32) (hh : HI HT h) (hj : JT h) (hR : RJ h) : ∃ (r1 r2 : Int32) (h1 h2 : List pC), Run prog E pV1 120 mX7_why [.ref 0, .int x1] h (some (.int r1), h1, 0, 0) ∧ Run prog E pV1 120 mX8_why [.ref 110, .int x1] h1 (some (.int r2), h2, 0, 0) ∧ (∃ o, pobj h1 110 = some o ∧ o.1 = 8) ∧ HI HT h2 ∧ JT h2 ∧ RJ h2 := by
  obtain ⟨r1, h1, q1, hh1, f1, hj1⟩ := pub_of (E := E) (a := 0) (kg_c_why JT_P hands) (N := mX7_why) rfl (List.cons_ne_nil _ _) [x1] rfl (fun q => by cases q) (Nat.le_of_ble_eq_true rfl) hh hj
  obtain ⟨r2, h2, q2, hh2, f2, hj2⟩ := pub_of (E := E) (a := 110) (kg_r_why JT_P hands) (N := mX8_why) rfl (List.cons_ne_nil _ _) [x1] rfl (fun q => by cases q) (Nat.le_of_ble_eq_true rfl) hh1 hj1
  exact ⟨r1, r2, h1, h2, q1, q2, mobj hh1, hh2, hj2, ⟨pRel_fr (pRel_fr hR.1 f1 (by decide)) f2 (by decide), cRel_fr (cRel_fr hR.2.1 f1 (by decide)) f2 (by decide), xj_fr (xj_fr hR.2.2 f1 (by decide)) f2 (by decide)⟩⟩
theorem lw_sheet (x1 x2 x3 : Int32) (hh : HI HT h) (hj : JT h) (hR : RJ h) : ∃ (r1 r2 : Int32) (h1 h2 : List pC), Run prog E pV1 120 mX7_sheet [.ref 0, .int x1, .int x2, .int x3] h (some (.int r1), h1, 0, 0) ∧ Run prog E pV1 120 mX8_sheet [.ref 110, .int x1, .int x2, .int x3] h1 (some (.int r2), h2, 0, 0) ∧ (∃ o, pobj h1 110 = some o ∧ o.1 = 8) ∧ HI HT h2 ∧ JT h2 ∧ RJ h2 := by
  obtain ⟨r1, h1, q1, hh1, f1, hj1⟩ := pub_of (E := E) (a := 0) (kg_c_sheet JT_P hands) (N := mX7_sheet) rfl (List.cons_ne_nil _ _) [x1, x2, x3] rfl (fun q => by cases q) (Nat.le_of_ble_eq_true rfl) hh hj
  obtain ⟨r2, h2, q2, hh2, f2, hj2⟩ := pub_of (E := E) (a := 110) (kg_r_sheet JT_P hands) (N := mX8_sheet) rfl (List.cons_ne_nil _ _) [x1, x2, x3] rfl (fun q => by cases q) (Nat.le_of_ble_eq_true rfl) hh1 hj1
  exact ⟨r1, r2, h1, h2, q1, q2, mobj hh1, hh2, hj2, ⟨pRel_fr (pRel_fr hR.1 f1 (by decide)) f2 (by decide), cRel_fr (cRel_fr hR.2.1 f1 (by decide)) f2 (by decide), xj_fr (xj_fr hR.2.2 f1 (by decide)) f2 (by decide)⟩⟩
theorem lw_mark (x1 x2 x3 : Int32) (hh : HI HT h) (hj : JT h) (hR : RJ h) : ∃ (r1 r2 : Int32) (h1 h2 : List pC), Run prog E pV1 120 mX7_mark [.ref 0, .int x1, .int x2, .int x3] h (some (.int r1), h1, 0, 0) ∧ Run prog E pV1 120 mX8_mark [.ref 110, .int x1, .int x2, .int x3] h1 (some (.int r2), h2, 0, 0) ∧ (∃ o, pobj h1 110 = some o ∧ o.1 = 8) ∧ HI HT h2 ∧ JT h2 ∧ RJ h2 := by
  obtain ⟨r1, h1, q1, hh1, f1, hj1⟩ := pub_of (E := E) (a := 0) (kg_c_mark JT_P hands) (N := mX7_mark) rfl (List.cons_ne_nil _ _) [x1, x2, x3] rfl (fun q => by cases q) (Nat.le_of_ble_eq_true rfl) hh hj
  obtain ⟨r2, h2, q2, hh2, f2, hj2⟩ := pub_of (E := E) (a := 110) (kg_r_mark JT_P hands) (N := mX8_mark) rfl (List.cons_ne_nil _ _) [x1, x2, x3] rfl (fun q => by cases q) (Nat.le_of_ble_eq_true rfl) hh1 hj1
  exact ⟨r1, r2, h1, h2, q1, q2, mobj hh1, hh2, hj2, ⟨pRel_fr (pRel_fr hR.1 f1 (by decide)) f2 (by decide), cRel_fr (cRel_fr hR.2.1 f1 (by decide)) f2 (by decide), xj_fr (xj_fr hR.2.2 f1 (by decide)) f2 (by decide)⟩⟩
theorem lw_pour (x1 : Int32) (hh : HI HT h) (hj : JT h) (hR : RJ h) : ∃ (r1 r2 : Int32) (h1 h2 : List pC), Run prog E pV1 120 mX7_pour [.ref 0, .int x1] h (some (.int r1), h1, 0, 0) ∧ Run prog E pV1 120 mX8_pour [.ref 110, .int x1] h1 (some (.int r2), h2, 0, 0) ∧ (∃ o, pobj h1 110 = some o ∧ o.1 = 8) ∧ HI HT h2 ∧ JT h2 ∧ RJ h2 := by
  obtain ⟨r1, h1, q1, hh1, f1, hj1⟩ := pub_of (E := E) (a := 0) (kg_c_pour JT_P hands) (N := mX7_pour) rfl (List.cons_ne_nil _ _) [x1] rfl (fun q => by cases q) (Nat.le_of_ble_eq_true rfl) hh hj
  obtain ⟨r2, h2, q2, hh2, f2, hj2⟩ := pub_of (E := E) (a := 110) (kg_r_pour JT_P hands) (N := mX8_pour) rfl (List.cons_ne_nil _ _) [x1] rfl (fun q => by cases q) (Nat.le_of_ble_eq_true rfl) hh1 hj1
  exact ⟨r1, r2, h1, h2, q1, q2, mobj hh1, hh2, hj2, ⟨pRel_fr (pRel_fr hR.1 f1 (by decide)) f2 (by decide), cRel_fr (cRel_fr hR.2.1 f1 (by decide)) f2 (by decide), xj_fr (xj_fr hR.2.2 f1 (by decide)) f2 (by decide)⟩⟩
theorem lw_reads (x1 : Int32) (hh : HI HT h) (hj : JT h) (hR : RJ h) : ∃ (r1 r2 : Int32) (h1 h2 : List pC), Run prog E pV1 120 mX7_reads [.ref 0, .int x1] h (some (.int r1), h1, 0, 0) ∧ Run prog E pV1 120 mX8_reads [.ref 110, .int x1] h1 (some (.int r2), h2, 0, 0) ∧ (∃ o, pobj h1 110 = some o ∧ o.1 = 8) ∧ HI HT h2 ∧ JT h2 ∧ RJ h2 := by
  obtain ⟨r1, h1, q1, hh1, f1, hj1⟩ := pub_of (E := E) (a := 0) (kg_c_reads JT_P hands) (N := mX7_reads) rfl (List.cons_ne_nil _ _) [x1] rfl (fun q => by cases q) (Nat.le_of_ble_eq_true rfl) hh hj
  obtain ⟨r2, h2, q2, hh2, f2, hj2⟩ := pub_of (E := E) (a := 110) (kg_r_reads JT_P hands) (N := mX8_reads) rfl (List.cons_ne_nil _ _) [x1] rfl (fun q => by cases q) (Nat.le_of_ble_eq_true rfl) hh1 hj1
  exact ⟨r1, r2, h1, h2, q1, q2, mobj hh1, hh2, hj2, ⟨pRel_fr (pRel_fr hR.1 f1 (by decide)) f2 (by decide), cRel_fr (cRel_fr hR.2.1 f1 (by decide)) f2 (by decide), xj_fr (xj_fr hR.2.2 f1 (by decide)) f2 (by decide)⟩⟩
theorem lw_copy (x1 x2 x3 x4 x5 : Int32) (hh : HI HT h) (hj : JT h) (hR : RJ h) : ∃ (r1 r2 : Int32) (h1 h2 : List pC), Run prog E pV1 120 mX7_copy [.ref 0, .int x1, .int x2, .int x3, .int x4, .int x5] h (some (.int r1), h1, 0, 0) ∧ Run prog E pV1 120 mX8_copy [.ref 110, .int x1, .int x2, .int x3, .int x4, .int x5] h1 (some (.int r2), h2, 0, 0) ∧ (∃ o, pobj h1 110 = some o ∧ o.1 = 8) ∧ HI HT h2 ∧ JT h2 ∧ RJ h2 := by
  obtain ⟨r1, h1, q1, hh1, f1, hj1⟩ := pub_of (E := E) (a := 0) (kg_c_copy JT_P hands) (N := mX7_copy) rfl (List.cons_ne_nil _ _) [x1, x2, x3, x4, x5] rfl (fun q => by cases q) (Nat.le_of_ble_eq_true rfl) hh hj
  obtain ⟨r2, h2, q2, hh2, f2, hj2⟩ := pub_of (E := E) (a := 110) hd_copy (N := mX8_copy) rfl (List.cons_ne_nil _ _) [x1, x2, x3, x4, x5] rfl (fun q => by cases q) (Nat.le_of_ble_eq_true rfl) hh1 hj1
  exact ⟨r1, r2, h1, h2, q1, q2, mobj hh1, hh2, hj2, ⟨pRel_fr (pRel_fr hR.1 f1 (by decide)) f2 (by decide), cRel_fr (cRel_fr hR.2.1 f1 (by decide)) f2 (by decide), xj_fr (xj_fr hR.2.2 f1 (by decide)) f2 (by decide)⟩⟩
theorem lw_lay (x1 x2 x3 : Int32) (hh : HI HT h) (hj : JT h) (hR : RJ h) : ∃ (r1 r2 : Int32) (h1 h2 : List pC), Run prog E pV1 120 mX7_lay [.ref 0, .int x1, .int x2, .int x3] h (some (.int r1), h1, 0, 0) ∧ Run prog E pV1 120 mX8_lay [.ref 110, .int x1, .int x2, .int x3] h1 (some (.int r2), h2, 0, 0) ∧ (∃ o, pobj h1 110 = some o ∧ o.1 = 8) ∧ HI HT h2 ∧ JT h2 ∧ RJ h2 := by
  obtain ⟨r1, h1, q1, hh1, f1, hj1⟩ := pub_of (E := E) (a := 0) (kg_c_lay JT_P hands) (N := mX7_lay) rfl (List.cons_ne_nil _ _) [x1, x2, x3] rfl (fun q => by cases q) (Nat.le_of_ble_eq_true rfl) hh hj
  obtain ⟨r2, h2, q2, hh2, f2, hj2⟩ := pub_of (E := E) (a := 110) (kg_r_lay JT_P hands) (N := mX8_lay) rfl (List.cons_ne_nil _ _) [x1, x2, x3] rfl (fun q => by cases q) (Nat.le_of_ble_eq_true rfl) hh1 hj1
  exact ⟨r1, r2, h1, h2, q1, q2, mobj hh1, hh2, hj2, ⟨pRel_fr (pRel_fr hR.1 f1 (by decide)) f2 (by decide), cRel_fr (cRel_fr hR.2.1 f1 (by decide)) f2 (by decide), xj_fr (xj_fr hR.2.2 f1 (by decide)) f2 (by decide)⟩⟩
theorem lw_ask (x1 x2 : Int32) (hh : HI HT h) (hj : JT h) (hR : RJ h) : ∃ (r1 r2 : Int32) (h1 h2 : List pC), Run prog E pV1 120 mX7_ask [.ref 0, .int x1, .int x2] h (some (.int r1), h1, 0, 0) ∧ Run prog E pV1 120 mX8_ask [.ref 110, .int x1, .int x2] h1 (some (.int r2), h2, 0, 0) ∧ (∃ o, pobj h1 110 = some o ∧ o.1 = 8) ∧ HI HT h2 ∧ JT h2 ∧ RJ h2 := by
  obtain ⟨r1, h1, q1, hh1, f1, hj1⟩ := pub_of (E := E) (a := 0) (kg_c_ask JT_P hands) (N := mX7_ask) rfl (List.cons_ne_nil _ _) [x1, x2] rfl (fun q => by cases q) (Nat.le_of_ble_eq_true rfl) hh hj
  obtain ⟨r2, h2, q2, hh2, f2, hj2⟩ := pub_of (E := E) (a := 110) (kg_r_ask JT_P hands) (N := mX8_ask) rfl (List.cons_ne_nil _ _) [x1, x2] rfl (fun q => by cases q) (Nat.le_of_ble_eq_true rfl) hh1 hj1
  exact ⟨r1, r2, h1, h2, q1, q2, mobj hh1, hh2, hj2, ⟨pRel_fr (pRel_fr hR.1 f1 (by decide)) f2 (by decide), cRel_fr (cRel_fr hR.2.1 f1 (by decide)) f2 (by decide), xj_fr (xj_fr hR.2.2 f1 (by decide)) f2 (by decide)⟩⟩
theorem lw_item (x1 x2 : Int32) (hh : HI HT h) (hj : JT h) (hR : RJ h) : ∃ (r1 r2 : Int32) (h1 h2 : List pC), Run prog E pV1 120 mX7_item [.ref 0, .int x1, .int x2] h (some (.int r1), h1, 0, 0) ∧ Run prog E pV1 120 mX8_item [.ref 110, .int x1, .int x2] h1 (some (.int r2), h2, 0, 0) ∧ (∃ o, pobj h1 110 = some o ∧ o.1 = 8) ∧ HI HT h2 ∧ JT h2 ∧ RJ h2 := by
  obtain ⟨r1, h1, q1, hh1, f1, hj1⟩ := pub_of (E := E) (a := 0) (kg_c_item JT_P hands) (N := mX7_item) rfl (List.cons_ne_nil _ _) [x1, x2] rfl (fun q => by cases q) (Nat.le_of_ble_eq_true rfl) hh hj
  obtain ⟨r2, h2, q2, hh2, f2, hj2⟩ := pub_of (E := E) (a := 110) (kg_r_item JT_P hands) (N := mX8_item) rfl (List.cons_ne_nil _ _) [x1, x2] rfl (fun q => by cases q) (Nat.le_of_ble_eq_true rfl) hh1 hj1
  exact ⟨r1, r2, h1, h2, q1, q2, mobj hh1, hh2, hj2, ⟨pRel_fr (pRel_fr hR.1 f1 (by decide)) f2 (by decide), cRel_fr (cRel_fr hR.2.1 f1 (by decide)) f2 (by decide), xj_fr (xj_fr hR.2.2 f1 (by decide)) f2 (by decide)⟩⟩
theorem lw_rest (x1 x2 : Int32) (hh : HI HT h) (hj : JT h) (hR : RJ h) : ∃ (r1 r2 : Int32) (h1 h2 : List pC), Run prog E pV1 120 mX7_rest [.ref 0, .int x1, .int x2] h (some (.int r1), h1, 0, 0) ∧ Run prog E pV1 120 mX8_rest [.ref 110, .int x1, .int x2] h1 (some (.int r2), h2, 0, 0) ∧ (∃ o, pobj h1 110 = some o ∧ o.1 = 8) ∧ HI HT h2 ∧ JT h2 ∧ RJ h2 := by
  obtain ⟨r1, h1, q1, hh1, f1, hj1⟩ := pub_of (E := E) (a := 0) (kg_c_rest JT_P hands) (N := mX7_rest) rfl (List.cons_ne_nil _ _) [x1, x2] rfl (fun q => by cases q) (Nat.le_of_ble_eq_true rfl) hh hj
  obtain ⟨r2, h2, q2, hh2, f2, hj2⟩ := pub_of (E := E) (a := 110) (kg_r_rest JT_P hands) (N := mX8_rest) rfl (List.cons_ne_nil _ _) [x1, x2] rfl (fun q => by cases q) (Nat.le_of_ble_eq_true rfl) hh1 hj1
  exact ⟨r1, r2, h1, h2, q1, q2, mobj hh1, hh2, hj2, ⟨pRel_fr (pRel_fr hR.1 f1 (by decide)) f2 (by decide), cRel_fr (cRel_fr hR.2.1 f1 (by decide)) f2 (by decide), xj_fr (xj_fr hR.2.2 f1 (by decide)) f2 (by decide)⟩⟩
theorem lw_tell (x1 : Int32) (hh : HI HT h) (hj : JT h) (hR : RJ h) : ∃ (r1 r2 : Int32) (h1 h2 : List pC), Run prog E pV1 120 mX7_tell [.ref 0, .int x1] h (some (.int r1), h1, 0, 0) ∧ Run prog E pV1 120 mX8_tell [.ref 110, .int x1] h1 (some (.int r2), h2, 0, 0) ∧ (∃ o, pobj h1 110 = some o ∧ o.1 = 8) ∧ HI HT h2 ∧ JT h2 ∧ RJ h2 := by
  obtain ⟨r1, h1, q1, hh1, f1, hj1⟩ := pub_of (E := E) (a := 0) (kg_c_tell JT_P hands) (N := mX7_tell) rfl (List.cons_ne_nil _ _) [x1] rfl (fun q => by cases q) (Nat.le_of_ble_eq_true rfl) hh hj
  obtain ⟨r2, h2, q2, hh2, f2, hj2⟩ := pub_of (E := E) (a := 110) (kg_r_tell JT_P hands) (N := mX8_tell) rfl (List.cons_ne_nil _ _) [x1] rfl (fun q => by cases q) (Nat.le_of_ble_eq_true rfl) hh1 hj1
  exact ⟨r1, r2, h1, h2, q1, q2, mobj hh1, hh2, hj2, ⟨pRel_fr (pRel_fr hR.1 f1 (by decide)) f2 (by decide), cRel_fr (cRel_fr hR.2.1 f1 (by decide)) f2 (by decide), xj_fr (xj_fr hR.2.2 f1 (by decide)) f2 (by decide)⟩⟩
theorem lw_check (x1 : Int32) (hh : HI HT h) (hj : JT h) (hR : RJ h) : ∃ (r1 r2 : Int32) (h1 h2 : List pC), Run prog E pV1 120 mX7_check [.ref 0, .int x1] h (some (.int r1), h1, 0, 0) ∧ Run prog E pV1 120 mX8_check [.ref 110, .int x1] h1 (some (.int r2), h2, 0, 0) ∧ (∃ o, pobj h1 110 = some o ∧ o.1 = 8) ∧ HI HT h2 ∧ JT h2 ∧ RJ h2 := by
  obtain ⟨r1, h1, q1, hh1, f1, hj1⟩ := pub_of (E := E) (a := 0) (kg_c_check JT_P hands) (N := mX7_check) rfl (List.cons_ne_nil _ _) [x1] rfl (fun q => by cases q) (Nat.le_of_ble_eq_true rfl) hh hj
  obtain ⟨r2, h2, q2, hh2, f2, hj2⟩ := pub_of (E := E) (a := 110) (hd_check hands) (N := mX8_check) rfl (List.cons_ne_nil _ _) [x1] rfl (fun q => by cases q) (Nat.le_of_ble_eq_true rfl) hh1 hj1
  exact ⟨r1, r2, h1, h2, q1, q2, mobj hh1, hh2, hj2, ⟨pRel_fr (pRel_fr hR.1 f1 (by decide)) f2 (by decide), cRel_fr (cRel_fr hR.2.1 f1 (by decide)) f2 (by decide), xj_fr (xj_fr hR.2.2 f1 (by decide)) f2 (by decide)⟩⟩
theorem lw_keep (hh : HI HT h) (hj : JT h) (hR : RJ h) : ∃ (r1 r2 : Int32) (h1 h2 : List pC), Run prog E pV1 120 mX7_keep [.ref 0] h (some (.int r1), h1, 0, 0) ∧ Run prog E pV1 120 mX8_keep [.ref 110] h1 (some (.int r2), h2, 0, 0) ∧ (∃ o, pobj h1 110 = some o ∧ o.1 = 8) ∧ HI HT h2 ∧ JT h2 ∧ RJ h2 := by
  obtain ⟨r1, h1, q1, hh1, f1, hj1⟩ := pub_of (E := E) (a := 0) (kg_c_keep JT_P hands) (N := mX7_keep) rfl (List.cons_ne_nil _ _) [] rfl (fun q => by cases q) (Nat.le_of_ble_eq_true rfl) hh hj
  obtain ⟨r2, h2, q2, hh2, f2, hj2⟩ := pub_of (E := E) (a := 110) hd_keep (N := mX8_keep) rfl (List.cons_ne_nil _ _) [] rfl (fun q => by cases q) (Nat.le_of_ble_eq_true rfl) hh1 hj1
  exact ⟨r1, r2, h1, h2, q1, q2, mobj hh1, hh2, hj2, ⟨pRel_fr (pRel_fr hR.1 f1 (by decide)) f2 (by decide), cRel_fr (cRel_fr hR.2.1 f1 (by decide)) f2 (by decide), xj_fr (xj_fr hR.2.2 f1 (by decide)) f2 (by decide)⟩⟩
theorem lw_back (hh : HI HT h) (hj : JT h) (hR : RJ h) : ∃ (r1 r2 : Int32) (h1 h2 : List pC), Run prog E pV1 120 mX7_back [.ref 0] h (some (.int r1), h1, 0, 0) ∧ Run prog E pV1 120 mX8_back [.ref 110] h1 (some (.int r2), h2, 0, 0) ∧ (∃ o, pobj h1 110 = some o ∧ o.1 = 8) ∧ HI HT h2 ∧ JT h2 ∧ RJ h2 := by
  obtain ⟨r1, h1, q1, hh1, f1, hj1⟩ := pub_of (E := E) (a := 0) (kg_c_back JT_P hands) (N := mX7_back) rfl (List.cons_ne_nil _ _) [] rfl (fun q => by cases q) (Nat.le_of_ble_eq_true rfl) hh hj
  obtain ⟨r2, h2, q2, hh2, f2, hj2⟩ := pub_of (E := E) (a := 110) hd_back (N := mX8_back) rfl (List.cons_ne_nil _ _) [] rfl (fun q => by cases q) (Nat.le_of_ble_eq_true rfl) hh1 hj1
  exact ⟨r1, r2, h1, h2, q1, q2, mobj hh1, hh2, hj2, ⟨pRel_fr (pRel_fr hR.1 f1 (by decide)) f2 (by decide), cRel_fr (cRel_fr hR.2.1 f1 (by decide)) f2 (by decide), xj_fr (xj_fr hR.2.2 f1 (by decide)) f2 (by decide)⟩⟩
theorem lw_count (x1 : Int32) (hh : HI HT h) (hj : JT h) (hR : RJ h) : ∃ (r1 r2 : Int32) (h1 h2 : List pC), Run prog E pV1 120 mX7_count [.ref 0, .int x1] h (some (.int r1), h1, 0, 0) ∧ Run prog E pV1 120 mX8_count [.ref 110, .int x1] h1 (some (.int r2), h2, 0, 0) ∧ (∃ o, pobj h1 110 = some o ∧ o.1 = 8) ∧ HI HT h2 ∧ JT h2 ∧ RJ h2 := by
  obtain ⟨r1, h1, q1, hh1, f1, hj1⟩ := pub_of (E := E) (a := 0) (kg_c_count JT_P hands) (N := mX7_count) rfl (List.cons_ne_nil _ _) [x1] rfl (fun q => by cases q) (Nat.le_of_ble_eq_true rfl) hh hj
  obtain ⟨r2, h2, q2, hh2, f2, hj2⟩ := pub_of (E := E) (a := 110) (kg_r_count JT_P hands) (N := mX8_count) rfl (List.cons_ne_nil _ _) [x1] rfl (fun q => by cases q) (Nat.le_of_ble_eq_true rfl) hh1 hj1
  exact ⟨r1, r2, h1, h2, q1, q2, mobj hh1, hh2, hj2, ⟨pRel_fr (pRel_fr hR.1 f1 (by decide)) f2 (by decide), cRel_fr (cRel_fr hR.2.1 f1 (by decide)) f2 (by decide), xj_fr (xj_fr hR.2.2 f1 (by decide)) f2 (by decide)⟩⟩
end LWS
