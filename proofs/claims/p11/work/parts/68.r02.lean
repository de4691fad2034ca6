/-! ===== what each pair of calls does: the methods ===== -/
section LWS
variable {E : pX} {h : List pC}
theorem rub_ty {a : Nat} (hh : HI HT h) (he : elT HT 6 a 2 2 = some (.inl (1, 8))) : 1 ≤ (ri h a 2).toInt ∧ (ri h a 2).toInt ≤ 8 := (ri_ty hh he).2
theorem ty_34_5 (hh : HI HT h) (hR : RJ h) : 0 ≤ (ri h 34 5).toInt ∧ (ri h 34 5).toInt ≤ 9 := by
  have e : ri h 34 5 = ri h 111 0 := (hR.1 _ List.mem_cons_self)
  have c := (ri_ty (k := 8) (a := 34) (i := 5) (p := (0, 9)) hh rfl).2
  have r := (ri_ty (k := 0) (a := 111) (i := 0) (p := (0, 9)) hh rfl).2
  rw [← e] at r
  dsimp only at c r
  omega
theorem ty_48_5 (hh : HI HT h) (hR : RJ h) : 0 ≤ (ri h 48 5).toInt ∧ (ri h 48 5).toInt ≤ 9 := by
  have e : ri h 48 5 = ri h 112 0 := (hR.1 _ (List.mem_cons_of_mem _ List.mem_cons_self))
  have c := (ri_ty (k := 8) (a := 48) (i := 5) (p := (0, 9)) hh rfl).2
  have r := (ri_ty (k := 0) (a := 112) (i := 0) (p := (0, 9)) hh rfl).2
  rw [← e] at r
  dsimp only at c r
  omega
theorem ty_0_9 (hh : HI HT h) (hR : RJ h) : 0 ≤ (ri h 0 9).toInt ∧ (ri h 0 9).toInt ≤ 1 := by
  have e : ri h 0 9 = ri h 110 3 := (hR.1 _ (List.mem_cons_of_mem _ (List.mem_cons_of_mem _ List.mem_cons_self)))
  have c := (ri_ty (k := 9) (a := 0) (i := 9) (p := (0, 1)) hh rfl).2
  have r := (ri_ty (k := 10) (a := 110) (i := 3) (p := (0, 1)) hh rfl).2
  rw [← e] at r
  dsimp only at c r
  omega
theorem ty_34_9 (hh : HI HT h) (hR : RJ h) : (-2147483648) ≤ (ri h 34 9).toInt ∧ (ri h 34 9).toInt ≤ 2147483647 := by
  have e : ri h 34 9 = ri h 111 4 := (hR.1 _ (List.mem_cons_of_mem _ (List.mem_cons_of_mem _ (List.mem_cons_of_mem _ List.mem_cons_self))))
  have c := (ri_ty (k := 8) (a := 34) (i := 9) (p := ((-2147483648), 2147483647)) hh rfl).2
  have r := (ri_ty (k := 0) (a := 111) (i := 4) (p := ((-2147483648), 2147483647)) hh rfl).2
  rw [← e] at r
  dsimp only at c r
  omega
theorem ty_34_7 (hh : HI HT h) (hR : RJ h) : (-2147483648) ≤ (ri h 34 7).toInt ∧ (ri h 34 7).toInt ≤ 2147483647 := by
  have e : ri h 34 7 = ri h 111 2 := (hR.1 _ (List.mem_cons_of_mem _ (List.mem_cons_of_mem _ (List.mem_cons_of_mem _ (List.mem_cons_of_mem _ List.mem_cons_self)))))
  have c := (ri_ty (k := 8) (a := 34) (i := 7) (p := ((-2147483648), 2147483647)) hh rfl).2
  have r := (ri_ty (k := 0) (a := 111) (i := 2) (p := ((-2147483648), 2147483647)) hh rfl).2
  rw [← e] at r
  dsimp only at c r
  omega
theorem ty_48_7 (hh : HI HT h) (hR : RJ h) : (-2147483648) ≤ (ri h 48 7).toInt ∧ (ri h 48 7).toInt ≤ 2147483647 := by
  have e : ri h 48 7 = ri h 112 2 := (hR.1 _ (List.mem_cons_of_mem _ (List.mem_cons_of_mem _ (List.mem_cons_of_mem _ (List.mem_cons_of_mem _ (List.mem_cons_of_mem _ List.mem_cons_self))))))
  have c := (ri_ty (k := 8) (a := 48) (i := 7) (p := ((-2147483648), 2147483647)) hh rfl).2
  have r := (ri_ty (k := 0) (a := 112) (i := 2) (p := ((-2147483648), 2147483647)) hh rfl).2
  rw [← e] at r
  dsimp only at c r
  omega
theorem lf_rubbing (x1 x2 x3 : Int32) (hh : HI HT h) (hj : JT h) (hR : RJ h) : ∃ (r1 r2 : Int32) (h1 h2 : List pC), Run prog E pV1 120 mX7_rubbing [.ref 0, .int x1, .int x2, .int x3] h (some (.int r1), h1, 0, 0) ∧ Run prog E pV1 120 mX8_rubbing [.ref 110, .int x1, .int x2, .int x3] h1 (some (.int r2), h2, 0, 0) ∧ (∃ o, pobj h1 110 = some o ∧ o.1 = 8) ∧ HI HT h2 ∧ JT h2 ∧ RJ h2 := by
  obtain ⟨r, h1, h2, q1, q2, q3, p1, p2, p3, p4⟩ := pr_ok3 (E := E) (x1 := x1) (x2 := x2) (x3 := x3) cp_rubbing rfl rfl (List.cons_ne_nil _ _) (List.cons_ne_nil _ _) (fun _ h => absurd h List.not_mem_nil) hh hj hR.1 hR.2.1 ⟨i32_b x1, i32_b x2, i32_b x3, trivial⟩ (pBd.cs (ty_34_5 hh hR).1 (ty_34_5 hh hR).2 pBd.nl) (fun e he => by cases he)
  exact ⟨r, r, h1, h2, q1, q2, q3, p1, p2, p3.1, p3.2, xj_fr hR.2.2 p4 (by decide +kernel)⟩
theorem lw_rubbing (x1 x2 x3 : Int32) (hh : HI HT h) (hj : JT h) (hR : RJ h) : ∃ (r1 r2 : Int32) (h1 h2 : List pC), Run prog E pV1 120 mX7_rubbing [.ref 0, .int x1, .int x2, .int x3] h (some (.int r1), h1, 0, 0) ∧ Run prog E pV1 120 mX8_rubbing [.ref 110, .int x1, .int x2, .int x3] h1 (some (.int r2), h2, 0, 0) ∧ (∃ o, pobj h1 110 = some o ∧ o.1 = 8) ∧ HI HT h2 ∧ JT h2 ∧ RJ h2 := by
  have ex1 := i32_b x1
  have ex2 := i32_b x2
  have ex3 := i32_b x3
  have t34_5 := ty_34_5 hh hR
  exact lf_rubbing x1 x2 x3 hh hj hR
theorem lw_told (x1 x2 : Int32) (hh : HI HT h) (hj : JT h) (hR : RJ h) : ∃ (r1 r2 : Int32) (h1 h2 : List pC), Run prog E pV1 120 mX7_told [.ref 0, .int x1, .int x2] h (some (.int r1), h1, 0, 0) ∧ Run prog E pV1 120 mX8_told [.ref 110, .int x1, .int x2] h1 (some (.int r2), h2, 0, 0) ∧ (∃ o, pobj h1 110 = some o ∧ o.1 = 8) ∧ HI HT h2 ∧ JT h2 ∧ RJ h2 := by
  obtain ⟨r1, h1, q1, hh1, f1, hj1⟩ := pub_of (E := E) (a := 0) (kg_c_told JT_P hands) (N := mX7_told) rfl (List.cons_ne_nil _ _) [x1, x2] rfl (fun q => by cases q) (Nat.le_of_ble_eq_true rfl) hh hj
  obtain ⟨r2, h2, q2, hh2, f2, hj2⟩ := pub_of (E := E) (a := 110) (kg_r_told JT_P hands) (N := mX8_told) rfl (List.cons_ne_nil _ _) [x1, x2] rfl (fun q => by cases q) (Nat.le_of_ble_eq_true rfl) hh1 hj1
  exact ⟨r1, r2, h1, h2, q1, q2, mobj hh1, hh2, hj2, ⟨pRel_fr (pRel_fr hR.1 f1 (by decide +kernel)) f2 (by decide +kernel), cRel_fr (cRel_fr hR.2.1 f1 (by decide +kernel)) f2 (by decide +kernel), xj_fr (xj_fr hR.2.2 f1 (by decide +kernel)) f2 (by decide +kernel)⟩⟩
theorem lw_says (x1 x2 : Int32) (hh : HI HT h) (hj : JT h) (hR : RJ h) : ∃ (r1 r2 : Int32) (h1 h2 : List pC), Run prog E pV1 120 mX7_says [.ref 0, .int x1, .int x2] h (some (.int r1), h1, 0, 0) ∧ Run prog E pV1 120 mX8_says [.ref 110, .int x1, .int x2] h1 (some (.int r2), h2, 0, 0) ∧ (∃ o, pobj h1 110 = some o ∧ o.1 = 8) ∧ HI HT h2 ∧ JT h2 ∧ RJ h2 := by
  obtain ⟨r1, h1, q1, hh1, f1, hj1⟩ := pub_of (E := E) (a := 0) (kg_c_says JT_P hands) (N := mX7_says) rfl (List.cons_ne_nil _ _) [x1, x2] rfl (fun q => by cases q) (Nat.le_of_ble_eq_true rfl) hh hj
  obtain ⟨r2, h2, q2, hh2, f2, hj2⟩ := pub_of (E := E) (a := 110) (kg_r_says JT_P hands) (N := mX8_says) rfl (List.cons_ne_nil _ _) [x1, x2] rfl (fun q => by cases q) (Nat.le_of_ble_eq_true rfl) hh1 hj1
  exact ⟨r1, r2, h1, h2, q1, q2, mobj hh1, hh2, hj2, ⟨pRel_fr (pRel_fr hR.1 f1 (by decide +kernel)) f2 (by decide +kernel), cRel_fr (cRel_fr hR.2.1 f1 (by decide +kernel)) f2 (by decide +kernel), xj_fr (xj_fr hR.2.2 f1 (by decide +kernel)) f2 (by decide +kernel)⟩⟩
theorem lw_as (x1 x2 : Int32) (hh : HI HT h) (hj : JT h) (hR : RJ h) : ∃ (r1 r2 : Int32) (h1 h2 : List pC), Run prog E pV1 120 mX7_as [.ref 0, .int x1, .int x2] h (some (.int r1), h1, 0, 0) ∧ Run prog E pV1 120 mX8_as [.ref 110, .int x1, .int x2] h1 (some (.int r2), h2, 0, 0) ∧ (∃ o, pobj h1 110 = some o ∧ o.1 = 8) ∧ HI HT h2 ∧ JT h2 ∧ RJ h2 := by
  obtain ⟨r1, h1, q1, hh1, f1, hj1⟩ := pub_of (E := E) (a := 0) (kg_c_as JT_P hands) (N := mX7_as) rfl (List.cons_ne_nil _ _) [x1, x2] rfl (fun q => by cases q) (Nat.le_of_ble_eq_true rfl) hh hj
  obtain ⟨r2, h2, q2, hh2, f2, hj2⟩ := pub_of (E := E) (a := 110) (kg_r_as JT_P hands) (N := mX8_as) rfl (List.cons_ne_nil _ _) [x1, x2] rfl (fun q => by cases q) (Nat.le_of_ble_eq_true rfl) hh1 hj1
  exact ⟨r1, r2, h1, h2, q1, q2, mobj hh1, hh2, hj2, ⟨pRel_fr (pRel_fr hR.1 f1 (by decide +kernel)) f2 (by decide +kernel), cRel_fr (cRel_fr hR.2.1 f1 (by decide +kernel)) f2 (by decide +kernel), xj_fr (xj_fr hR.2.2 f1 (by decide +kernel)) f2 (by decide +kernel)⟩⟩
theorem lw_turns (x1 x2 : Int32) (hh : HI HT h) (hj : JT h) (hR : RJ h) : ∃ (r1 r2 : Int32) (h1 h2 : List pC), Run prog E pV1 120 mX7_turns [.ref 0, .int x1, .int x2] h (some (.int r1), h1, 0, 0) ∧ Run prog E pV1 120 mX8_turns [.ref 110, .int x1, .int x2] h1 (some (.int r2), h2, 0, 0) ∧ (∃ o, pobj h1 110 = some o ∧ o.1 = 8) ∧ HI HT h2 ∧ JT h2 ∧ RJ h2 := by
  obtain ⟨r1, h1, q1, hh1, f1, hj1⟩ := pub_of (E := E) (a := 0) (kg_c_turnsF) (N := mX7_turns) rfl (List.cons_ne_nil _ _) [x1, x2] rfl (fun q => by cases q) (Nat.le_of_ble_eq_true rfl) hh hj
  obtain ⟨r2, h2, q2, hh2, f2, hj2⟩ := pub_of (E := E) (a := 110) (kg_r_turnsF) (N := mX8_turns) rfl (List.cons_ne_nil _ _) [x1, x2] rfl (fun q => by cases q) (Nat.le_of_ble_eq_true rfl) hh1 hj1
  exact ⟨r1, r2, h1, h2, q1, q2, mobj hh1, hh2, hj2, ⟨pRel_fr (pRel_fr hR.1 f1 (by decide +kernel)) f2 (by decide +kernel), cRel_fr (cRel_fr hR.2.1 f1 (by decide +kernel)) f2 (by decide +kernel), xj_fr (xj_fr hR.2.2 f1 (by decide +kernel)) f2 (by decide +kernel)⟩⟩
theorem lw_set (x1 x2 x3 : Int32) (hh : HI HT h) (hj : JT h) (hR : RJ h) : ∃ (r1 r2 : Int32) (h1 h2 : List pC), Run prog E pV1 120 mX7_set [.ref 0, .int x1, .int x2, .int x3] h (some (.int r1), h1, 0, 0) ∧ Run prog E pV1 120 mX8_set [.ref 110, .int x1, .int x2, .int x3] h1 (some (.int r2), h2, 0, 0) ∧ (∃ o, pobj h1 110 = some o ∧ o.1 = 8) ∧ HI HT h2 ∧ JT h2 ∧ RJ h2 := by
  obtain ⟨r1, h1, q1, hh1, f1, hj1⟩ := pub_of (E := E) (a := 0) (kg_c_setF) (N := mX7_set) rfl (List.cons_ne_nil _ _) [x1, x2, x3] rfl (fun q => by cases q) (Nat.le_of_ble_eq_true rfl) hh hj
  obtain ⟨r2, h2, q2, hh2, f2, hj2⟩ := pub_of (E := E) (a := 110) (kg_r_setF) (N := mX8_set) rfl (List.cons_ne_nil _ _) [x1, x2, x3] rfl (fun q => by cases q) (Nat.le_of_ble_eq_true rfl) hh1 hj1
  exact ⟨r1, r2, h1, h2, q1, q2, mobj hh1, hh2, hj2, ⟨pRel_fr (pRel_fr hR.1 f1 (by decide +kernel)) f2 (by decide +kernel), cRel_fr (cRel_fr hR.2.1 f1 (by decide +kernel)) f2 (by decide +kernel), xj_fr (xj_fr hR.2.2 f1 (by decide +kernel)) f2 (by decide +kernel)⟩⟩
theorem lw_carve (x1 x2 : Int32) (hh : HI HT h) (hj : JT h) (hR : RJ h) : ∃ (r1 r2 : Int32) (h1 h2 : List pC), Run prog E pV1 120 mX7_carve [.ref 0, .int x1, .int x2] h (some (.int r1), h1, 0, 0) ∧ Run prog E pV1 120 mX8_carve [.ref 110, .int x1, .int x2] h1 (some (.int r2), h2, 0, 0) ∧ (∃ o, pobj h1 110 = some o ∧ o.1 = 8) ∧ HI HT h2 ∧ JT h2 ∧ RJ h2 := by
  obtain ⟨r1, h1, q1, hh1, f1, hj1⟩ := pub_of (E := E) (a := 0) (kg_c_carveF) (N := mX7_carve) rfl (List.cons_ne_nil _ _) [x1, x2] rfl (fun q => by cases q) (Nat.le_of_ble_eq_true rfl) hh hj
  obtain ⟨r2, h2, q2, hh2, f2, hj2⟩ := pub_of (E := E) (a := 110) (kg_r_carveF) (N := mX8_carve) rfl (List.cons_ne_nil _ _) [x1, x2] rfl (fun q => by cases q) (Nat.le_of_ble_eq_true rfl) hh1 hj1
  exact ⟨r1, r2, h1, h2, q1, q2, mobj hh1, hh2, hj2, ⟨pRel_fr (pRel_fr hR.1 f1 (by decide +kernel)) f2 (by decide +kernel), cRel_fr (cRel_fr hR.2.1 f1 (by decide +kernel)) f2 (by decide +kernel), xj_fr (xj_fr hR.2.2 f1 (by decide +kernel)) f2 (by decide +kernel)⟩⟩
theorem lw_carved (x1 : Int32) (hh : HI HT h) (hj : JT h) (hR : RJ h) : ∃ (r1 r2 : Int32) (h1 h2 : List pC), Run prog E pV1 120 mX7_carved [.ref 0, .int x1] h (some (.int r1), h1, 0, 0) ∧ Run prog E pV1 120 mX8_carved [.ref 110, .int x1] h1 (some (.int r2), h2, 0, 0) ∧ (∃ o, pobj h1 110 = some o ∧ o.1 = 8) ∧ HI HT h2 ∧ JT h2 ∧ RJ h2 := by
  obtain ⟨r1, h1, q1, hh1, f1, hj1⟩ := pub_of (E := E) (a := 0) (kg_c_carved JT_P hands) (N := mX7_carved) rfl (List.cons_ne_nil _ _) [x1] rfl (fun q => by cases q) (Nat.le_of_ble_eq_true rfl) hh hj
  obtain ⟨r2, h2, q2, hh2, f2, hj2⟩ := pub_of (E := E) (a := 110) (kg_r_carved JT_P hands) (N := mX8_carved) rfl (List.cons_ne_nil _ _) [x1] rfl (fun q => by cases q) (Nat.le_of_ble_eq_true rfl) hh1 hj1
  exact ⟨r1, r2, h1, h2, q1, q2, mobj hh1, hh2, hj2, ⟨pRel_fr (pRel_fr hR.1 f1 (by decide +kernel)) f2 (by decide +kernel), cRel_fr (cRel_fr hR.2.1 f1 (by decide +kernel)) f2 (by decide +kernel), xj_fr (xj_fr hR.2.2 f1 (by decide +kernel)) f2 (by decide +kernel)⟩⟩
theorem lw_deal (x1 : Int32) (hh : HI HT h) (hj : JT h) (hR : RJ h) : ∃ (r1 r2 : Int32) (h1 h2 : List pC), Run prog E pV1 120 mX7_deal [.ref 0, .int x1] h (some (.int r1), h1, 0, 0) ∧ Run prog E pV1 120 mX8_deal [.ref 110, .int x1] h1 (some (.int r2), h2, 0, 0) ∧ (∃ o, pobj h1 110 = some o ∧ o.1 = 8) ∧ HI HT h2 ∧ JT h2 ∧ RJ h2 := by
  have ex1 := i32_b x1
  by_cases c1 : x1.toInt ≤ 0
  · obtain ⟨r, h1, h2, q1, q2, q3, p1, p2, p3, p4⟩ := pr_ok1 (E := E) (x1 := x1) cp_deall rfl rfl (List.cons_ne_nil _ _) (List.cons_ne_nil _ _) (fun _ h => absurd h List.not_mem_nil) hh hj hR.1 hR.2.1 ⟨⟨by omega, by omega⟩, trivial⟩ pBd.nl (fun e he => by cases he)
    exact ⟨r, r, h1, h2, q1, q2, q3, p1, p2, p3.1, p3.2, xj_fr hR.2.2 p4 (by decide +kernel)⟩
  by_cases c2 : 10 ≤ x1.toInt
  · obtain ⟨r, h1, h2, q1, q2, q3, p1, p2, p3, p4⟩ := pr_ok1 (E := E) (x1 := x1) cp_dealh rfl rfl (List.cons_ne_nil _ _) (List.cons_ne_nil _ _) (fun _ h => absurd h List.not_mem_nil) hh hj hR.1 hR.2.1 ⟨⟨by omega, by omega⟩, trivial⟩ pBd.nl (fun e he => by cases he)
    exact ⟨r, r, h1, h2, q1, q2, q3, p1, p2, p3.1, p3.2, xj_fr hR.2.2 p4 (by decide +kernel)⟩
  have t5 := ty_34_5 hh hR
  have m5 : ri h 34 5 = ri h 111 0 := (sub_rel (R' := [((8, 34, 5), (0, 111, 0), 0, 9)]) hR.1 (by decide) _ List.mem_cons_self)
  obtain ⟨j, v1, h1, q1, b1, b2, hh1, hj1, f1, d1, d2, d3⟩ := deal_c (E := E) x1 ⟨by omega, by omega⟩ hh hj (m := (ri h 34 5).toInt.toNat) (by omega) (by omega)
  have g0 : ri h1 111 0 = ri h 111 0 := ri_fr f1 (by decide)
  obtain ⟨j', v2, h2, q2, b3, b4, hh2, hj2, f2, k1, k2, k3⟩ := deal_r (E := E) x1 ⟨by omega, by omega⟩ hh1 hj1 (m := (ri h 34 5).toInt.toNat) (by omega) (by rw [g0, ← m5]; omega)
  obtain rfl : j' = j := by omega
  obtain rfl : v2 = v1 := Int32.toInt_inj.mp (by omega)
  refine ⟨_, _, h1, h2, q1, q2, mobj hh1, hh2, hj2, fun q hq => ?_, cRel_fr (cRel_fr hR.2.1 f1 (by decide +kernel)) f2 (by decide +kernel), xj_fr (xj_fr hR.2.2 f1 (by decide +kernel)) f2 (by decide +kernel)⟩
  rcases List.mem_cons.mp hq with rfl | hq
  · show ri h2 34 5 = ri h2 111 0
    exact Int32.toInt_inj.mp (by rw [ri_fr (a := 34) (i := 5) f2 (by decide), d1, k1])
  rcases List.mem_cons.mp hq with rfl | hq
  · exact pRel_fr (pRel_fr (R := [((8, 48, 5), (0, 112, 0), 0, 9)]) (sub_rel hR.1 (by decide)) f1 (by decide +kernel)) f2 (by decide +kernel) _ List.mem_cons_self
  rcases List.mem_cons.mp hq with rfl | hq
  · exact pRel_fr (pRel_fr (R := [((9, 0, 9), (10, 110, 3), 0, 1)]) (sub_rel hR.1 (by decide)) f1 (by decide +kernel)) f2 (by decide +kernel) _ List.mem_cons_self
  rcases List.mem_cons.mp hq with rfl | hq
  · show ri h2 34 9 = ri h2 111 4
    rw [ri_fr (a := 34) (i := 9) f2 (by decide), d2, k2, ri_fr (a := 111) (i := 4) f1 (by decide)]
    exact congrArg (dzN (3 * _)) (sub_rel (R' := [((8, 34, 9), (0, 111, 4), (-2147483648), 2147483647)]) hR.1 (by decide) _ List.mem_cons_self)
  rcases List.mem_cons.mp hq with rfl | hq
  · exact pRel_fr (pRel_fr (R := [((8, 34, 7), (0, 111, 2), (-2147483648), 2147483647)]) (sub_rel hR.1 (by decide)) f1 (by decide +kernel)) f2 (by decide +kernel) _ List.mem_cons_self
  obtain rfl := List.mem_singleton.mp hq
  exact pRel_fr (pRel_fr (R := [((8, 48, 7), (0, 112, 2), (-2147483648), 2147483647)]) (sub_rel hR.1 (by decide)) f1 (by decide +kernel)) f2 (by decide +kernel) _ List.mem_cons_self
theorem lf_seed (x1 : Int32) (hh : HI HT h) (hj : JT h) (hR : RJ h) : ∃ (r : Int32) (h1 h2 : List pC), Run prog E pV1 120 mX7_seed [.ref 0, .int x1] h (some (.int r), h1, 0, 0) ∧ Run prog E pV1 120 mX8_seed [.ref 110, .int x1] h1 (some (.int r), h2, 0, 0) ∧ (∃ o, pobj h1 110 = some o ∧ o.1 = 8) ∧ HI HT h2 ∧ JT h2 ∧ RJ h2 := by
  obtain ⟨r, h1, h2, q1, q2, q3, p1, p2, p3, p4⟩ := pr_ok1 (E := E) (x1 := x1) cp_seed rfl rfl (List.cons_ne_nil _ _) (List.cons_ne_nil _ _) (fun _ h => absurd h List.not_mem_nil) hh hj hR.1 hR.2.1 ⟨i32_b x1, trivial⟩ (pBd.cs (ty_34_9 hh hR).1 (ty_34_9 hh hR).2 pBd.nl) (fun e he => by cases he)
  exact ⟨r, h1, h2, q1, q2, q3, p1, p2, p3.1, p3.2, xj_fr hR.2.2 p4 (by decide +kernel)⟩
theorem lw_seed (x1 : Int32) (hh : HI HT h) (hj : JT h) (hR : RJ h) : ∃ (r : Int32) (h1 h2 : List pC), Run prog E pV1 120 mX7_seed [.ref 0, .int x1] h (some (.int r), h1, 0, 0) ∧ Run prog E pV1 120 mX8_seed [.ref 110, .int x1] h1 (some (.int r), h2, 0, 0) ∧ (∃ o, pobj h1 110 = some o ∧ o.1 = 8) ∧ HI HT h2 ∧ JT h2 ∧ RJ h2 := by
  have ex1 := i32_b x1
  have t34_9 := ty_34_9 hh hR
  exact lf_seed x1 hh hj hR
theorem lw_falseAt (x1 x2 : Int32) (hh : HI HT h) (hj : JT h) (hR : RJ h) : ∃ (r1 r2 : Int32) (h1 h2 : List pC), Run prog E pV1 120 mX7_falseAt [.ref 0, .int x1, .int x2] h (some (.int r1), h1, 0, 0) ∧ Run prog E pV1 120 mX8_falseAt [.ref 110, .int x1, .int x2] h1 (some (.int r2), h2, 0, 0) ∧ (∃ o, pobj h1 110 = some o ∧ o.1 = 8) ∧ HI HT h2 ∧ JT h2 ∧ RJ h2 := by
  obtain ⟨r1, h1, q1, hh1, f1, hj1⟩ := pub_of (E := E) (a := 0) (kg_c_falseAt JT_P hands) (N := mX7_falseAt) rfl (List.cons_ne_nil _ _) [x1, x2] rfl (fun q => by cases q) (Nat.le_of_ble_eq_true rfl) hh hj
  obtain ⟨r2, h2, q2, hh2, f2, hj2⟩ := pub_of (E := E) (a := 110) (kg_r_falseAt JT_P hands) (N := mX8_falseAt) rfl (List.cons_ne_nil _ _) [x1, x2] rfl (fun q => by cases q) (Nat.le_of_ble_eq_true rfl) hh1 hj1
  exact ⟨r1, r2, h1, h2, q1, q2, mobj hh1, hh2, hj2, ⟨pRel_fr (pRel_fr hR.1 f1 (by decide +kernel)) f2 (by decide +kernel), cRel_fr (cRel_fr hR.2.1 f1 (by decide +kernel)) f2 (by decide +kernel), xj_fr (xj_fr hR.2.2 f1 (by decide +kernel)) f2 (by decide +kernel)⟩⟩
theorem lw_fits (x1 x2 : Int32) (hh : HI HT h) (hj : JT h) (hR : RJ h) : ∃ (r1 r2 : Int32) (h1 h2 : List pC), Run prog E pV1 120 mX7_fits [.ref 0, .int x1, .int x2] h (some (.int r1), h1, 0, 0) ∧ Run prog E pV1 120 mX8_fits [.ref 110, .int x1, .int x2] h1 (some (.int r2), h2, 0, 0) ∧ (∃ o, pobj h1 110 = some o ∧ o.1 = 8) ∧ HI HT h2 ∧ JT h2 ∧ RJ h2 := by
  obtain ⟨r1, h1, q1, hh1, f1, hj1⟩ := pub_of (E := E) (a := 0) (kg_c_fits JT_P hands) (N := mX7_fits) rfl (List.cons_ne_nil _ _) [x1, x2] rfl (fun q => by cases q) (Nat.le_of_ble_eq_true rfl) hh hj
  obtain ⟨r2, h2, q2, hh2, f2, hj2⟩ := pub_of (E := E) (a := 110) (kg_r_fits JT_P hands) (N := mX8_fits) rfl (List.cons_ne_nil _ _) [x1, x2] rfl (fun q => by cases q) (Nat.le_of_ble_eq_true rfl) hh1 hj1
  exact ⟨r1, r2, h1, h2, q1, q2, mobj hh1, hh2, hj2, ⟨pRel_fr (pRel_fr hR.1 f1 (by decide +kernel)) f2 (by decide +kernel), cRel_fr (cRel_fr hR.2.1 f1 (by decide +kernel)) f2 (by decide +kernel), xj_fr (xj_fr hR.2.2 f1 (by decide +kernel)) f2 (by decide +kernel)⟩⟩
theorem lw_join (x1 x2 x3 : Int32) (hh : HI HT h) (hj : JT h) (hR : RJ h) : ∃ (r1 r2 : Int32) (h1 h2 : List pC), Run prog E pV1 120 mX7_join [.ref 0, .int x1, .int x2, .int x3] h (some (.int r1), h1, 0, 0) ∧ Run prog E pV1 120 mX8_join [.ref 110, .int x1, .int x2, .int x3] h1 (some (.int r2), h2, 0, 0) ∧ (∃ o, pobj h1 110 = some o ∧ o.1 = 8) ∧ HI HT h2 ∧ JT h2 ∧ RJ h2 := by
  obtain ⟨r1, h1, q1, hh1, f1, hj1⟩ := pub_of (E := E) (a := 0) (kg_c_join JT_P hands) (N := mX7_join) rfl (List.cons_ne_nil _ _) [x1, x2, x3] rfl (fun q => by cases q) (Nat.le_of_ble_eq_true rfl) hh hj
  obtain ⟨r2, h2, q2, hh2, f2, hj2⟩ := pub_of (E := E) (a := 110) (kg_r_join JT_P hands) (N := mX8_join) rfl (List.cons_ne_nil _ _) [x1, x2, x3] rfl (fun q => by cases q) (Nat.le_of_ble_eq_true rfl) hh1 hj1
  exact ⟨r1, r2, h1, h2, q1, q2, mobj hh1, hh2, hj2, ⟨pRel_fr (pRel_fr hR.1 f1 (by decide +kernel)) f2 (by decide +kernel), cRel_fr (cRel_fr hR.2.1 f1 (by decide +kernel)) f2 (by decide +kernel), xj_fr (xj_fr hR.2.2 f1 (by decide +kernel)) f2 (by decide +kernel)⟩⟩
theorem lw_clash (x1 x2 : Int32) (hh : HI HT h) (hj : JT h) (hR : RJ h) : ∃ (r1 r2 : Int32) (h1 h2 : List pC), Run prog E pV1 120 mX7_clash [.ref 0, .int x1, .int x2] h (some (.int r1), h1, 0, 0) ∧ Run prog E pV1 120 mX8_clash [.ref 110, .int x1, .int x2] h1 (some (.int r2), h2, 0, 0) ∧ (∃ o, pobj h1 110 = some o ∧ o.1 = 8) ∧ HI HT h2 ∧ JT h2 ∧ RJ h2 := by
  obtain ⟨r1, h1, q1, hh1, f1, hj1⟩ := pub_of (E := E) (a := 0) (kg_c_clash JT_P hands) (N := mX7_clash) rfl (List.cons_ne_nil _ _) [x1, x2] rfl (fun q => by cases q) (Nat.le_of_ble_eq_true rfl) hh hj
  obtain ⟨r2, h2, q2, hh2, f2, hj2⟩ := pub_of (E := E) (a := 110) (kg_r_clash JT_P hands) (N := mX8_clash) rfl (List.cons_ne_nil _ _) [x1, x2] rfl (fun q => by cases q) (Nat.le_of_ble_eq_true rfl) hh1 hj1
  exact ⟨r1, r2, h1, h2, q1, q2, mobj hh1, hh2, hj2, ⟨pRel_fr (pRel_fr hR.1 f1 (by decide +kernel)) f2 (by decide +kernel), cRel_fr (cRel_fr hR.2.1 f1 (by decide +kernel)) f2 (by decide +kernel), xj_fr (xj_fr hR.2.2 f1 (by decide +kernel)) f2 (by decide +kernel)⟩⟩
theorem lw_undone (hh : HI HT h) (hj : JT h) (hR : RJ h) : ∃ (r1 r2 : Int32) (h1 h2 : List pC), Run prog E pV1 120 mX7_undone [.ref 0] h (some (.int r1), h1, 0, 0) ∧ Run prog E pV1 120 mX8_undone [.ref 110] h1 (some (.int r2), h2, 0, 0) ∧ (∃ o, pobj h1 110 = some o ∧ o.1 = 8) ∧ HI HT h2 ∧ JT h2 ∧ RJ h2 := by
  obtain ⟨r1, h1, q1, hh1, f1, hj1⟩ := pub_of (E := E) (a := 0) (kg_c_undone JT_P hands) (N := mX7_undone) rfl (List.cons_ne_nil _ _) [] rfl (fun q => by cases q) (Nat.le_of_ble_eq_true rfl) hh hj
  obtain ⟨r2, h2, q2, hh2, f2, hj2⟩ := pub_of (E := E) (a := 110) (kg_r_undone JT_P hands) (N := mX8_undone) rfl (List.cons_ne_nil _ _) [] rfl (fun q => by cases q) (Nat.le_of_ble_eq_true rfl) hh1 hj1
  exact ⟨r1, r2, h1, h2, q1, q2, mobj hh1, hh2, hj2, ⟨pRel_fr (pRel_fr hR.1 f1 (by decide +kernel)) f2 (by decide +kernel), cRel_fr (cRel_fr hR.2.1 f1 (by decide +kernel)) f2 (by decide +kernel), xj_fr (xj_fr hR.2.2 f1 (by decide +kernel)) f2 (by decide +kernel)⟩⟩
theorem lw_borne (hh : HI HT h) (hj : JT h) (hR : RJ h) : ∃ (r1 r2 : Int32) (h1 h2 : List pC), Run prog E pV1 120 mX7_borne [.ref 0] h (some (.int r1), h1, 0, 0) ∧ Run prog E pV1 120 mX8_borne [.ref 110] h1 (some (.int r2), h2, 0, 0) ∧ (∃ o, pobj h1 110 = some o ∧ o.1 = 8) ∧ HI HT h2 ∧ JT h2 ∧ RJ h2 := by
  obtain ⟨r1, h1, q1, hh1, f1, hj1⟩ := pub_of (E := E) (a := 0) (kg_c_borne JT_P hands) (N := mX7_borne) rfl (List.cons_ne_nil _ _) [] rfl (fun q => by cases q) (Nat.le_of_ble_eq_true rfl) hh hj
  obtain ⟨r2, h2, q2, hh2, f2, hj2⟩ := pub_of (E := E) (a := 110) (kg_r_borne JT_P hands) (N := mX8_borne) rfl (List.cons_ne_nil _ _) [] rfl (fun q => by cases q) (Nat.le_of_ble_eq_true rfl) hh1 hj1
  exact ⟨r1, r2, h1, h2, q1, q2, mobj hh1, hh2, hj2, ⟨pRel_fr (pRel_fr hR.1 f1 (by decide +kernel)) f2 (by decide +kernel), cRel_fr (cRel_fr hR.2.1 f1 (by decide +kernel)) f2 (by decide +kernel), xj_fr (xj_fr hR.2.2 f1 (by decide +kernel)) f2 (by decide +kernel)⟩⟩
theorem lw_look (x1 : Int32) (hh : HI HT h) (hj : JT h) (hR : RJ h) : ∃ (r1 r2 : Int32) (h1 h2 : List pC), Run prog E pV1 120 mX7_look [.ref 0, .int x1] h (some (.int r1), h1, 0, 0) ∧ Run prog E pV1 120 mX8_look [.ref 110, .int x1] h1 (some (.int r2), h2, 0, 0) ∧ (∃ o, pobj h1 110 = some o ∧ o.1 = 8) ∧ HI HT h2 ∧ JT h2 ∧ RJ h2 := by
  obtain ⟨r1, h1, q1, hh1, f1, hj1⟩ := pub_of (E := E) (a := 0) (kg_c_look JT_P hands) (N := mX7_look) rfl (List.cons_ne_nil _ _) [x1] rfl (fun q => by cases q) (Nat.le_of_ble_eq_true rfl) hh hj
  obtain ⟨r2, h2, q2, hh2, f2, hj2⟩ := pub_of (E := E) (a := 110) (kg_r_look JT_P hands) (N := mX8_look) rfl (List.cons_ne_nil _ _) [x1] rfl (fun q => by cases q) (Nat.le_of_ble_eq_true rfl) hh1 hj1
  exact ⟨r1, r2, h1, h2, q1, q2, mobj hh1, hh2, hj2, ⟨pRel_fr (pRel_fr hR.1 f1 (by decide +kernel)) f2 (by decide +kernel), cRel_fr (cRel_fr hR.2.1 f1 (by decide +kernel)) f2 (by decide +kernel), xj_fr (xj_fr hR.2.2 f1 (by decide +kernel)) f2 (by decide +kernel)⟩⟩
theorem lw_tides (x1 : Int32) (hh : HI HT h) (hj : JT h) (hR : RJ h) : ∃ (r1 r2 : Int32) (h1 h2 : List pC), Run prog E pV1 120 mX7_tides [.ref 0, .int x1] h (some (.int r1), h1, 0, 0) ∧ Run prog E pV1 120 mX8_tides [.ref 110, .int x1] h1 (some (.int r2), h2, 0, 0) ∧ (∃ o, pobj h1 110 = some o ∧ o.1 = 8) ∧ HI HT h2 ∧ JT h2 ∧ RJ h2 := by
  have ex1 := i32_b x1
  by_cases c1 : x1.toInt ≤ 0
  · obtain ⟨r, h1, h2, q1, q2, q3, p1, p2, p3, p4⟩ := pr_ok1 (E := E) (x1 := x1) cp_tidesl rfl rfl (List.cons_ne_nil _ _) (List.cons_ne_nil _ _) (fun _ h => absurd h List.not_mem_nil) hh hj hR.1 hR.2.1 ⟨⟨by omega, by omega⟩, trivial⟩ pBd.nl (fun e he => by cases he)
    exact ⟨r, r, h1, h2, q1, q2, q3, p1, p2, p3.1, p3.2, xj_fr hR.2.2 p4 (by decide +kernel)⟩
  by_cases c2 : 101 ≤ x1.toInt
  · obtain ⟨r, h1, h2, q1, q2, q3, p1, p2, p3, p4⟩ := pr_ok1 (E := E) (x1 := x1) cp_tidesh rfl rfl (List.cons_ne_nil _ _) (List.cons_ne_nil _ _) (fun _ h => absurd h List.not_mem_nil) hh hj hR.1 hR.2.1 ⟨⟨by omega, by omega⟩, trivial⟩ pBd.nl (fun e he => by cases he)
    exact ⟨r, r, h1, h2, q1, q2, q3, p1, p2, p3.1, p3.2, xj_fr hR.2.2 p4 (by decide +kernel)⟩
  obtain ⟨⟨b0, b1⟩, b2⟩ := hR.2.2
  have m2 : ri h 34 7 = ri h 111 2 := (sub_rel (R' := [((8, 34, 7), (0, 111, 2), (-2147483648), 2147483647)]) hR.1 (by decide) _ List.mem_cons_self)
  obtain ⟨v1, h1, q1, hh1, hj1, f1, j1, e1, e2, e3⟩ := tides_c (E := E) x1 ⟨by omega, by omega⟩ hh hj b0 b1
  have g2 : ri h1 111 2 = ri h 111 2 := ri_fr f1 (by decide)
  obtain ⟨v2, h2, q2, hh2, hj2, f2, j2, e4, e5, e6⟩ := tides_r (E := E) x1 ⟨by omega, by omega⟩ hh1 hj1 (by rw [g2, ← m2]; exact b0) (by rw [g2, ← m2]; exact b1)
  have ej : j1 = j2 := by
    rw [g2, ← m2] at e4
    omega
  refine ⟨v1, v2, h1, h2, q1, q2, mobj hh1, hh2, hj2, fun q hq => ?_, cRel_fr (cRel_fr hR.2.1 f1 (by decide +kernel)) f2 (by decide +kernel), ?_⟩
  rcases List.mem_cons.mp hq with rfl | hq
  · exact pRel_fr (pRel_fr (R := [((8, 34, 5), (0, 111, 0), 0, 9)]) (sub_rel hR.1 (by decide)) f1 (by decide +kernel)) f2 (by decide +kernel) _ List.mem_cons_self
  rcases List.mem_cons.mp hq with rfl | hq
  · exact pRel_fr (pRel_fr (R := [((8, 48, 5), (0, 112, 0), 0, 9)]) (sub_rel hR.1 (by decide)) f1 (by decide +kernel)) f2 (by decide +kernel) _ List.mem_cons_self
  rcases List.mem_cons.mp hq with rfl | hq
  · exact pRel_fr (pRel_fr (R := [((9, 0, 9), (10, 110, 3), 0, 1)]) (sub_rel hR.1 (by decide)) f1 (by decide +kernel)) f2 (by decide +kernel) _ List.mem_cons_self
  rcases List.mem_cons.mp hq with rfl | hq
  · show ri h2 34 9 = ri h2 111 4
    rw [ri_fr (a := 34) (i := 9) f2 (by decide), e2, e5, ri_fr (a := 111) (i := 4) f1 (by decide), ej]
    exact congrArg (dzN j2) (sub_rel (R' := [((8, 34, 9), (0, 111, 4), (-2147483648), 2147483647)]) hR.1 (by decide) _ List.mem_cons_self)
  rcases List.mem_cons.mp hq with rfl | hq
  · show ri h2 34 7 = ri h2 111 2
    exact Int32.toInt_inj.mp (by rw [ri_fr (a := 34) (i := 7) f2 (by decide), e3, e6, g2, ← m2, ej])
  obtain rfl := List.mem_singleton.mp hq
  exact pRel_fr (pRel_fr (R := [((8, 48, 7), (0, 112, 2), (-2147483648), 2147483647)]) (sub_rel hR.1 (by decide)) f1 (by decide +kernel)) f2 (by decide +kernel) _ List.mem_cons_self
  · refine ⟨?_, ?_⟩
    · unfold tdB
      rw [ri_fr (a := 34) (i := 7) f2 (by decide), e3]
      omega
    · unfold tdB
      rw [ri_fr (a := 48) (i := 7) f2 (by decide), ri_fr (a := 48) (i := 7) f1 (by decide)]
      exact b2
theorem lw_book (x1 : Int32) (hh : HI HT h) (hj : JT h) (hR : RJ h) : ∃ (r1 r2 : Int32) (h1 h2 : List pC), Run prog E pV1 120 mX7_book [.ref 0, .int x1] h (some (.int r1), h1, 0, 0) ∧ Run prog E pV1 120 mX8_book [.ref 110, .int x1] h1 (some (.int r2), h2, 0, 0) ∧ (∃ o, pobj h1 110 = some o ∧ o.1 = 8) ∧ HI HT h2 ∧ JT h2 ∧ RJ h2 := by
  obtain ⟨r1, h1, q1, hh1, f1, hj1⟩ := pub_of (E := E) (a := 0) (kg_c_book JT_P hands) (N := mX7_book) rfl (List.cons_ne_nil _ _) [x1] rfl (fun q => by cases q) (Nat.le_of_ble_eq_true rfl) hh hj
  obtain ⟨r2, h2, q2, hh2, f2, hj2⟩ := pub_of (E := E) (a := 110) (kg_r_book JT_P hands) (N := mX8_book) rfl (List.cons_ne_nil _ _) [x1] rfl (fun q => by cases q) (Nat.le_of_ble_eq_true rfl) hh1 hj1
  exact ⟨r1, r2, h1, h2, q1, q2, mobj hh1, hh2, hj2, ⟨pRel_fr (pRel_fr hR.1 f1 (by decide +kernel)) f2 (by decide +kernel), cRel_fr (cRel_fr hR.2.1 f1 (by decide +kernel)) f2 (by decide +kernel), xj_fr (xj_fr hR.2.2 f1 (by decide +kernel)) f2 (by decide +kernel)⟩⟩
theorem lw_behind (x1 x2 : Int32) (hh : HI HT h) (hj : JT h) (hR : RJ h) : ∃ (r1 r2 : Int32) (h1 h2 : List pC), Run prog E pV1 120 mX7_behind [.ref 0, .int x1, .int x2] h (some (.int r1), h1, 0, 0) ∧ Run prog E pV1 120 mX8_behind [.ref 110, .int x1, .int x2] h1 (some (.int r2), h2, 0, 0) ∧ (∃ o, pobj h1 110 = some o ∧ o.1 = 8) ∧ HI HT h2 ∧ JT h2 ∧ RJ h2 := by
  obtain ⟨r1, h1, q1, hh1, f1, hj1⟩ := pub_of (E := E) (a := 0) (kg_c_behind JT_P hands) (N := mX7_behind) rfl (List.cons_ne_nil _ _) [x1, x2] rfl (fun q => by cases q) (Nat.le_of_ble_eq_true rfl) hh hj
  obtain ⟨r2, h2, q2, hh2, f2, hj2⟩ := pub_of (E := E) (a := 110) (hd_behind hands) (N := mX8_behind) rfl (List.cons_ne_nil _ _) [x1, x2] rfl (fun q => by cases q) (Nat.le_of_ble_eq_true rfl) hh1 hj1
  exact ⟨r1, r2, h1, h2, q1, q2, mobj hh1, hh2, hj2, ⟨pRel_fr (pRel_fr hR.1 f1 (by decide +kernel)) f2 (by decide +kernel), cRel_fr (cRel_fr hR.2.1 f1 (by decide +kernel)) f2 (by decide +kernel), xj_fr (xj_fr hR.2.2 f1 (by decide +kernel)) f2 (by decide +kernel)⟩⟩
theorem lw_lasts (hh : HI HT h) (hj : JT h) (hR : RJ h) : ∃ (r1 r2 : Int32) (h1 h2 : List pC), Run prog E pV1 120 mX7_lasts [.ref 0] h (some (.int r1), h1, 0, 0) ∧ Run prog E pV1 120 mX8_lasts [.ref 110] h1 (some (.int r2), h2, 0, 0) ∧ (∃ o, pobj h1 110 = some o ∧ o.1 = 8) ∧ HI HT h2 ∧ JT h2 ∧ RJ h2 := by
  obtain ⟨r1, h1, q1, hh1, f1, hj1⟩ := pub_of (E := E) (a := 0) (kg_c_lasts JT_P hands) (N := mX7_lasts) rfl (List.cons_ne_nil _ _) [] rfl (fun q => by cases q) (Nat.le_of_ble_eq_true rfl) hh hj
  obtain ⟨r2, h2, q2, hh2, f2, hj2⟩ := pub_of (E := E) (a := 110) (hd_lasts hands) (N := mX8_lasts) rfl (List.cons_ne_nil _ _) [] rfl (fun q => by cases q) (Nat.le_of_ble_eq_true rfl) hh1 hj1
  exact ⟨r1, r2, h1, h2, q1, q2, mobj hh1, hh2, hj2, ⟨pRel_fr (pRel_fr hR.1 f1 (by decide +kernel)) f2 (by decide +kernel), cRel_fr (cRel_fr hR.2.1 f1 (by decide +kernel)) f2 (by decide +kernel), xj_fr (xj_fr hR.2.2 f1 (by decide +kernel)) f2 (by decide +kernel)⟩⟩
theorem lw_best (x1 x2 x3 : Int32) (hh : HI HT h) (hj : JT h) (hR : RJ h) : ∃ (r1 r2 : Int32) (h1 h2 : List pC), Run prog E pV1 120 mX7_best [.ref 0, .int x1, .int x2, .int x3] h (some (.int r1), h1, 0, 0) ∧ Run prog E pV1 120 mX8_best [.ref 110, .int x1, .int x2, .int x3] h1 (some (.int r2), h2, 0, 0) ∧ (∃ o, pobj h1 110 = some o ∧ o.1 = 8) ∧ HI HT h2 ∧ JT h2 ∧ RJ h2 := by
  obtain ⟨r1, h1, q1, hh1, f1, hj1⟩ := pub_of (E := E) (a := 0) (kg_c_best JT_P hands) (N := mX7_best) rfl (List.cons_ne_nil _ _) [x1, x2, x3] rfl (fun q => by cases q) (Nat.le_of_ble_eq_true rfl) hh hj
  obtain ⟨r2, h2, q2, hh2, f2, hj2⟩ := pub_of (E := E) (a := 110) (hd_best hands) (N := mX8_best) rfl (List.cons_ne_nil _ _) [x1, x2, x3] rfl (fun q => by cases q) (Nat.le_of_ble_eq_true rfl) hh1 hj1
  exact ⟨r1, r2, h1, h2, q1, q2, mobj hh1, hh2, hj2, ⟨pRel_fr (pRel_fr hR.1 f1 (by decide +kernel)) f2 (by decide +kernel), cRel_fr (cRel_fr hR.2.1 f1 (by decide +kernel)) f2 (by decide +kernel), xj_fr (xj_fr hR.2.2 f1 (by decide +kernel)) f2 (by decide +kernel)⟩⟩
theorem lw_taught (x1 x2 : Int32) (hh : HI HT h) (hj : JT h) (hR : RJ h) : ∃ (r1 r2 : Int32) (h1 h2 : List pC), Run prog E pV1 120 mX7_taught [.ref 0, .int x1, .int x2] h (some (.int r1), h1, 0, 0) ∧ Run prog E pV1 120 mX8_taught [.ref 110, .int x1, .int x2] h1 (some (.int r2), h2, 0, 0) ∧ (∃ o, pobj h1 110 = some o ∧ o.1 = 8) ∧ HI HT h2 ∧ JT h2 ∧ RJ h2 := by
  obtain ⟨r1, h1, q1, hh1, f1, hj1⟩ := pub_of (E := E) (a := 0) (kg_c_taught JT_P hands) (N := mX7_taught) rfl (List.cons_ne_nil _ _) [x1, x2] rfl (fun q => by cases q) (Nat.le_of_ble_eq_true rfl) hh hj
  obtain ⟨r2, h2, q2, hh2, f2, hj2⟩ := pub_of (E := E) (a := 110) (hd_taught hands) (N := mX8_taught) rfl (List.cons_ne_nil _ _) [x1, x2] rfl (fun q => by cases q) (Nat.le_of_ble_eq_true rfl) hh1 hj1
  exact ⟨r1, r2, h1, h2, q1, q2, mobj hh1, hh2, hj2, ⟨pRel_fr (pRel_fr hR.1 f1 (by decide +kernel)) f2 (by decide +kernel), cRel_fr (cRel_fr hR.2.1 f1 (by decide +kernel)) f2 (by decide +kernel), xj_fr (xj_fr hR.2.2 f1 (by decide +kernel)) f2 (by decide +kernel)⟩⟩
theorem lw_whose (x1 x2 : Int32) (hh : HI HT h) (hj : JT h) (hR : RJ h) : ∃ (r1 r2 : Int32) (h1 h2 : List pC), Run prog E pV1 120 mX7_whose [.ref 0, .int x1, .int x2] h (some (.int r1), h1, 0, 0) ∧ Run prog E pV1 120 mX8_whose [.ref 110, .int x1, .int x2] h1 (some (.int r2), h2, 0, 0) ∧ (∃ o, pobj h1 110 = some o ∧ o.1 = 8) ∧ HI HT h2 ∧ JT h2 ∧ RJ h2 := by
  obtain ⟨r1, h1, q1, hh1, f1, hj1⟩ := pub_of (E := E) (a := 0) (kg_c_whose JT_P hands) (N := mX7_whose) rfl (List.cons_ne_nil _ _) [x1, x2] rfl (fun q => by cases q) (Nat.le_of_ble_eq_true rfl) hh hj
  obtain ⟨r2, h2, q2, hh2, f2, hj2⟩ := pub_of (E := E) (a := 110) (kg_r_whose JT_P hands) (N := mX8_whose) rfl (List.cons_ne_nil _ _) [x1, x2] rfl (fun q => by cases q) (Nat.le_of_ble_eq_true rfl) hh1 hj1
  exact ⟨r1, r2, h1, h2, q1, q2, mobj hh1, hh2, hj2, ⟨pRel_fr (pRel_fr hR.1 f1 (by decide +kernel)) f2 (by decide +kernel), cRel_fr (cRel_fr hR.2.1 f1 (by decide +kernel)) f2 (by decide +kernel), xj_fr (xj_fr hR.2.2 f1 (by decide +kernel)) f2 (by decide +kernel)⟩⟩
theorem lw_fee (hh : HI HT h) (hj : JT h) (hR : RJ h) : ∃ (r1 r2 : Int32) (h1 h2 : List pC), Run prog E pV1 120 mX7_fee [.ref 0] h (some (.int r1), h1, 0, 0) ∧ Run prog E pV1 120 mX8_fee [.ref 110] h1 (some (.int r2), h2, 0, 0) ∧ (∃ o, pobj h1 110 = some o ∧ o.1 = 8) ∧ HI HT h2 ∧ JT h2 ∧ RJ h2 := by
  obtain ⟨r1, h1, q1, hh1, f1, hj1⟩ := pub_of (E := E) (a := 0) (kg_c_fee JT_P hands) (N := mX7_fee) rfl (List.cons_ne_nil _ _) [] rfl (fun q => by cases q) (Nat.le_of_ble_eq_true rfl) hh hj
  obtain ⟨r2, h2, q2, hh2, f2, hj2⟩ := pub_of (E := E) (a := 110) hd_fee (N := mX8_fee) rfl (List.cons_ne_nil _ _) [] rfl (fun q => by cases q) (Nat.le_of_ble_eq_true rfl) hh1 hj1
  exact ⟨r1, r2, h1, h2, q1, q2, mobj hh1, hh2, hj2, ⟨pRel_fr (pRel_fr hR.1 f1 (by decide +kernel)) f2 (by decide +kernel), cRel_fr (cRel_fr hR.2.1 f1 (by decide +kernel)) f2 (by decide +kernel), xj_fr (xj_fr hR.2.2 f1 (by decide +kernel)) f2 (by decide +kernel)⟩⟩
theorem lw_fine (x1 : Int32) (hh : HI HT h) (hj : JT h) (hR : RJ h) : ∃ (r1 r2 : Int32) (h1 h2 : List pC), Run prog E pV1 120 mX7_fine [.ref 0, .int x1] h (some (.int r1), h1, 0, 0) ∧ Run prog E pV1 120 mX8_fine [.ref 110, .int x1] h1 (some (.int r2), h2, 0, 0) ∧ (∃ o, pobj h1 110 = some o ∧ o.1 = 8) ∧ HI HT h2 ∧ JT h2 ∧ RJ h2 := by
  obtain ⟨r1, h1, q1, hh1, f1, hj1⟩ := pub_of (E := E) (a := 0) (kg_c_fine JT_P hands) (N := mX7_fine) rfl (List.cons_ne_nil _ _) [x1] rfl (fun q => by cases q) (Nat.le_of_ble_eq_true rfl) hh hj
  obtain ⟨r2, h2, q2, hh2, f2, hj2⟩ := pub_of (E := E) (a := 110) hd_fine (N := mX8_fine) rfl (List.cons_ne_nil _ _) [x1] rfl (fun q => by cases q) (Nat.le_of_ble_eq_true rfl) hh1 hj1
  exact ⟨r1, r2, h1, h2, q1, q2, mobj hh1, hh2, hj2, ⟨pRel_fr (pRel_fr hR.1 f1 (by decide +kernel)) f2 (by decide +kernel), cRel_fr (cRel_fr hR.2.1 f1 (by decide +kernel)) f2 (by decide +kernel), xj_fr (xj_fr hR.2.2 f1 (by decide +kernel)) f2 (by decide +kernel)⟩⟩
theorem lw_feed (x1 x2 x3 : Int32) (hh : HI HT h) (hj : JT h) (hR : RJ h) : ∃ (r1 r2 : Int32) (h1 h2 : List pC), Run prog E pV1 120 mX7_feed [.ref 0, .int x1, .int x2, .int x3] h (some (.int r1), h1, 0, 0) ∧ Run prog E pV1 120 mX8_feed [.ref 110, .int x1, .int x2, .int x3] h1 (some (.int r2), h2, 0, 0) ∧ (∃ o, pobj h1 110 = some o ∧ o.1 = 8) ∧ HI HT h2 ∧ JT h2 ∧ RJ h2 := by
  obtain ⟨r1, h1, q1, hh1, f1, hj1⟩ := pub_of (E := E) (a := 0) (kg_c_feed JT_P hands) (N := mX7_feed) rfl (List.cons_ne_nil _ _) [x1, x2, x3] rfl (fun q => by cases q) (Nat.le_of_ble_eq_true rfl) hh hj
  obtain ⟨r2, h2, q2, hh2, f2, hj2⟩ := pub_of (E := E) (a := 110) (kg_r_feed JT_P hands) (N := mX8_feed) rfl (List.cons_ne_nil _ _) [x1, x2, x3] rfl (fun q => by cases q) (Nat.le_of_ble_eq_true rfl) hh1 hj1
  exact ⟨r1, r2, h1, h2, q1, q2, mobj hh1, hh2, hj2, ⟨pRel_fr (pRel_fr hR.1 f1 (by decide +kernel)) f2 (by decide +kernel), cRel_fr (cRel_fr hR.2.1 f1 (by decide +kernel)) f2 (by decide +kernel), xj_fr (xj_fr hR.2.2 f1 (by decide +kernel)) f2 (by decide +kernel)⟩⟩
theorem lw_trim (x1 : Int32) (hh : HI HT h) (hj : JT h) (hR : RJ h) : ∃ (r1 r2 : Int32) (h1 h2 : List pC), Run prog E pV1 120 mX7_trim [.ref 0, .int x1] h (some (.int r1), h1, 0, 0) ∧ Run prog E pV1 120 mX8_trim [.ref 110, .int x1] h1 (some (.int r2), h2, 0, 0) ∧ (∃ o, pobj h1 110 = some o ∧ o.1 = 8) ∧ HI HT h2 ∧ JT h2 ∧ RJ h2 := by
  obtain ⟨r1, h1, q1, hh1, f1, hj1⟩ := pub_of (E := E) (a := 0) (kg_c_trim JT_P hands) (N := mX7_trim) rfl (List.cons_ne_nil _ _) [x1] rfl (fun q => by cases q) (Nat.le_of_ble_eq_true rfl) hh hj
  obtain ⟨r2, h2, q2, hh2, f2, hj2⟩ := pub_of (E := E) (a := 110) (kg_r_trim JT_P hands) (N := mX8_trim) rfl (List.cons_ne_nil _ _) [x1] rfl (fun q => by cases q) (Nat.le_of_ble_eq_true rfl) hh1 hj1
  exact ⟨r1, r2, h1, h2, q1, q2, mobj hh1, hh2, hj2, ⟨pRel_fr (pRel_fr hR.1 f1 (by decide +kernel)) f2 (by decide +kernel), cRel_fr (cRel_fr hR.2.1 f1 (by decide +kernel)) f2 (by decide +kernel), xj_fr (xj_fr hR.2.2 f1 (by decide +kernel)) f2 (by decide +kernel)⟩⟩
theorem lw_text (hh : HI HT h) (hj : JT h) (hR : RJ h) : ∃ (r1 r2 : Int32) (h1 h2 : List pC), Run prog E pV1 120 mX7_text [.ref 0] h (some (.int r1), h1, 0, 0) ∧ Run prog E pV1 120 mX8_text [.ref 110] h1 (some (.int r2), h2, 0, 0) ∧ (∃ o, pobj h1 110 = some o ∧ o.1 = 8) ∧ HI HT h2 ∧ JT h2 ∧ RJ h2 := by
  obtain ⟨r1, h1, q1, hh1, f1, hj1⟩ := pub_of (E := E) (a := 0) (kg_c_text JT_P hands) (N := mX7_text) rfl (List.cons_ne_nil _ _) [] rfl (fun q => by cases q) (Nat.le_of_ble_eq_true rfl) hh hj
  obtain ⟨r2, h2, q2, hh2, f2, hj2⟩ := pub_of (E := E) (a := 110) hd_text (N := mX8_text) rfl (List.cons_ne_nil _ _) [] rfl (fun q => by cases q) (Nat.le_of_ble_eq_true rfl) hh1 hj1
  exact ⟨r1, r2, h1, h2, q1, q2, mobj hh1, hh2, hj2, ⟨pRel_fr (pRel_fr hR.1 f1 (by decide +kernel)) f2 (by decide +kernel), cRel_fr (cRel_fr hR.2.1 f1 (by decide +kernel)) f2 (by decide +kernel), xj_fr (xj_fr hR.2.2 f1 (by decide +kernel)) f2 (by decide +kernel)⟩⟩
theorem lw_textTold (x1 x2 : Int32) (hh : HI HT h) (hj : JT h) (hR : RJ h) : ∃ (r1 r2 : Int32) (h1 h2 : List pC), Run prog E pV1 120 mX7_textTold [.ref 0, .int x1, .int x2] h (some (.int r1), h1, 0, 0) ∧ Run prog E pV1 120 mX8_textTold [.ref 110, .int x1, .int x2] h1 (some (.int r2), h2, 0, 0) ∧ (∃ o, pobj h1 110 = some o ∧ o.1 = 8) ∧ HI HT h2 ∧ JT h2 ∧ RJ h2 := by
  obtain ⟨r1, h1, q1, hh1, f1, hj1⟩ := pub_of (E := E) (a := 0) (kg_c_textTold JT_P hands) (N := mX7_textTold) rfl (List.cons_ne_nil _ _) [x1, x2] rfl (fun q => by cases q) (Nat.le_of_ble_eq_true rfl) hh hj
  obtain ⟨r2, h2, q2, hh2, f2, hj2⟩ := pub_of (E := E) (a := 110) (kg_r_textTold JT_P hands) (N := mX8_textTold) rfl (List.cons_ne_nil _ _) [x1, x2] rfl (fun q => by cases q) (Nat.le_of_ble_eq_true rfl) hh1 hj1
  exact ⟨r1, r2, h1, h2, q1, q2, mobj hh1, hh2, hj2, ⟨pRel_fr (pRel_fr hR.1 f1 (by decide +kernel)) f2 (by decide +kernel), cRel_fr (cRel_fr hR.2.1 f1 (by decide +kernel)) f2 (by decide +kernel), xj_fr (xj_fr hR.2.2 f1 (by decide +kernel)) f2 (by decide +kernel)⟩⟩
theorem lw_why (x1 : Int32) (hh : HI HT h) (hj : JT h) (hR : RJ h) : ∃ (r1 r2 : Int32) (h1 h2 : List pC), Run prog E pV1 120 mX7_why [.ref 0, .int x1] h (some (.int r1), h1, 0, 0) ∧ Run prog E pV1 120 mX8_why [.ref 110, .int x1] h1 (some (.int r2), h2, 0, 0) ∧ (∃ o, pobj h1 110 = some o ∧ o.1 = 8) ∧ HI HT h2 ∧ JT h2 ∧ RJ h2 := by
  obtain ⟨r1, h1, q1, hh1, f1, hj1⟩ := pub_of (E := E) (a := 0) (kg_c_why JT_P hands) (N := mX7_why) rfl (List.cons_ne_nil _ _) [x1] rfl (fun q => by cases q) (Nat.le_of_ble_eq_true rfl) hh hj
  obtain ⟨r2, h2, q2, hh2, f2, hj2⟩ := pub_of (E := E) (a := 110) (kg_r_why JT_P hands) (N := mX8_why) rfl (List.cons_ne_nil _ _) [x1] rfl (fun q => by cases q) (Nat.le_of_ble_eq_true rfl) hh1 hj1
  exact ⟨r1, r2, h1, h2, q1, q2, mobj hh1, hh2, hj2, ⟨pRel_fr (pRel_fr hR.1 f1 (by decide +kernel)) f2 (by decide +kernel), cRel_fr (cRel_fr hR.2.1 f1 (by decide +kernel)) f2 (by decide +kernel), xj_fr (xj_fr hR.2.2 f1 (by decide +kernel)) f2 (by decide +kernel)⟩⟩
theorem lw_sheet (x1 x2 x3 : Int32) (hh : HI HT h) (hj : JT h) (hR : RJ h) : ∃ (r1 r2 : Int32) (h1 h2 : List pC), Run prog E pV1 120 mX7_sheet [.ref 0, .int x1, .int x2, .int x3] h (some (.int r1), h1, 0, 0) ∧ Run prog E pV1 120 mX8_sheet [.ref 110, .int x1, .int x2, .int x3] h1 (some (.int r2), h2, 0, 0) ∧ (∃ o, pobj h1 110 = some o ∧ o.1 = 8) ∧ HI HT h2 ∧ JT h2 ∧ RJ h2 := by
  obtain ⟨r1, h1, q1, hh1, f1, hj1⟩ := pub_of (E := E) (a := 0) (kg_c_sheet JT_P hands) (N := mX7_sheet) rfl (List.cons_ne_nil _ _) [x1, x2, x3] rfl (fun q => by cases q) (Nat.le_of_ble_eq_true rfl) hh hj
  obtain ⟨r2, h2, q2, hh2, f2, hj2⟩ := pub_of (E := E) (a := 110) (kg_r_sheet JT_P hands) (N := mX8_sheet) rfl (List.cons_ne_nil _ _) [x1, x2, x3] rfl (fun q => by cases q) (Nat.le_of_ble_eq_true rfl) hh1 hj1
  exact ⟨r1, r2, h1, h2, q1, q2, mobj hh1, hh2, hj2, ⟨pRel_fr (pRel_fr hR.1 f1 (by decide +kernel)) f2 (by decide +kernel), cRel_fr (cRel_fr hR.2.1 f1 (by decide +kernel)) f2 (by decide +kernel), xj_fr (xj_fr hR.2.2 f1 (by decide +kernel)) f2 (by decide +kernel)⟩⟩
theorem lw_mark (x1 x2 x3 : Int32) (hh : HI HT h) (hj : JT h) (hR : RJ h) : ∃ (r1 r2 : Int32) (h1 h2 : List pC), Run prog E pV1 120 mX7_mark [.ref 0, .int x1, .int x2, .int x3] h (some (.int r1), h1, 0, 0) ∧ Run prog E pV1 120 mX8_mark [.ref 110, .int x1, .int x2, .int x3] h1 (some (.int r2), h2, 0, 0) ∧ (∃ o, pobj h1 110 = some o ∧ o.1 = 8) ∧ HI HT h2 ∧ JT h2 ∧ RJ h2 := by
  obtain ⟨r1, h1, q1, hh1, f1, hj1⟩ := pub_of (E := E) (a := 0) (kg_c_mark JT_P hands) (N := mX7_mark) rfl (List.cons_ne_nil _ _) [x1, x2, x3] rfl (fun q => by cases q) (Nat.le_of_ble_eq_true rfl) hh hj
  obtain ⟨r2, h2, q2, hh2, f2, hj2⟩ := pub_of (E := E) (a := 110) (kg_r_mark JT_P hands) (N := mX8_mark) rfl (List.cons_ne_nil _ _) [x1, x2, x3] rfl (fun q => by cases q) (Nat.le_of_ble_eq_true rfl) hh1 hj1
  exact ⟨r1, r2, h1, h2, q1, q2, mobj hh1, hh2, hj2, ⟨pRel_fr (pRel_fr hR.1 f1 (by decide +kernel)) f2 (by decide +kernel), cRel_fr (cRel_fr hR.2.1 f1 (by decide +kernel)) f2 (by decide +kernel), xj_fr (xj_fr hR.2.2 f1 (by decide +kernel)) f2 (by decide +kernel)⟩⟩
theorem lw_pour (x1 : Int32) (hh : HI HT h) (hj : JT h) (hR : RJ h) : ∃ (r1 r2 : Int32) (h1 h2 : List pC), Run prog E pV1 120 mX7_pour [.ref 0, .int x1] h (some (.int r1), h1, 0, 0) ∧ Run prog E pV1 120 mX8_pour [.ref 110, .int x1] h1 (some (.int r2), h2, 0, 0) ∧ (∃ o, pobj h1 110 = some o ∧ o.1 = 8) ∧ HI HT h2 ∧ JT h2 ∧ RJ h2 := by
  obtain ⟨r1, h1, q1, hh1, f1, hj1⟩ := pub_of (E := E) (a := 0) (kg_c_pourF) (N := mX7_pour) rfl (List.cons_ne_nil _ _) [x1] rfl (fun q => by cases q) (Nat.le_of_ble_eq_true rfl) hh hj
  obtain ⟨r2, h2, q2, hh2, f2, hj2⟩ := pub_of (E := E) (a := 110) (kg_r_pourF) (N := mX8_pour) rfl (List.cons_ne_nil _ _) [x1] rfl (fun q => by cases q) (Nat.le_of_ble_eq_true rfl) hh1 hj1
  exact ⟨r1, r2, h1, h2, q1, q2, mobj hh1, hh2, hj2, ⟨pRel_fr (pRel_fr hR.1 f1 (by decide +kernel)) f2 (by decide +kernel), cRel_fr (cRel_fr hR.2.1 f1 (by decide +kernel)) f2 (by decide +kernel), xj_fr (xj_fr hR.2.2 f1 (by decide +kernel)) f2 (by decide +kernel)⟩⟩
theorem lw_reads (x1 : Int32) (hh : HI HT h) (hj : JT h) (hR : RJ h) : ∃ (r1 r2 : Int32) (h1 h2 : List pC), Run prog E pV1 120 mX7_reads [.ref 0, .int x1] h (some (.int r1), h1, 0, 0) ∧ Run prog E pV1 120 mX8_reads [.ref 110, .int x1] h1 (some (.int r2), h2, 0, 0) ∧ (∃ o, pobj h1 110 = some o ∧ o.1 = 8) ∧ HI HT h2 ∧ JT h2 ∧ RJ h2 := by
  obtain ⟨r1, h1, q1, hh1, f1, hj1⟩ := pub_of (E := E) (a := 0) (kg_c_reads JT_P hands) (N := mX7_reads) rfl (List.cons_ne_nil _ _) [x1] rfl (fun q => by cases q) (Nat.le_of_ble_eq_true rfl) hh hj
  obtain ⟨r2, h2, q2, hh2, f2, hj2⟩ := pub_of (E := E) (a := 110) (kg_r_reads JT_P hands) (N := mX8_reads) rfl (List.cons_ne_nil _ _) [x1] rfl (fun q => by cases q) (Nat.le_of_ble_eq_true rfl) hh1 hj1
  exact ⟨r1, r2, h1, h2, q1, q2, mobj hh1, hh2, hj2, ⟨pRel_fr (pRel_fr hR.1 f1 (by decide +kernel)) f2 (by decide +kernel), cRel_fr (cRel_fr hR.2.1 f1 (by decide +kernel)) f2 (by decide +kernel), xj_fr (xj_fr hR.2.2 f1 (by decide +kernel)) f2 (by decide +kernel)⟩⟩
theorem lw_copy (x1 x2 x3 x4 x5 : Int32) (hh : HI HT h) (hj : JT h) (hR : RJ h) : ∃ (r1 r2 : Int32) (h1 h2 : List pC), Run prog E pV1 120 mX7_copy [.ref 0, .int x1, .int x2, .int x3, .int x4, .int x5] h (some (.int r1), h1, 0, 0) ∧ Run prog E pV1 120 mX8_copy [.ref 110, .int x1, .int x2, .int x3, .int x4, .int x5] h1 (some (.int r2), h2, 0, 0) ∧ (∃ o, pobj h1 110 = some o ∧ o.1 = 8) ∧ HI HT h2 ∧ JT h2 ∧ RJ h2 := by
  obtain ⟨r1, h1, q1, hh1, f1, hj1⟩ := pub_of (E := E) (a := 0) (kg_c_copy JT_P hands) (N := mX7_copy) rfl (List.cons_ne_nil _ _) [x1, x2, x3, x4, x5] rfl (fun q => by cases q) (Nat.le_of_ble_eq_true rfl) hh hj
  obtain ⟨r2, h2, q2, hh2, f2, hj2⟩ := pub_of (E := E) (a := 110) hd_copy (N := mX8_copy) rfl (List.cons_ne_nil _ _) [x1, x2, x3, x4, x5] rfl (fun q => by cases q) (Nat.le_of_ble_eq_true rfl) hh1 hj1
  exact ⟨r1, r2, h1, h2, q1, q2, mobj hh1, hh2, hj2, ⟨pRel_fr (pRel_fr hR.1 f1 (by decide +kernel)) f2 (by decide +kernel), cRel_fr (cRel_fr hR.2.1 f1 (by decide +kernel)) f2 (by decide +kernel), xj_fr (xj_fr hR.2.2 f1 (by decide +kernel)) f2 (by decide +kernel)⟩⟩
theorem lw_lay (x1 x2 x3 : Int32) (hh : HI HT h) (hj : JT h) (hR : RJ h) : ∃ (r1 r2 : Int32) (h1 h2 : List pC), Run prog E pV1 120 mX7_lay [.ref 0, .int x1, .int x2, .int x3] h (some (.int r1), h1, 0, 0) ∧ Run prog E pV1 120 mX8_lay [.ref 110, .int x1, .int x2, .int x3] h1 (some (.int r2), h2, 0, 0) ∧ (∃ o, pobj h1 110 = some o ∧ o.1 = 8) ∧ HI HT h2 ∧ JT h2 ∧ RJ h2 := by
  obtain ⟨r1, h1, q1, hh1, f1, hj1⟩ := pub_of (E := E) (a := 0) (kg_c_lay JT_P hands) (N := mX7_lay) rfl (List.cons_ne_nil _ _) [x1, x2, x3] rfl (fun q => by cases q) (Nat.le_of_ble_eq_true rfl) hh hj
  obtain ⟨r2, h2, q2, hh2, f2, hj2⟩ := pub_of (E := E) (a := 110) (kg_r_lay JT_P hands) (N := mX8_lay) rfl (List.cons_ne_nil _ _) [x1, x2, x3] rfl (fun q => by cases q) (Nat.le_of_ble_eq_true rfl) hh1 hj1
  exact ⟨r1, r2, h1, h2, q1, q2, mobj hh1, hh2, hj2, ⟨pRel_fr (pRel_fr hR.1 f1 (by decide +kernel)) f2 (by decide +kernel), cRel_fr (cRel_fr hR.2.1 f1 (by decide +kernel)) f2 (by decide +kernel), xj_fr (xj_fr hR.2.2 f1 (by decide +kernel)) f2 (by decide +kernel)⟩⟩
theorem lw_ask (x1 x2 : Int32) (hh : HI HT h) (hj : JT h) (hR : RJ h) : ∃ (r1 r2 : Int32) (h1 h2 : List pC), Run prog E pV1 120 mX7_ask [.ref 0, .int x1, .int x2] h (some (.int r1), h1, 0, 0) ∧ Run prog E pV1 120 mX8_ask [.ref 110, .int x1, .int x2] h1 (some (.int r2), h2, 0, 0) ∧ (∃ o, pobj h1 110 = some o ∧ o.1 = 8) ∧ HI HT h2 ∧ JT h2 ∧ RJ h2 := by
  obtain ⟨r1, h1, q1, hh1, f1, hj1⟩ := pub_of (E := E) (a := 0) (kg_c_ask JT_P hands) (N := mX7_ask) rfl (List.cons_ne_nil _ _) [x1, x2] rfl (fun q => by cases q) (Nat.le_of_ble_eq_true rfl) hh hj
  obtain ⟨r2, h2, q2, hh2, f2, hj2⟩ := pub_of (E := E) (a := 110) (kg_r_ask JT_P hands) (N := mX8_ask) rfl (List.cons_ne_nil _ _) [x1, x2] rfl (fun q => by cases q) (Nat.le_of_ble_eq_true rfl) hh1 hj1
  exact ⟨r1, r2, h1, h2, q1, q2, mobj hh1, hh2, hj2, ⟨pRel_fr (pRel_fr hR.1 f1 (by decide +kernel)) f2 (by decide +kernel), cRel_fr (cRel_fr hR.2.1 f1 (by decide +kernel)) f2 (by decide +kernel), xj_fr (xj_fr hR.2.2 f1 (by decide +kernel)) f2 (by decide +kernel)⟩⟩
theorem lw_item (x1 x2 : Int32) (hh : HI HT h) (hj : JT h) (hR : RJ h) : ∃ (r1 r2 : Int32) (h1 h2 : List pC), Run prog E pV1 120 mX7_item [.ref 0, .int x1, .int x2] h (some (.int r1), h1, 0, 0) ∧ Run prog E pV1 120 mX8_item [.ref 110, .int x1, .int x2] h1 (some (.int r2), h2, 0, 0) ∧ (∃ o, pobj h1 110 = some o ∧ o.1 = 8) ∧ HI HT h2 ∧ JT h2 ∧ RJ h2 := by
  obtain ⟨r1, h1, q1, hh1, f1, hj1⟩ := pub_of (E := E) (a := 0) (kg_c_item JT_P hands) (N := mX7_item) rfl (List.cons_ne_nil _ _) [x1, x2] rfl (fun q => by cases q) (Nat.le_of_ble_eq_true rfl) hh hj
  obtain ⟨r2, h2, q2, hh2, f2, hj2⟩ := pub_of (E := E) (a := 110) (kg_r_item JT_P hands) (N := mX8_item) rfl (List.cons_ne_nil _ _) [x1, x2] rfl (fun q => by cases q) (Nat.le_of_ble_eq_true rfl) hh1 hj1
  exact ⟨r1, r2, h1, h2, q1, q2, mobj hh1, hh2, hj2, ⟨pRel_fr (pRel_fr hR.1 f1 (by decide +kernel)) f2 (by decide +kernel), cRel_fr (cRel_fr hR.2.1 f1 (by decide +kernel)) f2 (by decide +kernel), xj_fr (xj_fr hR.2.2 f1 (by decide +kernel)) f2 (by decide +kernel)⟩⟩
theorem lw_rest (x1 x2 : Int32) (hh : HI HT h) (hj : JT h) (hR : RJ h) : ∃ (r1 r2 : Int32) (h1 h2 : List pC), Run prog E pV1 120 mX7_rest [.ref 0, .int x1, .int x2] h (some (.int r1), h1, 0, 0) ∧ Run prog E pV1 120 mX8_rest [.ref 110, .int x1, .int x2] h1 (some (.int r2), h2, 0, 0) ∧ (∃ o, pobj h1 110 = some o ∧ o.1 = 8) ∧ HI HT h2 ∧ JT h2 ∧ RJ h2 := by
  obtain ⟨r1, h1, q1, hh1, f1, hj1⟩ := pub_of (E := E) (a := 0) (kg_c_rest JT_P hands) (N := mX7_rest) rfl (List.cons_ne_nil _ _) [x1, x2] rfl (fun q => by cases q) (Nat.le_of_ble_eq_true rfl) hh hj
  obtain ⟨r2, h2, q2, hh2, f2, hj2⟩ := pub_of (E := E) (a := 110) (kg_r_rest JT_P hands) (N := mX8_rest) rfl (List.cons_ne_nil _ _) [x1, x2] rfl (fun q => by cases q) (Nat.le_of_ble_eq_true rfl) hh1 hj1
  exact ⟨r1, r2, h1, h2, q1, q2, mobj hh1, hh2, hj2, ⟨pRel_fr (pRel_fr hR.1 f1 (by decide +kernel)) f2 (by decide +kernel), cRel_fr (cRel_fr hR.2.1 f1 (by decide +kernel)) f2 (by decide +kernel), xj_fr (xj_fr hR.2.2 f1 (by decide +kernel)) f2 (by decide +kernel)⟩⟩
theorem lw_tell (x1 : Int32) (hh : HI HT h) (hj : JT h) (hR : RJ h) : ∃ (r1 r2 : Int32) (h1 h2 : List pC), Run prog E pV1 120 mX7_tell [.ref 0, .int x1] h (some (.int r1), h1, 0, 0) ∧ Run prog E pV1 120 mX8_tell [.ref 110, .int x1] h1 (some (.int r2), h2, 0, 0) ∧ (∃ o, pobj h1 110 = some o ∧ o.1 = 8) ∧ HI HT h2 ∧ JT h2 ∧ RJ h2 := by
  obtain ⟨r1, h1, q1, hh1, f1, hj1⟩ := pub_of (E := E) (a := 0) (kg_c_tell JT_P hands) (N := mX7_tell) rfl (List.cons_ne_nil _ _) [x1] rfl (fun q => by cases q) (Nat.le_of_ble_eq_true rfl) hh hj
  obtain ⟨r2, h2, q2, hh2, f2, hj2⟩ := pub_of (E := E) (a := 110) (kg_r_tell JT_P hands) (N := mX8_tell) rfl (List.cons_ne_nil _ _) [x1] rfl (fun q => by cases q) (Nat.le_of_ble_eq_true rfl) hh1 hj1
  exact ⟨r1, r2, h1, h2, q1, q2, mobj hh1, hh2, hj2, ⟨pRel_fr (pRel_fr hR.1 f1 (by decide +kernel)) f2 (by decide +kernel), cRel_fr (cRel_fr hR.2.1 f1 (by decide +kernel)) f2 (by decide +kernel), xj_fr (xj_fr hR.2.2 f1 (by decide +kernel)) f2 (by decide +kernel)⟩⟩
theorem lw_check (x1 : Int32) (hh : HI HT h) (hj : JT h) (hR : RJ h) : ∃ (r1 r2 : Int32) (h1 h2 : List pC), Run prog E pV1 120 mX7_check [.ref 0, .int x1] h (some (.int r1), h1, 0, 0) ∧ Run prog E pV1 120 mX8_check [.ref 110, .int x1] h1 (some (.int r2), h2, 0, 0) ∧ (∃ o, pobj h1 110 = some o ∧ o.1 = 8) ∧ HI HT h2 ∧ JT h2 ∧ RJ h2 := by
  obtain ⟨r1, h1, q1, hh1, f1, hj1⟩ := pub_of (E := E) (a := 0) (kg_c_check JT_P hands) (N := mX7_check) rfl (List.cons_ne_nil _ _) [x1] rfl (fun q => by cases q) (Nat.le_of_ble_eq_true rfl) hh hj
  obtain ⟨r2, h2, q2, hh2, f2, hj2⟩ := pub_of (E := E) (a := 110) (hd_check hands) (N := mX8_check) rfl (List.cons_ne_nil _ _) [x1] rfl (fun q => by cases q) (Nat.le_of_ble_eq_true rfl) hh1 hj1
  exact ⟨r1, r2, h1, h2, q1, q2, mobj hh1, hh2, hj2, ⟨pRel_fr (pRel_fr hR.1 f1 (by decide +kernel)) f2 (by decide +kernel), cRel_fr (cRel_fr hR.2.1 f1 (by decide +kernel)) f2 (by decide +kernel), xj_fr (xj_fr hR.2.2 f1 (by decide +kernel)) f2 (by decide +kernel)⟩⟩
theorem lw_keep (hh : HI HT h) (hj : JT h) (hR : RJ h) : ∃ (r1 r2 : Int32) (h1 h2 : List pC), Run prog E pV1 120 mX7_keep [.ref 0] h (some (.int r1), h1, 0, 0) ∧ Run prog E pV1 120 mX8_keep [.ref 110] h1 (some (.int r2), h2, 0, 0) ∧ (∃ o, pobj h1 110 = some o ∧ o.1 = 8) ∧ HI HT h2 ∧ JT h2 ∧ RJ h2 := by
  obtain ⟨r1, h1, q1, hh1, hj1, f1, z0, z1, z2, zi, zr⟩ := ox_ok (E := E) (xs := []) (R' := ro_keep) (Q := fun r h' => ri h' 48 5 = ri h 34 5 ∧ ri h' 48 9 = ri h 34 9 ∧ ri h' 48 7 = ri h 34 7 ∧ ri h' 0 9 = 1 ∧ r = some (.int (ri h 34 5))) ox_keep rfl (fun _ h => absurd h List.not_mem_nil) hj hh (sub_rel hR.1 (by decide)) (pBd_ty hh (sub_rel hR.1 (by decide)) (by decide +kernel)) trivial (fun e he => by cases he) (fun σ Γ C Δ x r h' he ha _ hC _ hr => by
    obtain ⟨a1, u, a2, a3⟩ := ecV_ok he hC hr
    have s1 : σ 1 = (ri h 34 5).toInt := ha 1 (by decide)
    have s2 : σ 2 = (ri h 34 9).toInt := ha 2 (by decide)
    have s3 : σ 3 = (ri h 34 7).toInt := ha 3 (by decide)
    refine ⟨Int32.toInt_inj.mp ((zsy (a1 _ List.mem_cons_self)).trans s1), Int32.toInt_inj.mp ((zsy (a1 _ (List.mem_cons_of_mem _ List.mem_cons_self))).trans s2), Int32.toInt_inj.mp ((zsy (a1 _ (List.mem_cons_of_mem _ (List.mem_cons_of_mem _ List.mem_cons_self)))).trans s3), Int32.toInt_inj.mp (zcn (a1 _ (List.mem_cons_of_mem _ (List.mem_cons_of_mem _ (List.mem_cons_of_mem _ List.mem_cons_self))))), ?_⟩
    rw [a2, Int32.toInt_inj.mp ((zsy (a3 _ rfl)).trans s1)])
  obtain ⟨h2, q2, hh2, hj2, f2, k1, k2⟩ := keep_x (E := E) hh1 hj1
  have e0 : ri h 34 5 = ri h 111 0 := (sub_rel (R' := [((8, 34, 5), (0, 111, 0), 0, 9)]) hR.1 (by decide) _ List.mem_cons_self)
  have e1 : ri h1 111 0 = ri h 111 0 := ri_fr f1 (by decide)
  subst zr
  rw [e1, ← e0] at q2
  refine ⟨_, _, h1, h2, q1, q2, mobj hh1, hh2, hj2, fun q hq => ?_, (fun c hc b1 b2 => ?_), ⟨by unfold tdB; rw [ri_fr (a := 34) (i := 7) f2 (by decide), ri_fr (a := 34) (i := 7) f1 (by decide)]; exact hR.2.2.1, by unfold tdB; rw [ri_fr (a := 48) (i := 7) f2 (by decide), z2]; exact hR.2.2.1⟩⟩
  · rcases List.mem_cons.mp hq with rfl | hq
    · exact pRel_fr (pRel_fr (R := [((8, 34, 5), (0, 111, 0), 0, 9)]) (sub_rel hR.1 (by decide)) f1 (by decide +kernel)) f2 (by decide +kernel) _ List.mem_cons_self
    rcases List.mem_cons.mp hq with rfl | hq
    · show ri h2 48 5 = ri h2 112 0
      rw [ri_fr (a := 48) (i := 5) f2 (by decide), z0, k1 0 (by decide), ri_fr (a := 111) (i := 0) f1 (by decide)]
      exact (sub_rel (R' := [((8, 34, 5), (0, 111, 0), 0, 9)]) hR.1 (by decide) _ List.mem_cons_self)
    rcases List.mem_cons.mp hq with rfl | hq
    · show ri h2 0 9 = ri h2 110 3
      rw [ri_fr (a := 0) (i := 9) f2 (by decide), zi, k2]
    rcases List.mem_cons.mp hq with rfl | hq
    · exact pRel_fr (pRel_fr (R := [((8, 34, 9), (0, 111, 4), (-2147483648), 2147483647)]) (sub_rel hR.1 (by decide)) f1 (by decide +kernel)) f2 (by decide +kernel) _ List.mem_cons_self
    rcases List.mem_cons.mp hq with rfl | hq
    · exact pRel_fr (pRel_fr (R := [((8, 34, 7), (0, 111, 2), (-2147483648), 2147483647)]) (sub_rel hR.1 (by decide)) f1 (by decide +kernel)) f2 (by decide +kernel) _ List.mem_cons_self
    obtain rfl := List.mem_singleton.mp hq
    show ri h2 48 7 = ri h2 112 2
    rw [ri_fr (a := 48) (i := 7) f2 (by decide), z2, k1 2 (by decide), ri_fr (a := 111) (i := 2) f1 (by decide)]
    exact (sub_rel (R' := [((8, 34, 7), (0, 111, 2), (-2147483648), 2147483647)]) hR.1 (by decide) _ List.mem_cons_self)
  · obtain rfl := List.mem_singleton.mp hc
    show ri h2 48 9 = ri h2 112 4
    rw [ri_fr (a := 48) (i := 9) f2 (by decide), z1, k1 4 (by decide), ri_fr (a := 111) (i := 4) f1 (by decide)]
    exact (sub_rel (R' := [((8, 34, 9), (0, 111, 4), (-2147483648), 2147483647)]) hR.1 (by decide) _ List.mem_cons_self)
theorem lw_back (hh : HI HT h) (hj : JT h) (hR : RJ h) : ∃ (r1 r2 : Int32) (h1 h2 : List pC), Run prog E pV1 120 mX7_back [.ref 0] h (some (.int r1), h1, 0, 0) ∧ Run prog E pV1 120 mX8_back [.ref 110] h1 (some (.int r2), h2, 0, 0) ∧ (∃ o, pobj h1 110 = some o ∧ o.1 = 8) ∧ HI HT h2 ∧ JT h2 ∧ RJ h2 := by
  have t9 : 0 ≤ (ri h 0 9).toInt ∧ (ri h 0 9).toInt ≤ 1 := pBd_ty (R := [((9, 0, 9), (10, 110, 3), 0, 1)]) hh (sub_rel hR.1 (by decide)) (by decide +kernel) _ List.mem_cons_self
  have e9 : ri h 0 9 = ri h 110 3 := (sub_rel (R' := [((9, 0, 9), (10, 110, 3), 0, 1)]) hR.1 (by decide) _ List.mem_cons_self)
  by_cases c9 : (ri h 0 9).toInt ≤ 0
  · have z9 : ri h 110 3 = 0 := by
      rw [← e9]
      exact Int32.toInt_inj.mp (by rw [show (0 : Int32).toInt = 0 by decide]; omega)
    obtain ⟨r1, h1, q1, hh1, hj1, f1, z3⟩ := ox_ok (E := E) (xs := []) (R' := ro_back0) (Q := fun r h' => r = some (.int (-1000000002))) ox_back0 rfl (fun _ h => absurd h List.not_mem_nil) hj hh (sub_rel hR.1 (by decide)) (pBd.cs t9.1 c9 pBd.nl) trivial (fun e he => by cases he) (fun σ Γ C Δ x r h' he ha _ hC _ hr => by
      obtain ⟨a1, u, a2, a3⟩ := ecV_ok he hC hr
      rw [a2, show u = -1000000002 from Int32.toInt_inj.mp ((zcn (a3 _ rfl)).trans (by decide))])
    obtain ⟨h2, q2, hh2, hj2, f2, k1, k2⟩ := back_x (E := E) hh1 hj1
    have e3 : ri h1 110 3 = 0 := (ri_fr f1 (by decide)).trans z9
    subst z3
    rw [if_pos e3] at q2
    have hR1 : pRel RL h1 := pRel_fr hR.1 f1 (by decide)
    refine ⟨_, _, h1, h2, q1, q2, mobj hh1, hh2, hj2, fun q hq => ?_, cRel_fr (cRel_fr hR.2.1 f1 (by decide +kernel)) f2 (by decide +kernel), xj_fr (xj_fr hR.2.2 f1 (by decide +kernel)) f2 (by decide +kernel)⟩
    rcases List.mem_cons.mp hq with rfl | hq
    · show ri h2 34 5 = ri h2 111 0
      rw [ri_fr (a := 34) (i := 5) f2 (by decide), k1 e3 0]
      exact hR1 _ List.mem_cons_self
    rcases List.mem_cons.mp hq with rfl | hq
    · exact pRel_fr (pRel_fr (R := [((8, 48, 5), (0, 112, 0), 0, 9)]) (sub_rel hR.1 (by decide)) f1 (by decide +kernel)) f2 (by decide +kernel) _ List.mem_cons_self
    rcases List.mem_cons.mp hq with rfl | hq
    · exact pRel_fr (pRel_fr (R := [((9, 0, 9), (10, 110, 3), 0, 1)]) (sub_rel hR.1 (by decide)) f1 (by decide +kernel)) f2 (by decide +kernel) _ List.mem_cons_self
    rcases List.mem_cons.mp hq with rfl | hq
    · show ri h2 34 9 = ri h2 111 4
      rw [ri_fr (a := 34) (i := 9) f2 (by decide), k1 e3 4]
      exact hR1 _ (List.mem_cons_of_mem _ (List.mem_cons_of_mem _ (List.mem_cons_of_mem _ List.mem_cons_self)))
    rcases List.mem_cons.mp hq with rfl | hq
    · show ri h2 34 7 = ri h2 111 2
      rw [ri_fr (a := 34) (i := 7) f2 (by decide), k1 e3 2]
      exact hR1 _ (List.mem_cons_of_mem _ (List.mem_cons_of_mem _ (List.mem_cons_of_mem _ (List.mem_cons_of_mem _ List.mem_cons_self))))
    obtain rfl := List.mem_singleton.mp hq
    exact pRel_fr (pRel_fr (R := [((8, 48, 7), (0, 112, 2), (-2147483648), 2147483647)]) (sub_rel hR.1 (by decide)) f1 (by decide +kernel)) f2 (by decide +kernel) _ List.mem_cons_self
  · have hB1 : pBd ro_back1 h := pBd.cs (ty_48_5 hh hR).1 (ty_48_5 hh hR).2 (pBd.cs (i32_b _).1 (i32_b _).2 (pBd.cs (ty_48_7 hh hR).1 (ty_48_7 hh hR).2 (pBd.cs (by show (1 : Int) ≤ (ri h 0 9).toInt; omega) t9.2 pBd.nl)))
    obtain ⟨r1, h1, q1, hh1, hj1, f1, z0, z1, z2, zr⟩ := ox_ok (E := E) (xs := []) (R' := ro_back1) (Q := fun r h' => ri h' 34 5 = ri h 48 5 ∧ ri h' 34 9 = ri h 48 9 ∧ ri h' 34 7 = ri h 48 7 ∧ r = some (.int (ri h 48 5))) ox_back1 rfl (fun _ h => absurd h List.not_mem_nil) hj hh (kn_rel hR.1 hR.2.1 hB1 (by decide +kernel)) hB1 trivial (fun e he => by cases he) (fun σ Γ C Δ x r h' he ha _ hC _ hr => by
      obtain ⟨a1, u, a2, a3⟩ := ecV_ok he hC hr
      have s1 : σ 1 = (ri h 48 5).toInt := ha 1 (by decide)
      have s2 : σ 2 = (ri h 48 9).toInt := ha 2 (by decide)
      have s3 : σ 3 = (ri h 48 7).toInt := ha 3 (by decide)
      refine ⟨Int32.toInt_inj.mp ((zsy (a1 _ List.mem_cons_self)).trans s1), Int32.toInt_inj.mp ((zsy (a1 _ (List.mem_cons_of_mem _ List.mem_cons_self))).trans s2), Int32.toInt_inj.mp ((zsy (a1 _ (List.mem_cons_of_mem _ (List.mem_cons_of_mem _ List.mem_cons_self)))).trans s3), ?_⟩
      rw [a2, Int32.toInt_inj.mp ((zsy (a3 _ rfl)).trans s1)])
    obtain ⟨h2, q2, hh2, hj2, f2, k1, k2⟩ := back_x (E := E) hh1 hj1
    have n3 : ¬ ri h1 110 3 = 0 := fun e => c9 (by
      rw [e9, ← ri_fr (a := 110) (i := 3) f1 (by decide), e]
      decide)
    subst zr
    have e8 : ri h 48 5 = ri h 112 0 := (sub_rel (R' := [((8, 48, 5), (0, 112, 0), 0, 9)]) hR.1 (by decide) _ List.mem_cons_self)
    have e1 : ri h1 112 0 = ri h 112 0 := ri_fr f1 (by decide)
    rw [if_neg n3, e1, ← e8] at q2
    refine ⟨_, _, h1, h2, q1, q2, mobj hh1, hh2, hj2, fun q hq => ?_, cRel_fr (cRel_fr hR.2.1 f1 (by decide +kernel)) f2 (by decide +kernel), ⟨by unfold tdB; rw [ri_fr (a := 34) (i := 7) f2 (by decide), z2]; exact hR.2.2.2, by unfold tdB; rw [ri_fr (a := 48) (i := 7) f2 (by decide), ri_fr (a := 48) (i := 7) f1 (by decide)]; exact hR.2.2.2⟩⟩
    rcases List.mem_cons.mp hq with rfl | hq
    · show ri h2 34 5 = ri h2 111 0
      rw [ri_fr (a := 34) (i := 5) f2 (by decide), z0, k2 n3 0 (by decide), ri_fr (a := 112) (i := 0) f1 (by decide)]
      exact (sub_rel (R' := [((8, 48, 5), (0, 112, 0), 0, 9)]) hR.1 (by decide) _ List.mem_cons_self)
    rcases List.mem_cons.mp hq with rfl | hq
    · exact pRel_fr (pRel_fr (R := [((8, 48, 5), (0, 112, 0), 0, 9)]) (sub_rel hR.1 (by decide)) f1 (by decide +kernel)) f2 (by decide +kernel) _ List.mem_cons_self
    rcases List.mem_cons.mp hq with rfl | hq
    · exact pRel_fr (pRel_fr (R := [((9, 0, 9), (10, 110, 3), 0, 1)]) (sub_rel hR.1 (by decide)) f1 (by decide +kernel)) f2 (by decide +kernel) _ List.mem_cons_self
    rcases List.mem_cons.mp hq with rfl | hq
    · show ri h2 34 9 = ri h2 111 4
      rw [ri_fr (a := 34) (i := 9) f2 (by decide), z1, k2 n3 4 (by decide), ri_fr (a := 112) (i := 4) f1 (by decide)]
      exact hR.2.1 _ List.mem_cons_self (by show (1 : Int) ≤ (ri h 0 9).toInt; omega) t9.2
    rcases List.mem_cons.mp hq with rfl | hq
    · show ri h2 34 7 = ri h2 111 2
      rw [ri_fr (a := 34) (i := 7) f2 (by decide), z2, k2 n3 2 (by decide), ri_fr (a := 112) (i := 2) f1 (by decide)]
      exact (sub_rel (R' := [((8, 48, 7), (0, 112, 2), (-2147483648), 2147483647)]) hR.1 (by decide) _ List.mem_cons_self)
    obtain rfl := List.mem_singleton.mp hq
    exact pRel_fr (pRel_fr (R := [((8, 48, 7), (0, 112, 2), (-2147483648), 2147483647)]) (sub_rel hR.1 (by decide)) f1 (by decide +kernel)) f2 (by decide +kernel) _ List.mem_cons_self
theorem lw_count (x1 : Int32) (hh : HI HT h) (hj : JT h) (hR : RJ h) : ∃ (r1 r2 : Int32) (h1 h2 : List pC), Run prog E pV1 120 mX7_count [.ref 0, .int x1] h (some (.int r1), h1, 0, 0) ∧ Run prog E pV1 120 mX8_count [.ref 110, .int x1] h1 (some (.int r2), h2, 0, 0) ∧ (∃ o, pobj h1 110 = some o ∧ o.1 = 8) ∧ HI HT h2 ∧ JT h2 ∧ RJ h2 := by
  obtain ⟨r1, h1, q1, hh1, f1, hj1⟩ := pub_of (E := E) (a := 0) (kg_c_count JT_P hands) (N := mX7_count) rfl (List.cons_ne_nil _ _) [x1] rfl (fun q => by cases q) (Nat.le_of_ble_eq_true rfl) hh hj
  obtain ⟨r2, h2, q2, hh2, f2, hj2⟩ := pub_of (E := E) (a := 110) (kg_r_count JT_P hands) (N := mX8_count) rfl (List.cons_ne_nil _ _) [x1] rfl (fun q => by cases q) (Nat.le_of_ble_eq_true rfl) hh1 hj1
  exact ⟨r1, r2, h1, h2, q1, q2, mobj hh1, hh2, hj2, ⟨pRel_fr (pRel_fr hR.1 f1 (by decide +kernel)) f2 (by decide +kernel), cRel_fr (cRel_fr hR.2.1 f1 (by decide +kernel)) f2 (by decide +kernel), xj_fr (xj_fr hR.2.2 f1 (by decide +kernel)) f2 (by decide +kernel)⟩⟩
end LWS
