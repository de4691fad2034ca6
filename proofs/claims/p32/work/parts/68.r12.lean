/-! ===== what each pair of calls does: the methods ===== -/
section LWS
variable {E : pX} {h : List pC}
theorem rub_ty {a : Nat} (hh : HI HT h) (he : elT HT 6 a 2 2 = some (.inl (1, 8))) : 1 ≤ (ri h a 2).toInt ∧ (ri h a 2).toInt ≤ 8 := (ri_ty hh he).2
theorem ty_34_5 (hh : HI HT h) (hR : RJ h) : 0 ≤ (ri h 34 5).toInt ∧ (ri h 34 5).toInt ≤ 9 := by
  have e : ri h 34 5 = ri h 111 0 := (hR.1 _ (List.mem_append_left _ List.mem_cons_self))
  have c := (ri_ty (k := 8) (a := 34) (i := 5) (p := (0, 9)) hh rfl).2
  have r := (ri_ty (k := 0) (a := 111) (i := 0) (p := (0, 9)) hh rfl).2
  rw [← e] at r
  dsimp only at c r
  omega
theorem ty_48_5 (hh : HI HT h) (hR : RJ h) : 0 ≤ (ri h 48 5).toInt ∧ (ri h 48 5).toInt ≤ 9 := by
  have e : ri h 48 5 = ri h 112 0 := (hR.1 _ (List.mem_append_left _ (List.mem_cons_of_mem _ List.mem_cons_self)))
  have c := (ri_ty (k := 8) (a := 48) (i := 5) (p := (0, 9)) hh rfl).2
  have r := (ri_ty (k := 0) (a := 112) (i := 0) (p := (0, 9)) hh rfl).2
  rw [← e] at r
  dsimp only at c r
  omega
theorem ty_0_9 (hh : HI HT h) (hR : RJ h) : 0 ≤ (ri h 0 9).toInt ∧ (ri h 0 9).toInt ≤ 1 := by
  have e : ri h 0 9 = ri h 110 3 := (hR.1 _ (List.mem_append_left _ (List.mem_cons_of_mem _ (List.mem_cons_of_mem _ List.mem_cons_self))))
  have c := (ri_ty (k := 9) (a := 0) (i := 9) (p := (0, 1)) hh rfl).2
  have r := (ri_ty (k := 10) (a := 110) (i := 3) (p := (0, 1)) hh rfl).2
  rw [← e] at r
  dsimp only at c r
  omega
theorem ty_34_6 (hh : HI HT h) (hR : RJ h) : 0 ≤ (ri h 34 6).toInt ∧ (ri h 34 6).toInt ≤ 14 := by
  have e : ri h 34 6 = ri h 111 1 := (hR.1 _ (List.mem_append_left _ (List.mem_cons_of_mem _ (List.mem_cons_of_mem _ (List.mem_cons_of_mem _ List.mem_cons_self)))))
  have c := (ri_ty (k := 8) (a := 34) (i := 6) (p := ((-2147483648), 2147483647)) hh rfl).2
  have r := (ri_ty (k := 0) (a := 111) (i := 1) (p := (0, 14)) hh rfl).2
  rw [← e] at r
  dsimp only at c r
  omega
theorem ty_48_6 (hh : HI HT h) (hR : RJ h) : 0 ≤ (ri h 48 6).toInt ∧ (ri h 48 6).toInt ≤ 14 := by
  have e : ri h 48 6 = ri h 112 1 := (hR.1 _ (List.mem_append_left _ (List.mem_cons_of_mem _ (List.mem_cons_of_mem _ (List.mem_cons_of_mem _ (List.mem_cons_of_mem _ List.mem_cons_self))))))
  have c := (ri_ty (k := 8) (a := 48) (i := 6) (p := ((-2147483648), 2147483647)) hh rfl).2
  have r := (ri_ty (k := 0) (a := 112) (i := 1) (p := (0, 14)) hh rfl).2
  rw [← e] at r
  dsimp only at c r
  omega
theorem ty_76_1 (hh : HI HT h) (hR : RJ h) : 0 ≤ (ri h 76 1).toInt ∧ (ri h 76 1).toInt ≤ 96 := by
  have e : ri h 76 1 = ri h 110 15 := (hR.1 _ (List.mem_append_left _ (List.mem_cons_of_mem _ (List.mem_cons_of_mem _ (List.mem_cons_of_mem _ (List.mem_cons_of_mem _ (List.mem_cons_of_mem _ List.mem_cons_self)))))))
  have c := (ri_ty (k := 4) (a := 76) (i := 1) (p := ((-2147483648), 2147483647)) hh rfl).2
  have r := (ri_ty (k := 10) (a := 110) (i := 15) (p := (0, 96)) hh rfl).2
  rw [← e] at r
  dsimp only at c r
  omega
theorem lf_rubbing (x1 x2 x3 : Int32) (hh : HI HT h) (hj : JT h) (hR : RJ h) : ∃ (r1 r2 : Int32) (h1 h2 : List pC), Run prog E pV1 120 mX7_rubbing [.ref 0, .int x1, .int x2, .int x3] h (some (.int r1), h1, 0, 0) ∧ Run prog E pV1 120 mX8_rubbing [.ref 110, .int x1, .int x2, .int x3] h1 (some (.int r2), h2, 0, 0) ∧ (∃ o, pobj h1 110 = some o ∧ o.1 = 8) ∧ HI HT h2 ∧ JT h2 ∧ RJ h2 := by
  obtain ⟨r, h1, h2, q1, q2, q3, p1, p2, p3, p4⟩ := pr_ok3 (E := E) (x1 := x1) (x2 := x2) (x3 := x3) cp_rubbing rfl rfl (List.cons_ne_nil _ _) (List.cons_ne_nil _ _) (fun _ h => absurd h List.not_mem_nil) hh hj hR.1 hR.2.1 ⟨i32_b x1, i32_b x2, i32_b x3, trivial⟩ (pBd.cs (ty_34_5 hh hR).1 (ty_34_5 hh hR).2 pBd.nl) (fun e he => by cases he)
  exact ⟨r, r, h1, h2, q1, q2, q3, p1, p2, p3.1, p3.2, xj_fr hR.2.2 p4 (by decide +kernel)⟩
theorem lw_rubbing (x1 x2 x3 : Int32) (hh : HI HT h) (hj : JT h) (hR : RJ h) : ∃ (r1 r2 : Int32) (h1 h2 : List pC), Run prog E pV1 120 mX7_rubbing [.ref 0, .int x1, .int x2, .int x3] h (some (.int r1), h1, 0, 0) ∧ Run prog E pV1 120 mX8_rubbing [.ref 110, .int x1, .int x2, .int x3] h1 (some (.int r2), h2, 0, 0) ∧ (∃ o, pobj h1 110 = some o ∧ o.1 = 8) ∧ HI HT h2 ∧ JT h2 ∧ RJ h2 := by
  have ex1 := i32_b x1
  have ex2 := i32_b x2
  have ex3 := i32_b x3
  have t34_5 := ty_34_5 hh hR
  exact lf_rubbing x1 x2 x3 hh hj hR
theorem lw_told (x1 x2 : Int32) (hh : HI HT h) (hj : JT h) (hR : RJ h) : ∃ (r1 r2 : Int32) (h1 h2 : List pC), Run prog E pV1 120 mX7_told [.ref 0, .int x1, .int x2] h (some (.int r1), h1, 0, 0) ∧ Run prog E pV1 120 mX8_told [.ref 110, .int x1, .int x2] h1 (some (.int r2), h2, 0, 0) ∧ (∃ o, pobj h1 110 = some o ∧ o.1 = 8) ∧ HI HT h2 ∧ JT h2 ∧ RJ h2 := by
  obtain ⟨r1, h1, q1, hh1, f1, hj1⟩ := pub_of (E := E) (a := 0) (kg_c_told JT_P hands) (N := mX7_told) rfl (List.cons_ne_nil _ _) [x1, x2] rfl (fun q => by cases q) (Nat.le_of_ble_eq_true rfl) hh hj
  obtain ⟨r2, h2, q2, hh2, f2, hj2⟩ := pub_of (E := E) (a := 110) (kg_r_told JT_P hands) (N := mX8_told) rfl (List.cons_ne_nil _ _) [x1, x2] rfl (fun q => by cases q) (Nat.le_of_ble_eq_true rfl) hh1 hj1
  exact ⟨r1, r2, h1, h2, q1, q2, mobj hh1, hh2, hj2, ⟨pRel_fr (pRel_fr hR.1 f1 (by decide +kernel)) f2 (by decide +kernel), cRel_fr (cRel_fr hR.2.1 f1 (by decide +kernel)) f2 (by decide +kernel), xj_fr (xj_fr hR.2.2 f1 (by decide +kernel)) f2 (by decide +kernel)⟩⟩
theorem lw_says (x1 x2 : Int32) (hh : HI HT h) (hj : JT h) (hR : RJ h) : ∃ (r1 r2 : Int32) (h1 h2 : List pC), Run prog E pV1 120 mX7_says [.ref 0, .int x1, .int x2] h (some (.int r1), h1, 0, 0) ∧ Run prog E pV1 120 mX8_says [.ref 110, .int x1, .int x2] h1 (some (.int r2), h2, 0, 0) ∧ (∃ o, pobj h1 110 = some o ∧ o.1 = 8) ∧ HI HT h2 ∧ JT h2 ∧ RJ h2 := by
  obtain ⟨r1, h1, q1, hh1, f1, hj1⟩ := pub_of (E := E) (a := 0) (kg_c_says JT_P hands) (N := mX7_says) rfl (List.cons_ne_nil _ _) [x1, x2] rfl (fun q => by cases q) (Nat.le_of_ble_eq_true rfl) hh hj
  obtain ⟨r2, h2, q2, hh2, f2, hj2⟩ := pub_of (E := E) (a := 110) (kg_r_says JT_P hands) (N := mX8_says) rfl (List.cons_ne_nil _ _) [x1, x2] rfl (fun q => by cases q) (Nat.le_of_ble_eq_true rfl) hh1 hj1
  exact ⟨r1, r2, h1, h2, q1, q2, mobj hh1, hh2, hj2, ⟨pRel_fr (pRel_fr hR.1 f1 (by decide +kernel)) f2 (by decide +kernel), cRel_fr (cRel_fr hR.2.1 f1 (by decide +kernel)) f2 (by decide +kernel), xj_fr (xj_fr hR.2.2 f1 (by decide +kernel)) f2 (by decide +kernel)⟩⟩
theorem lw_as (x1 x2 : Int32) (hh : HI HT h) (hj : JT h) (hR : RJ h) : ∃ (r1 r2 : Int32) (h1 h2 : List pC), Run prog E pV1 120 mX7_as [.ref 0, .int x1, .int x2] h (some (.int r1), h1, 0, 0) ∧ Run prog E pV1 120 mX8_as [.ref 110, .int x1, .int x2] h1 (some (.int r2), h2, 0, 0) ∧ (∃ o, pobj h1 110 = some o ∧ o.1 = 8) ∧ HI HT h2 ∧ JT h2 ∧ RJ h2 := by
  obtain ⟨r1, h1, q1, hh1, f1, hj1⟩ := pub_of (E := E) (a := 0) (kg_c_as JT_P hands) (N := mX7_as) rfl (List.cons_ne_nil _ _) [x1, x2] rfl (fun q => by cases q) (Nat.le_of_ble_eq_true rfl) hh hj
  obtain ⟨r2, h2, q2, hh2, f2, hj2⟩ := pub_of (E := E) (a := 110) (kg_r_as JT_P hands) (N := mX8_as) rfl (List.cons_ne_nil _ _) [x1, x2] rfl (fun q => by cases q) (Nat.le_of_ble_eq_true rfl) hh1 hj1
  exact ⟨r1, r2, h1, h2, q1, q2, mobj hh1, hh2, hj2, ⟨pRel_fr (pRel_fr hR.1 f1 (by decide +kernel)) f2 (by decide +kernel), cRel_fr (cRel_fr hR.2.1 f1 (by decide +kernel)) f2 (by decide +kernel), xj_fr (xj_fr hR.2.2 f1 (by decide +kernel)) f2 (by decide +kernel)⟩⟩
theorem lw_turns (x1 x2 : Int32) (hh : HI HT h) (hj : JT h) (hR : RJ h) : ∃ (r1 r2 : Int32) (h1 h2 : List pC), Run prog E pV1 120 mX7_turns [.ref 0, .int x1, .int x2] h (some (.int r1), h1, 0, 0) ∧ Run prog E pV1 120 mX8_turns [.ref 110, .int x1, .int x2] h1 (some (.int r2), h2, 0, 0) ∧ (∃ o, pobj h1 110 = some o ∧ o.1 = 8) ∧ HI HT h2 ∧ JT h2 ∧ RJ h2 := by
  obtain ⟨r1, h1, q1, hh1, f1, hj1⟩ := pub_of (E := E) (a := 0) (kg_c_turnsF) (N := mX7_turns) rfl (List.cons_ne_nil _ _) [x1, x2] rfl (fun q => by cases q) (Nat.le_of_ble_eq_true rfl) hh hj
  obtain ⟨r2, h2, q2, hh2, f2, hj2⟩ := pub_of (E := E) (a := 110) (kg_r_turnsF) (N := mX8_turns) rfl (List.cons_ne_nil _ _) [x1, x2] rfl (fun q => by cases q) (Nat.le_of_ble_eq_true rfl) hh1 hj1
  exact ⟨r1, r2, h1, h2, q1, q2, mobj hh1, hh2, hj2, ⟨pRel_fr (pRel_fr hR.1 f1 (by decide +kernel)) f2 (by decide +kernel), cRel_fr (cRel_fr hR.2.1 f1 (by decide +kernel)) f2 (by decide +kernel), xj_fr (xj_fr hR.2.2 f1 (by decide +kernel)) f2 (by decide +kernel)⟩⟩
theorem lw_set (x1 x2 x3 : Int32) (hh : HI HT h) (hj : JT h) (hR : RJ h) : ∃ (r1 r2 : Int32) (h1 h2 : List pC), Run prog E pV1 120 mX7_set [.ref 0, .int x1, .int x2, .int x3] h (some (.int r1), h1, 0, 0) ∧ Run prog E pV1 120 mX8_set [.ref 110, .int x1, .int x2, .int x3] h1 (some (.int r2), h2, 0, 0) ∧ (∃ o, pobj h1 110 = some o ∧ o.1 = 8) ∧ HI HT h2 ∧ JT h2 ∧ RJ h2 := by
  obtain ⟨r1, h1, q1, hh1, f1, hj1⟩ := pub_of (E := E) (a := 0) (kg_c_setF) (N := mX7_set) rfl (List.cons_ne_nil _ _) [x1, x2, x3] rfl (fun q => by cases q) (Nat.le_of_ble_eq_true rfl) hh hj
  obtain ⟨r2, h2, q2, hh2, f2, hj2⟩ := pub_of (E := E) (a := 110) (kg_r_setF) (N := mX8_set) rfl (List.cons_ne_nil _ _) [x1, x2, x3] rfl (fun q => by cases q) (Nat.le_of_ble_eq_true rfl) hh1 hj1
  exact ⟨r1, r2, h1, h2, q1, q2, mobj hh1, hh2, hj2, ⟨pRel_fr (pRel_fr hR.1 f1 (by decide +kernel)) f2 (by decide +kernel), cRel_fr (cRel_fr hR.2.1 f1 (by decide +kernel)) f2 (by decide +kernel), xj_fr (xj_fr hR.2.2 f1 (by decide +kernel)) f2 (by decide +kernel)⟩⟩
theorem lw_carve (x1 x2 : Int32) (hh : HI HT h) (hj : JT h) (hR : RJ h) : ∃ (r1 r2 : Int32) (h1 h2 : List pC), Run prog E pV1 120 mX7_carve [.ref 0, .int x1, .int x2] h (some (.int r1), h1, 0, 0) ∧ Run prog E pV1 120 mX8_carve [.ref 110, .int x1, .int x2] h1 (some (.int r2), h2, 0, 0) ∧ (∃ o, pobj h1 110 = some o ∧ o.1 = 8) ∧ HI HT h2 ∧ JT h2 ∧ RJ h2 := by
  obtain ⟨r1, h1, q1, hh1, f1, hj1⟩ := pub_of (E := E) (a := 0) (kg_c_carveF) (N := mX7_carve) rfl (List.cons_ne_nil _ _) [x1, x2] rfl (fun q => by cases q) (Nat.le_of_ble_eq_true rfl) hh hj
  obtain ⟨r2, h2, q2, hh2, f2, hj2⟩ := pub_of (E := E) (a := 110) (kg_r_carveF) (N := mX8_carve) rfl (List.cons_ne_nil _ _) [x1, x2] rfl (fun q => by cases q) (Nat.le_of_ble_eq_true rfl) hh1 hj1
  exact ⟨r1, r2, h1, h2, q1, q2, mobj hh1, hh2, hj2, ⟨pRel_fr (pRel_fr hR.1 f1 (by decide +kernel)) f2 (by decide +kernel), cRel_fr (cRel_fr hR.2.1 f1 (by decide +kernel)) f2 (by decide +kernel), xj_fr (xj_fr hR.2.2 f1 (by decide +kernel)) f2 (by decide +kernel)⟩⟩
theorem lw_carved (x1 : Int32) (hh : HI HT h) (hj : JT h) (hR : RJ h) : ∃ (r1 r2 : Int32) (h1 h2 : List pC), Run prog E pV1 120 mX7_carved [.ref 0, .int x1] h (some (.int r1), h1, 0, 0) ∧ Run prog E pV1 120 mX8_carved [.ref 110, .int x1] h1 (some (.int r2), h2, 0, 0) ∧ (∃ o, pobj h1 110 = some o ∧ o.1 = 8) ∧ HI HT h2 ∧ JT h2 ∧ RJ h2 := by
  obtain ⟨r1, h1, q1, hh1, f1, hj1⟩ := pub_of (E := E) (a := 0) (kg_c_carved JT_P hands) (N := mX7_carved) rfl (List.cons_ne_nil _ _) [x1] rfl (fun q => by cases q) (Nat.le_of_ble_eq_true rfl) hh hj
  obtain ⟨r2, h2, q2, hh2, f2, hj2⟩ := pub_of (E := E) (a := 110) (kg_r_carved JT_P hands) (N := mX8_carved) rfl (List.cons_ne_nil _ _) [x1] rfl (fun q => by cases q) (Nat.le_of_ble_eq_true rfl) hh1 hj1
  exact ⟨r1, r2, h1, h2, q1, q2, mobj hh1, hh2, hj2, ⟨pRel_fr (pRel_fr hR.1 f1 (by decide +kernel)) f2 (by decide +kernel), cRel_fr (cRel_fr hR.2.1 f1 (by decide +kernel)) f2 (by decide +kernel), xj_fr (xj_fr hR.2.2 f1 (by decide +kernel)) f2 (by decide +kernel)⟩⟩
theorem lw_deal (x1 : Int32) (hh : HI HT h) (hj : JT h) (hR : RJ h) : ∃ (r1 r2 : Int32) (h1 h2 : List pC), Run prog E pV1 120 mX7_deal [.ref 0, .int x1] h (some (.int r1), h1, 0, 0) ∧ Run prog E pV1 120 mX8_deal [.ref 110, .int x1] h1 (some (.int r2), h2, 0, 0) ∧ (∃ o, pobj h1 110 = some o ∧ o.1 = 8) ∧ HI HT h2 ∧ JT h2 ∧ RJ h2 := by
  have ex1 := i32_b x1
  by_cases c1 : x1.toInt ≤ 0
  · obtain ⟨r, h1, h2, q1, q2, q3, p1, p2, p3, p4⟩ := pr_ok1 (E := E) (x1 := x1) cp_deall rfl rfl (List.cons_ne_nil _ _) (List.cons_ne_nil _ _) (fun _ h => absurd h List.not_mem_nil) hh hj hR.1 hR.2.1 ⟨⟨by omega, by omega⟩, trivial⟩ pBd.nl (fun e he => by cases he)
    exact ⟨r, r, h1, h2, q1, q2, q3, p1, p2, p3.1, p3.2, xj_fr hR.2.2 p4 (by decide +kernel)⟩
  by_cases c2 : 10 ≤ x1.toInt
  · obtain ⟨r, h1, h2, q1, q2, q3, p1, p2, p3, p4⟩ := pr_ok1 (E := E) (x1 := x1) cp_dealh rfl rfl (List.cons_ne_nil _ _) (List.cons_ne_nil _ _) (fun _ h => absurd h List.not_mem_nil) hh hj hR.1 hR.2.1 ⟨⟨by omega, by omega⟩, trivial⟩ pBd.nl (fun e he => by cases he)
    exact ⟨r, r, h1, h2, q1, q2, q3, p1, p2, p3.1, p3.2, xj_fr hR.2.2 p4 (by decide +kernel)⟩
  have t5 := ty_34_5 hh hR
  have m5 : ri h 34 5 = ri h 111 0 := (sub_rel (R' := [((8, 34, 5), (0, 111, 0), 0, 9)]) hR.1 (by decide) _ List.mem_cons_self)
  obtain ⟨j, v1, h1, q1, b1, b2, hh1, hj1, f1, d1, d2, d3⟩ := deal_c (E := E) x1 ⟨by omega, by omega⟩ hh hj (m := (ri h 34 5).toInt.toNat) (by omega) (by omega)
  have g0 : ri h1 111 0 = ri h 111 0 := ri_fr f1 (by decide)
  obtain ⟨j', v2, h2, q2, b3, b4, hh2, hj2, f2, k1, k2, k3⟩ := deal_r (E := E) x1 ⟨by omega, by omega⟩ hh1 hj1 (m := (ri h 34 5).toInt.toNat) (by omega) (by rw [g0, ← m5]; omega)
  obtain rfl : j' = j := by omega
  obtain rfl : v2 = v1 := Int32.toInt_inj.mp (by omega)
  refine ⟨_, _, h1, h2, q1, q2, mobj hh1, hh2, hj2, fun q hq => ?_, cRel_fr (cRel_fr hR.2.1 f1 (by decide +kernel)) f2 (by decide +kernel), xj_fr (xj_fr hR.2.2 f1 (by decide +kernel)) f2 (by decide +kernel)⟩
  rcases List.mem_append.mp hq with hq | hq
  · rcases List.mem_cons.mp hq with rfl | hq
    · show ri h2 34 5 = ri h2 111 0
      exact Int32.toInt_inj.mp (by rw [ri_fr (a := 34) (i := 5) f2 (by decide), d1, k1])
    rcases List.mem_cons.mp hq with rfl | hq
    · exact pRel_fr (pRel_fr (R := [((8, 48, 5), (0, 112, 0), 0, 9)]) (sub_rel hR.1 (by decide)) f1 (by decide +kernel)) f2 (by decide +kernel) _ List.mem_cons_self
    rcases List.mem_cons.mp hq with rfl | hq
    · exact pRel_fr (pRel_fr (R := [((9, 0, 9), (10, 110, 3), 0, 1)]) (sub_rel hR.1 (by decide)) f1 (by decide +kernel)) f2 (by decide +kernel) _ List.mem_cons_self
    rcases List.mem_cons.mp hq with rfl | hq
    · exact pRel_fr (pRel_fr (R := [((8, 34, 6), (0, 111, 1), 0, 14)]) (sub_rel hR.1 (by decide)) f1 (by decide +kernel)) f2 (by decide +kernel) _ List.mem_cons_self
    rcases List.mem_cons.mp hq with rfl | hq
    · exact pRel_fr (pRel_fr (R := [((8, 48, 6), (0, 112, 1), 0, 14)]) (sub_rel hR.1 (by decide)) f1 (by decide +kernel)) f2 (by decide +kernel) _ List.mem_cons_self
    rcases List.mem_cons.mp hq with rfl | hq
    · exact pRel_fr (pRel_fr (R := [((4, 76, 1), (10, 110, 15), 0, 96)]) (sub_rel hR.1 (by decide)) f1 (by decide +kernel)) f2 (by decide +kernel) _ List.mem_cons_self
    rcases List.mem_cons.mp hq with rfl | hq
    · exact pRel_fr (pRel_fr (R := [((0, 38, 0), (0, 38, 0), (-2147483648), 2147483647)]) (sub_rel hR.1 (by decide)) f1 (by decide +kernel)) f2 (by decide +kernel) _ List.mem_cons_self
    rcases List.mem_cons.mp hq with rfl | hq
    · exact pRel_fr (pRel_fr (R := [((0, 38, 1), (0, 38, 1), (-2147483648), 2147483647)]) (sub_rel hR.1 (by decide)) f1 (by decide +kernel)) f2 (by decide +kernel) _ List.mem_cons_self
    rcases List.mem_cons.mp hq with rfl | hq
    · exact pRel_fr (pRel_fr (R := [((0, 38, 2), (0, 38, 2), (-2147483648), 2147483647)]) (sub_rel hR.1 (by decide)) f1 (by decide +kernel)) f2 (by decide +kernel) _ List.mem_cons_self
    rcases List.mem_cons.mp hq with rfl | hq
    · exact pRel_fr (pRel_fr (R := [((0, 52, 0), (0, 52, 0), (-2147483648), 2147483647)]) (sub_rel hR.1 (by decide)) f1 (by decide +kernel)) f2 (by decide +kernel) _ List.mem_cons_self
    rcases List.mem_cons.mp hq with rfl | hq
    · exact pRel_fr (pRel_fr (R := [((0, 52, 1), (0, 52, 1), (-2147483648), 2147483647)]) (sub_rel hR.1 (by decide)) f1 (by decide +kernel)) f2 (by decide +kernel) _ List.mem_cons_self
    obtain rfl := List.mem_singleton.mp hq
    exact pRel_fr (pRel_fr (R := [((0, 52, 2), (0, 52, 2), (-2147483648), 2147483647)]) (sub_rel hR.1 (by decide)) f1 (by decide +kernel)) f2 (by decide +kernel) _ List.mem_cons_self
  · exact pRel_fr (pRel_fr (R := TPs) (rl_t hR.1) f1 (by decide +kernel)) f2 (by decide +kernel) q hq
theorem lw_seed (x1 : Int32) (hh : HI HT h) (hj : JT h) (hR : RJ h) : ∃ (r1 r2 : Int32) (h1 h2 : List pC), Run prog E pV1 120 mX7_seed [.ref 0, .int x1] h (some (.int r1), h1, 0, 0) ∧ Run prog E pV1 120 mX8_seed [.ref 110, .int x1] h1 (some (.int r2), h2, 0, 0) ∧ (∃ o, pobj h1 110 = some o ∧ o.1 = 8) ∧ HI HT h2 ∧ JT h2 ∧ RJ h2 := by
  obtain ⟨r1, h1, q1, hh1, f1, hj1⟩ := pub_of (E := E) (a := 0) (kg_c_seedF) (N := mX7_seed) rfl (List.cons_ne_nil _ _) [x1] rfl (fun q => by cases q) (Nat.le_of_ble_eq_true rfl) hh hj
  obtain ⟨r2, h2, q2, hh2, f2, hj2⟩ := pub_of (E := E) (a := 110) (kg_r_seedF) (N := mX8_seed) rfl (List.cons_ne_nil _ _) [x1] rfl (fun q => by cases q) (Nat.le_of_ble_eq_true rfl) hh1 hj1
  exact ⟨r1, r2, h1, h2, q1, q2, mobj hh1, hh2, hj2, ⟨pRel_fr (pRel_fr hR.1 f1 (by decide +kernel)) f2 (by decide +kernel), cRel_fr (cRel_fr hR.2.1 f1 (by decide +kernel)) f2 (by decide +kernel), xj_fr (xj_fr hR.2.2 f1 (by decide +kernel)) f2 (by decide +kernel)⟩⟩
theorem lw_falseAt (x1 x2 : Int32) (hh : HI HT h) (hj : JT h) (hR : RJ h) : ∃ (r1 r2 : Int32) (h1 h2 : List pC), Run prog E pV1 120 mX7_falseAt [.ref 0, .int x1, .int x2] h (some (.int r1), h1, 0, 0) ∧ Run prog E pV1 120 mX8_falseAt [.ref 110, .int x1, .int x2] h1 (some (.int r2), h2, 0, 0) ∧ (∃ o, pobj h1 110 = some o ∧ o.1 = 8) ∧ HI HT h2 ∧ JT h2 ∧ RJ h2 := by
  obtain ⟨r1, h1, q1, hh1, f1, hj1⟩ := pub_of (E := E) (a := 0) (kg_c_falseAt JT_P hands) (N := mX7_falseAt) rfl (List.cons_ne_nil _ _) [x1, x2] rfl (fun q => by cases q) (Nat.le_of_ble_eq_true rfl) hh hj
  obtain ⟨r2, h2, q2, hh2, f2, hj2⟩ := pub_of (E := E) (a := 110) (kg_r_falseAt JT_P hands) (N := mX8_falseAt) rfl (List.cons_ne_nil _ _) [x1, x2] rfl (fun q => by cases q) (Nat.le_of_ble_eq_true rfl) hh1 hj1
  exact ⟨r1, r2, h1, h2, q1, q2, mobj hh1, hh2, hj2, ⟨pRel_fr (pRel_fr hR.1 f1 (by decide +kernel)) f2 (by decide +kernel), cRel_fr (cRel_fr hR.2.1 f1 (by decide +kernel)) f2 (by decide +kernel), xj_fr (xj_fr hR.2.2 f1 (by decide +kernel)) f2 (by decide +kernel)⟩⟩
theorem lw_fits (x1 x2 : Int32) (hh : HI HT h) (hj : JT h) (hR : RJ h) : ∃ (r1 r2 : Int32) (h1 h2 : List pC), Run prog E pV1 120 mX7_fits [.ref 0, .int x1, .int x2] h (some (.int r1), h1, 0, 0) ∧ Run prog E pV1 120 mX8_fits [.ref 110, .int x1, .int x2] h1 (some (.int r2), h2, 0, 0) ∧ (∃ o, pobj h1 110 = some o ∧ o.1 = 8) ∧ HI HT h2 ∧ JT h2 ∧ RJ h2 := by
  obtain ⟨r1, h1, q1, hh1, f1, hj1⟩ := pub_of (E := E) (a := 0) (kg_c_fits JT_P hands) (N := mX7_fits) rfl (List.cons_ne_nil _ _) [x1, x2] rfl (fun q => by cases q) (Nat.le_of_ble_eq_true rfl) hh hj
  obtain ⟨r2, h2, q2, hh2, f2, hj2⟩ := pub_of (E := E) (a := 110) (kg_r_fits JT_P hands) (N := mX8_fits) rfl (List.cons_ne_nil _ _) [x1, x2] rfl (fun q => by cases q) (Nat.le_of_ble_eq_true rfl) hh1 hj1
  exact ⟨r1, r2, h1, h2, q1, q2, mobj hh1, hh2, hj2, ⟨pRel_fr (pRel_fr hR.1 f1 (by decide +kernel)) f2 (by decide +kernel), cRel_fr (cRel_fr hR.2.1 f1 (by decide +kernel)) f2 (by decide +kernel), xj_fr (xj_fr hR.2.2 f1 (by decide +kernel)) f2 (by decide +kernel)⟩⟩
theorem lw_join (x1 x2 x3 : Int32) (hh : HI HT h) (hj : JT h) (hR : RJ h) : ∃ (r1 r2 : Int32) (h1 h2 : List pC), Run prog E pV1 120 mX7_join [.ref 0, .int x1, .int x2, .int x3] h (some (.int r1), h1, 0, 0) ∧ Run prog E pV1 120 mX8_join [.ref 110, .int x1, .int x2, .int x3] h1 (some (.int r2), h2, 0, 0) ∧ (∃ o, pobj h1 110 = some o ∧ o.1 = 8) ∧ HI HT h2 ∧ JT h2 ∧ RJ h2 := by
  obtain ⟨r1, h1, q1, hh1, f1, hj1⟩ := pub_of (E := E) (a := 0) (kg_c_join JT_P hands) (N := mX7_join) rfl (List.cons_ne_nil _ _) [x1, x2, x3] rfl (fun q => by cases q) (Nat.le_of_ble_eq_true rfl) hh hj
  obtain ⟨r2, h2, q2, hh2, f2, hj2⟩ := pub_of (E := E) (a := 110) (kg_r_join JT_P hands) (N := mX8_join) rfl (List.cons_ne_nil _ _) [x1, x2, x3] rfl (fun q => by cases q) (Nat.le_of_ble_eq_true rfl) hh1 hj1
  exact ⟨r1, r2, h1, h2, q1, q2, mobj hh1, hh2, hj2, ⟨pRel_fr (pRel_fr hR.1 f1 (by decide +kernel)) f2 (by decide +kernel), cRel_fr (cRel_fr hR.2.1 f1 (by decide +kernel)) f2 (by decide +kernel), xj_fr (xj_fr hR.2.2 f1 (by decide +kernel)) f2 (by decide +kernel)⟩⟩
theorem lw_clash (x1 x2 : Int32) (hh : HI HT h) (hj : JT h) (hR : RJ h) : ∃ (r1 r2 : Int32) (h1 h2 : List pC), Run prog E pV1 120 mX7_clash [.ref 0, .int x1, .int x2] h (some (.int r1), h1, 0, 0) ∧ Run prog E pV1 120 mX8_clash [.ref 110, .int x1, .int x2] h1 (some (.int r2), h2, 0, 0) ∧ (∃ o, pobj h1 110 = some o ∧ o.1 = 8) ∧ HI HT h2 ∧ JT h2 ∧ RJ h2 := by
  obtain ⟨r1, h1, q1, hh1, f1, hj1⟩ := pub_of (E := E) (a := 0) (kg_c_clash JT_P hands) (N := mX7_clash) rfl (List.cons_ne_nil _ _) [x1, x2] rfl (fun q => by cases q) (Nat.le_of_ble_eq_true rfl) hh hj
  obtain ⟨r2, h2, q2, hh2, f2, hj2⟩ := pub_of (E := E) (a := 110) (kg_r_clash JT_P hands) (N := mX8_clash) rfl (List.cons_ne_nil _ _) [x1, x2] rfl (fun q => by cases q) (Nat.le_of_ble_eq_true rfl) hh1 hj1
  exact ⟨r1, r2, h1, h2, q1, q2, mobj hh1, hh2, hj2, ⟨pRel_fr (pRel_fr hR.1 f1 (by decide +kernel)) f2 (by decide +kernel), cRel_fr (cRel_fr hR.2.1 f1 (by decide +kernel)) f2 (by decide +kernel), xj_fr (xj_fr hR.2.2 f1 (by decide +kernel)) f2 (by decide +kernel)⟩⟩
theorem lw_undone (hh : HI HT h) (hj : JT h) (hR : RJ h) : ∃ (r1 r2 : Int32) (h1 h2 : List pC), Run prog E pV1 120 mX7_undone [.ref 0] h (some (.int r1), h1, 0, 0) ∧ Run prog E pV1 120 mX8_undone [.ref 110] h1 (some (.int r2), h2, 0, 0) ∧ (∃ o, pobj h1 110 = some o ∧ o.1 = 8) ∧ HI HT h2 ∧ JT h2 ∧ RJ h2 := by
  obtain ⟨r1, h1, q1, hh1, f1, hj1⟩ := pub_of (E := E) (a := 0) (kg_c_undone JT_P hands) (N := mX7_undone) rfl (List.cons_ne_nil _ _) [] rfl (fun q => by cases q) (Nat.le_of_ble_eq_true rfl) hh hj
  obtain ⟨r2, h2, q2, hh2, f2, hj2⟩ := pub_of (E := E) (a := 110) (kg_r_undone JT_P hands) (N := mX8_undone) rfl (List.cons_ne_nil _ _) [] rfl (fun q => by cases q) (Nat.le_of_ble_eq_true rfl) hh1 hj1
  exact ⟨r1, r2, h1, h2, q1, q2, mobj hh1, hh2, hj2, ⟨pRel_fr (pRel_fr hR.1 f1 (by decide +kernel)) f2 (by decide +kernel), cRel_fr (cRel_fr hR.2.1 f1 (by decide +kernel)) f2 (by decide +kernel), xj_fr (xj_fr hR.2.2 f1 (by decide +kernel)) f2 (by decide +kernel)⟩⟩
theorem lw_borne (hh : HI HT h) (hj : JT h) (hR : RJ h) : ∃ (r1 r2 : Int32) (h1 h2 : List pC), Run prog E pV1 120 mX7_borne [.ref 0] h (some (.int r1), h1, 0, 0) ∧ Run prog E pV1 120 mX8_borne [.ref 110] h1 (some (.int r2), h2, 0, 0) ∧ (∃ o, pobj h1 110 = some o ∧ o.1 = 8) ∧ HI HT h2 ∧ JT h2 ∧ RJ h2 := by
  obtain ⟨r1, h1, q1, hh1, f1, hj1⟩ := pub_of (E := E) (a := 0) (kg_c_borne JT_P hands) (N := mX7_borne) rfl (List.cons_ne_nil _ _) [] rfl (fun q => by cases q) (Nat.le_of_ble_eq_true rfl) hh hj
  obtain ⟨r2, h2, q2, hh2, f2, hj2⟩ := pub_of (E := E) (a := 110) (kg_r_borne JT_P hands) (N := mX8_borne) rfl (List.cons_ne_nil _ _) [] rfl (fun q => by cases q) (Nat.le_of_ble_eq_true rfl) hh1 hj1
  exact ⟨r1, r2, h1, h2, q1, q2, mobj hh1, hh2, hj2, ⟨pRel_fr (pRel_fr hR.1 f1 (by decide +kernel)) f2 (by decide +kernel), cRel_fr (cRel_fr hR.2.1 f1 (by decide +kernel)) f2 (by decide +kernel), xj_fr (xj_fr hR.2.2 f1 (by decide +kernel)) f2 (by decide +kernel)⟩⟩
theorem lw_look (x1 : Int32) (hh : HI HT h) (hj : JT h) (hR : RJ h) : ∃ (r1 r2 : Int32) (h1 h2 : List pC), Run prog E pV1 120 mX7_look [.ref 0, .int x1] h (some (.int r1), h1, 0, 0) ∧ Run prog E pV1 120 mX8_look [.ref 110, .int x1] h1 (some (.int r2), h2, 0, 0) ∧ (∃ o, pobj h1 110 = some o ∧ o.1 = 8) ∧ HI HT h2 ∧ JT h2 ∧ RJ h2 := by
  obtain ⟨r1, h1, q1, hh1, f1, hj1⟩ := pub_of (E := E) (a := 0) (kg_c_look JT_P hands) (N := mX7_look) rfl (List.cons_ne_nil _ _) [x1] rfl (fun q => by cases q) (Nat.le_of_ble_eq_true rfl) hh hj
  obtain ⟨r2, h2, q2, hh2, f2, hj2⟩ := pub_of (E := E) (a := 110) (kg_r_look JT_P hands) (N := mX8_look) rfl (List.cons_ne_nil _ _) [x1] rfl (fun q => by cases q) (Nat.le_of_ble_eq_true rfl) hh1 hj1
  exact ⟨r1, r2, h1, h2, q1, q2, mobj hh1, hh2, hj2, ⟨pRel_fr (pRel_fr hR.1 f1 (by decide +kernel)) f2 (by decide +kernel), cRel_fr (cRel_fr hR.2.1 f1 (by decide +kernel)) f2 (by decide +kernel), xj_fr (xj_fr hR.2.2 f1 (by decide +kernel)) f2 (by decide +kernel)⟩⟩
theorem lw_tides (x1 : Int32) (hh : HI HT h) (hj : JT h) (hR : RJ h) : ∃ (r1 r2 : Int32) (h1 h2 : List pC), Run prog E pV1 120 mX7_tides [.ref 0, .int x1] h (some (.int r1), h1, 0, 0) ∧ Run prog E pV1 120 mX8_tides [.ref 110, .int x1] h1 (some (.int r2), h2, 0, 0) ∧ (∃ o, pobj h1 110 = some o ∧ o.1 = 8) ∧ HI HT h2 ∧ JT h2 ∧ RJ h2 := by
  obtain ⟨r1, h1, q1, hh1, f1, hj1⟩ := pub_of (E := E) (a := 0) (kg_c_tidesF) (N := mX7_tides) rfl (List.cons_ne_nil _ _) [x1] rfl (fun q => by cases q) (Nat.le_of_ble_eq_true rfl) hh hj
  obtain ⟨r2, h2, q2, hh2, f2, hj2⟩ := pub_of (E := E) (a := 110) (kg_r_tidesF) (N := mX8_tides) rfl (List.cons_ne_nil _ _) [x1] rfl (fun q => by cases q) (Nat.le_of_ble_eq_true rfl) hh1 hj1
  exact ⟨r1, r2, h1, h2, q1, q2, mobj hh1, hh2, hj2, ⟨pRel_fr (pRel_fr hR.1 f1 (by decide +kernel)) f2 (by decide +kernel), cRel_fr (cRel_fr hR.2.1 f1 (by decide +kernel)) f2 (by decide +kernel), xj_fr (xj_fr hR.2.2 f1 (by decide +kernel)) f2 (by decide +kernel)⟩⟩
theorem lw_book (x1 : Int32) (hh : HI HT h) (hj : JT h) (hR : RJ h) : ∃ (r1 r2 : Int32) (h1 h2 : List pC), Run prog E pV1 120 mX7_book [.ref 0, .int x1] h (some (.int r1), h1, 0, 0) ∧ Run prog E pV1 120 mX8_book [.ref 110, .int x1] h1 (some (.int r2), h2, 0, 0) ∧ (∃ o, pobj h1 110 = some o ∧ o.1 = 8) ∧ HI HT h2 ∧ JT h2 ∧ RJ h2 := by
  obtain ⟨r1, h1, q1, hh1, f1, hj1⟩ := pub_of (E := E) (a := 0) (kg_c_book JT_P hands) (N := mX7_book) rfl (List.cons_ne_nil _ _) [x1] rfl (fun q => by cases q) (Nat.le_of_ble_eq_true rfl) hh hj
  obtain ⟨r2, h2, q2, hh2, f2, hj2⟩ := pub_of (E := E) (a := 110) (kg_r_book JT_P hands) (N := mX8_book) rfl (List.cons_ne_nil _ _) [x1] rfl (fun q => by cases q) (Nat.le_of_ble_eq_true rfl) hh1 hj1
  exact ⟨r1, r2, h1, h2, q1, q2, mobj hh1, hh2, hj2, ⟨pRel_fr (pRel_fr hR.1 f1 (by decide +kernel)) f2 (by decide +kernel), cRel_fr (cRel_fr hR.2.1 f1 (by decide +kernel)) f2 (by decide +kernel), xj_fr (xj_fr hR.2.2 f1 (by decide +kernel)) f2 (by decide +kernel)⟩⟩
theorem lw_behind (x1 x2 : Int32) (hh : HI HT h) (hj : JT h) (hR : RJ h) : ∃ (r1 r2 : Int32) (h1 h2 : List pC), Run prog E pV1 120 mX7_behind [.ref 0, .int x1, .int x2] h (some (.int r1), h1, 0, 0) ∧ Run prog E pV1 120 mX8_behind [.ref 110, .int x1, .int x2] h1 (some (.int r2), h2, 0, 0) ∧ (∃ o, pobj h1 110 = some o ∧ o.1 = 8) ∧ HI HT h2 ∧ JT h2 ∧ RJ h2 := by
  obtain ⟨r1, h1, q1, hh1, f1, hj1⟩ := pub_of (E := E) (a := 0) (kg_c_behind JT_P hands) (N := mX7_behind) rfl (List.cons_ne_nil _ _) [x1, x2] rfl (fun q => by cases q) (Nat.le_of_ble_eq_true rfl) hh hj
  obtain ⟨r2, h2, q2, hh2, f2, hj2⟩ := pub_of (E := E) (a := 110) (hd_behind hands) (N := mX8_behind) rfl (List.cons_ne_nil _ _) [x1, x2] rfl (fun q => by cases q) (Nat.le_of_ble_eq_true rfl) hh1 hj1
  exact ⟨r1, r2, h1, h2, q1, q2, mobj hh1, hh2, hj2, ⟨pRel_fr (pRel_fr hR.1 f1 (by decide +kernel)) f2 (by decide +kernel), cRel_fr (cRel_fr hR.2.1 f1 (by decide +kernel)) f2 (by decide +kernel), xj_fr (xj_fr hR.2.2 f1 (by decide +kernel)) f2 (by decide +kernel)⟩⟩
theorem lw_lasts (hh : HI HT h) (hj : JT h) (hR : RJ h) : ∃ (r1 r2 : Int32) (h1 h2 : List pC), Run prog E pV1 120 mX7_lasts [.ref 0] h (some (.int r1), h1, 0, 0) ∧ Run prog E pV1 120 mX8_lasts [.ref 110] h1 (some (.int r2), h2, 0, 0) ∧ (∃ o, pobj h1 110 = some o ∧ o.1 = 8) ∧ HI HT h2 ∧ JT h2 ∧ RJ h2 := by
  obtain ⟨r1, h1, q1, hh1, f1, hj1⟩ := pub_of (E := E) (a := 0) (kg_c_lasts JT_P hands) (N := mX7_lasts) rfl (List.cons_ne_nil _ _) [] rfl (fun q => by cases q) (Nat.le_of_ble_eq_true rfl) hh hj
  obtain ⟨r2, h2, q2, hh2, f2, hj2⟩ := pub_of (E := E) (a := 110) (hd_lasts hands) (N := mX8_lasts) rfl (List.cons_ne_nil _ _) [] rfl (fun q => by cases q) (Nat.le_of_ble_eq_true rfl) hh1 hj1
  exact ⟨r1, r2, h1, h2, q1, q2, mobj hh1, hh2, hj2, ⟨pRel_fr (pRel_fr hR.1 f1 (by decide +kernel)) f2 (by decide +kernel), cRel_fr (cRel_fr hR.2.1 f1 (by decide +kernel)) f2 (by decide +kernel), xj_fr (xj_fr hR.2.2 f1 (by decide +kernel)) f2 (by decide +kernel)⟩⟩
theorem lw_best (x1 x2 x3 : Int32) (hh : HI HT h) (hj : JT h) (hR : RJ h) : ∃ (r1 r2 : Int32) (h1 h2 : List pC), Run prog E pV1 120 mX7_best [.ref 0, .int x1, .int x2, .int x3] h (some (.int r1), h1, 0, 0) ∧ Run prog E pV1 120 mX8_best [.ref 110, .int x1, .int x2, .int x3] h1 (some (.int r2), h2, 0, 0) ∧ (∃ o, pobj h1 110 = some o ∧ o.1 = 8) ∧ HI HT h2 ∧ JT h2 ∧ RJ h2 := by
  obtain ⟨r1, h1, q1, hh1, f1, hj1⟩ := pub_of (E := E) (a := 0) (kg_c_best JT_P hands) (N := mX7_best) rfl (List.cons_ne_nil _ _) [x1, x2, x3] rfl (fun q => by cases q) (Nat.le_of_ble_eq_true rfl) hh hj
  obtain ⟨r2, h2, q2, hh2, f2, hj2⟩ := pub_of (E := E) (a := 110) (hd_best hands) (N := mX8_best) rfl (List.cons_ne_nil _ _) [x1, x2, x3] rfl (fun q => by cases q) (Nat.le_of_ble_eq_true rfl) hh1 hj1
  exact ⟨r1, r2, h1, h2, q1, q2, mobj hh1, hh2, hj2, ⟨pRel_fr (pRel_fr hR.1 f1 (by decide +kernel)) f2 (by decide +kernel), cRel_fr (cRel_fr hR.2.1 f1 (by decide +kernel)) f2 (by decide +kernel), xj_fr (xj_fr hR.2.2 f1 (by decide +kernel)) f2 (by decide +kernel)⟩⟩
theorem lw_taught (x1 x2 : Int32) (hh : HI HT h) (hj : JT h) (hR : RJ h) : ∃ (r1 r2 : Int32) (h1 h2 : List pC), Run prog E pV1 120 mX7_taught [.ref 0, .int x1, .int x2] h (some (.int r1), h1, 0, 0) ∧ Run prog E pV1 120 mX8_taught [.ref 110, .int x1, .int x2] h1 (some (.int r2), h2, 0, 0) ∧ (∃ o, pobj h1 110 = some o ∧ o.1 = 8) ∧ HI HT h2 ∧ JT h2 ∧ RJ h2 := by
  obtain ⟨r1, h1, q1, hh1, f1, hj1⟩ := pub_of (E := E) (a := 0) (kg_c_taught JT_P hands) (N := mX7_taught) rfl (List.cons_ne_nil _ _) [x1, x2] rfl (fun q => by cases q) (Nat.le_of_ble_eq_true rfl) hh hj
  obtain ⟨r2, h2, q2, hh2, f2, hj2⟩ := pub_of (E := E) (a := 110) (hd_taught hands) (N := mX8_taught) rfl (List.cons_ne_nil _ _) [x1, x2] rfl (fun q => by cases q) (Nat.le_of_ble_eq_true rfl) hh1 hj1
  exact ⟨r1, r2, h1, h2, q1, q2, mobj hh1, hh2, hj2, ⟨pRel_fr (pRel_fr hR.1 f1 (by decide +kernel)) f2 (by decide +kernel), cRel_fr (cRel_fr hR.2.1 f1 (by decide +kernel)) f2 (by decide +kernel), xj_fr (xj_fr hR.2.2 f1 (by decide +kernel)) f2 (by decide +kernel)⟩⟩
theorem lw_whose (x1 x2 : Int32) (hh : HI HT h) (hj : JT h) (hR : RJ h) : ∃ (r1 r2 : Int32) (h1 h2 : List pC), Run prog E pV1 120 mX7_whose [.ref 0, .int x1, .int x2] h (some (.int r1), h1, 0, 0) ∧ Run prog E pV1 120 mX8_whose [.ref 110, .int x1, .int x2] h1 (some (.int r2), h2, 0, 0) ∧ (∃ o, pobj h1 110 = some o ∧ o.1 = 8) ∧ HI HT h2 ∧ JT h2 ∧ RJ h2 := by
  obtain ⟨r1, h1, q1, hh1, f1, hj1⟩ := pub_of (E := E) (a := 0) (kg_c_whose JT_P hands) (N := mX7_whose) rfl (List.cons_ne_nil _ _) [x1, x2] rfl (fun q => by cases q) (Nat.le_of_ble_eq_true rfl) hh hj
  obtain ⟨r2, h2, q2, hh2, f2, hj2⟩ := pub_of (E := E) (a := 110) (kg_r_whose JT_P hands) (N := mX8_whose) rfl (List.cons_ne_nil _ _) [x1, x2] rfl (fun q => by cases q) (Nat.le_of_ble_eq_true rfl) hh1 hj1
  exact ⟨r1, r2, h1, h2, q1, q2, mobj hh1, hh2, hj2, ⟨pRel_fr (pRel_fr hR.1 f1 (by decide +kernel)) f2 (by decide +kernel), cRel_fr (cRel_fr hR.2.1 f1 (by decide +kernel)) f2 (by decide +kernel), xj_fr (xj_fr hR.2.2 f1 (by decide +kernel)) f2 (by decide +kernel)⟩⟩
theorem lw_fee (hh : HI HT h) (hj : JT h) (hR : RJ h) : ∃ (r1 r2 : Int32) (h1 h2 : List pC), Run prog E pV1 120 mX7_fee [.ref 0] h (some (.int r1), h1, 0, 0) ∧ Run prog E pV1 120 mX8_fee [.ref 110] h1 (some (.int r2), h2, 0, 0) ∧ (∃ o, pobj h1 110 = some o ∧ o.1 = 8) ∧ HI HT h2 ∧ JT h2 ∧ RJ h2 := by
  obtain ⟨r1, h1, q1, hh1, f1, hj1⟩ := pub_of (E := E) (a := 0) (kg_c_fee JT_P hands) (N := mX7_fee) rfl (List.cons_ne_nil _ _) [] rfl (fun q => by cases q) (Nat.le_of_ble_eq_true rfl) hh hj
  obtain ⟨r2, h2, q2, hh2, f2, hj2⟩ := pub_of (E := E) (a := 110) hd_fee (N := mX8_fee) rfl (List.cons_ne_nil _ _) [] rfl (fun q => by cases q) (Nat.le_of_ble_eq_true rfl) hh1 hj1
  exact ⟨r1, r2, h1, h2, q1, q2, mobj hh1, hh2, hj2, ⟨pRel_fr (pRel_fr hR.1 f1 (by decide +kernel)) f2 (by decide +kernel), cRel_fr (cRel_fr hR.2.1 f1 (by decide +kernel)) f2 (by decide +kernel), xj_fr (xj_fr hR.2.2 f1 (by decide +kernel)) f2 (by decide +kernel)⟩⟩
theorem lw_fine (x1 : Int32) (hh : HI HT h) (hj : JT h) (hR : RJ h) : ∃ (r1 r2 : Int32) (h1 h2 : List pC), Run prog E pV1 120 mX7_fine [.ref 0, .int x1] h (some (.int r1), h1, 0, 0) ∧ Run prog E pV1 120 mX8_fine [.ref 110, .int x1] h1 (some (.int r2), h2, 0, 0) ∧ (∃ o, pobj h1 110 = some o ∧ o.1 = 8) ∧ HI HT h2 ∧ JT h2 ∧ RJ h2 := by
  obtain ⟨r1, h1, q1, hh1, f1, hj1⟩ := pub_of (E := E) (a := 0) (kg_c_fine JT_P hands) (N := mX7_fine) rfl (List.cons_ne_nil _ _) [x1] rfl (fun q => by cases q) (Nat.le_of_ble_eq_true rfl) hh hj
  obtain ⟨r2, h2, q2, hh2, f2, hj2⟩ := pub_of (E := E) (a := 110) hd_fine (N := mX8_fine) rfl (List.cons_ne_nil _ _) [x1] rfl (fun q => by cases q) (Nat.le_of_ble_eq_true rfl) hh1 hj1
  exact ⟨r1, r2, h1, h2, q1, q2, mobj hh1, hh2, hj2, ⟨pRel_fr (pRel_fr hR.1 f1 (by decide +kernel)) f2 (by decide +kernel), cRel_fr (cRel_fr hR.2.1 f1 (by decide +kernel)) f2 (by decide +kernel), xj_fr (xj_fr hR.2.2 f1 (by decide +kernel)) f2 (by decide +kernel)⟩⟩
theorem lw_feed (x1 x2 x3 : Int32) (hh : HI HT h) (hj : JT h) (hR : RJ h) : ∃ (r1 r2 : Int32) (h1 h2 : List pC), Run prog E pV1 120 mX7_feed [.ref 0, .int x1, .int x2, .int x3] h (some (.int r1), h1, 0, 0) ∧ Run prog E pV1 120 mX8_feed [.ref 110, .int x1, .int x2, .int x3] h1 (some (.int r2), h2, 0, 0) ∧ (∃ o, pobj h1 110 = some o ∧ o.1 = 8) ∧ HI HT h2 ∧ JT h2 ∧ RJ h2 := by
  have tl : ri h 76 1 = ri h 110 15 := (sub_rel (R' := [((4, 76, 1), (10, 110, 15), 0, 96)]) hR.1 (by decide) _ List.mem_cons_self)
  have r15 := (m_fld hh (i := 15) (lo := 0) (hi := 96) rfl).2
  obtain ⟨l, el, hl0⟩ := nIof (x := ri h 110 15) r15.1 (by unfold fi at r15; omega)
  have hl : l ≤ 96 := by unfold fi at r15; omega
  obtain ⟨gs, hr, gF⟩ := hi_obj hh (a := 76) rfl
  obtain ⟨t, p77, u77, -⟩ := hi_int (a := 77) (n := 96) (sg := []) hh rfl
  obtain ⟨os, oo, oF⟩ := hi_obj hh (a := 0) rfl
  have g1 : gs[1]? = some (.int (nI l)) := by rw [← el, ← tl]; exact fld_i (k := 4) hh hr rfl
  by_cases c : l + 12 ≤ 96
  rotate_left
  · have q1 := feed_n (E := E) (d := 117) x1 x2 x3 hl c ⟨by decide, hr, p77, fun _ _ _ => rfl⟩ g1 oo (oF.ref (k := 4) rfl)
    obtain ⟨gs8, ho8, -⟩ := hi_obj hh HTm
    have q2 := rfeed_n (E := E) (d := 119) x1 x2 x3 hl c ho8 (by rw [← el]; exact fld_at ho8 (m_fld hh (i := 15) (lo := 0) (hi := 96) rfl).1)
    exact ⟨_, _, h, h, q1, q2, mobj hh, hh, hj, hR⟩
  obtain ⟨h1, gs1, q1, O1, a1⟩ := feed_c (E := E) (d := 117) x1 x2 x3 c ⟨by decide, hr, p77, fun _ _ _ => rfl⟩ (gF.ref (k := 0) rfl) g1 oo (oF.ref (k := 4) rfl)
  obtain ⟨r1', h1', k1, hh1, f1, hj1⟩ := pub_of (E := E) (a := 0) (kg_c_feed JT_P hands) (N := mX7_feed) rfl (List.cons_ne_nil _ _) [x1, x2, x3] rfl (fun q => by cases q) (Nat.le_of_ble_eq_true rfl) hh hj
  have d1 : h1' = h1 := (Prod.mk.inj (Prod.mk.inj (Run.det k1 q1)).2).1
  rw [d1] at hh1 f1 hj1
  obtain ⟨gs8, ho8, hF8⟩ := hi_obj hh1 HTm
  obtain ⟨t8, p8, u8, -⟩ := hi_int (a := 124) (n := 96) (sg := [(0, 95, 0, 255)]) hh1 rfl
  have l1 : ri h1 110 15 = nI l := (ri_fr f1 (by decide)).trans el
  obtain ⟨h2, gs2, q2, O2, a2⟩ := rfeed_c (E := E) (d := 119) x1 x2 x3 c ⟨by decide, ho8, p8, fun _ _ _ => rfl⟩ (hF8.ref (a := 124) rfl) (by rw [← l1]; exact fld_at ho8 (m_fld hh1 (i := 15) (lo := 0) (hi := 96) rfl).1)
  obtain ⟨r2', h2', k2, hh2, f2, hj2⟩ := pub_of (E := E) (a := 110) (kg_r_feed JT_P hands) (N := mX8_feed) rfl (List.cons_ne_nil _ _) [x1, x2, x3] rfl (fun q => by cases q) (Nat.le_of_ble_eq_true rfl) hh1 hj1
  have d2 : h2' = h2 := (Prod.mk.inj (Prod.mk.inj (Run.det k2 q2)).2).1
  rw [d2] at hh2 f2 hj2
  have e76 : ri h1 76 1 = nI (l + 12) := ri_ob O1.2.1 a1
  have e15 : ri h2 110 15 = nI (l + 12) := ri_ob O2.2.1 a2
  have tp : ∀ i : Nat, i < 96 → t i = t8 i := fun i hi => by
    rw [← u77 i hi, ← u8 i hi, ri_fr f1 rfl]
    exact tp_e (rl_t hR.1) i hi
  refine ⟨_, _, h1, h2, q1, q2, mobj hh1, hh2, hj2, fun q hq => ?_, cRel_fr (cRel_fr hR.2.1 f1 (by decide +kernel)) f2 (by decide +kernel), xj_fr (xj_fr hR.2.2 f1 (by decide +kernel)) f2 (by decide +kernel)⟩
  rcases List.mem_append.mp hq with hq | hq
  · rcases List.mem_cons.mp hq with rfl | hq
    · exact pRel_fr (pRel_fr (R := [((8, 34, 5), (0, 111, 0), 0, 9)]) (sub_rel hR.1 (by decide)) f1 (by decide +kernel)) f2 (by decide +kernel) _ List.mem_cons_self
    rcases List.mem_cons.mp hq with rfl | hq
    · exact pRel_fr (pRel_fr (R := [((8, 48, 5), (0, 112, 0), 0, 9)]) (sub_rel hR.1 (by decide)) f1 (by decide +kernel)) f2 (by decide +kernel) _ List.mem_cons_self
    rcases List.mem_cons.mp hq with rfl | hq
    · exact pRel_fr (pRel_fr (R := [((9, 0, 9), (10, 110, 3), 0, 1)]) (sub_rel hR.1 (by decide)) f1 (by decide +kernel)) f2 (by decide +kernel) _ List.mem_cons_self
    rcases List.mem_cons.mp hq with rfl | hq
    · exact pRel_fr (pRel_fr (R := [((8, 34, 6), (0, 111, 1), 0, 14)]) (sub_rel hR.1 (by decide)) f1 (by decide +kernel)) f2 (by decide +kernel) _ List.mem_cons_self
    rcases List.mem_cons.mp hq with rfl | hq
    · exact pRel_fr (pRel_fr (R := [((8, 48, 6), (0, 112, 1), 0, 14)]) (sub_rel hR.1 (by decide)) f1 (by decide +kernel)) f2 (by decide +kernel) _ List.mem_cons_self
    rcases List.mem_cons.mp hq with rfl | hq
    · show ri h2 76 1 = ri h2 110 15
      rw [ri_fr (a := 76) (i := 1) f2 (by decide), e76, e15]
    rcases List.mem_cons.mp hq with rfl | hq
    · exact pRel_fr (pRel_fr (R := [((0, 38, 0), (0, 38, 0), (-2147483648), 2147483647)]) (sub_rel hR.1 (by decide)) f1 (by decide +kernel)) f2 (by decide +kernel) _ List.mem_cons_self
    rcases List.mem_cons.mp hq with rfl | hq
    · exact pRel_fr (pRel_fr (R := [((0, 38, 1), (0, 38, 1), (-2147483648), 2147483647)]) (sub_rel hR.1 (by decide)) f1 (by decide +kernel)) f2 (by decide +kernel) _ List.mem_cons_self
    rcases List.mem_cons.mp hq with rfl | hq
    · exact pRel_fr (pRel_fr (R := [((0, 38, 2), (0, 38, 2), (-2147483648), 2147483647)]) (sub_rel hR.1 (by decide)) f1 (by decide +kernel)) f2 (by decide +kernel) _ List.mem_cons_self
    rcases List.mem_cons.mp hq with rfl | hq
    · exact pRel_fr (pRel_fr (R := [((0, 52, 0), (0, 52, 0), (-2147483648), 2147483647)]) (sub_rel hR.1 (by decide)) f1 (by decide +kernel)) f2 (by decide +kernel) _ List.mem_cons_self
    rcases List.mem_cons.mp hq with rfl | hq
    · exact pRel_fr (pRel_fr (R := [((0, 52, 1), (0, 52, 1), (-2147483648), 2147483647)]) (sub_rel hR.1 (by decide)) f1 (by decide +kernel)) f2 (by decide +kernel) _ List.mem_cons_self
    obtain rfl := List.mem_singleton.mp hq
    exact pRel_fr (pRel_fr (R := [((0, 52, 2), (0, 52, 2), (-2147483648), 2147483647)]) (sub_rel hR.1 (by decide)) f1 (by decide +kernel)) f2 (by decide +kernel) _ List.mem_cons_self
  · refine tp_i (fun i hi => ?_) q hq
    rw [ri_fr (a := 77) (i := i) f2 rfl, ri_ar O1.2.2.1 hi, ri_ar O2.2.2.1 hi]
    exact va_c (va_c (va_c (va_c (va_c (va_c (va_c (va_c (va_c (va_c (va_c (va_c (tp i hi))))))))))))
theorem lf_trim (x1 : Int32) (hh : HI HT h) (hj : JT h) (hR : RJ h) : ∃ (r1 r2 : Int32) (h1 h2 : List pC), Run prog E pV1 120 mX7_trim [.ref 0, .int x1] h (some (.int r1), h1, 0, 0) ∧ Run prog E pV1 120 mX8_trim [.ref 110, .int x1] h1 (some (.int r2), h2, 0, 0) ∧ (∃ o, pobj h1 110 = some o ∧ o.1 = 8) ∧ HI HT h2 ∧ JT h2 ∧ RJ h2 := by
  obtain ⟨r, h1, h2, q1, q2, q3, p1, p2, p3, p4⟩ := pr_ok1 (E := E) (x1 := x1) cp_trim rfl rfl (List.cons_ne_nil _ _) (List.cons_ne_nil _ _) (fun _ h => absurd h List.not_mem_nil) hh hj hR.1 hR.2.1 ⟨i32_b x1, trivial⟩ (pBd.cs (ty_76_1 hh hR).1 (ty_76_1 hh hR).2 pBd.nl) (fun e he => by cases he)
  exact ⟨r, r, h1, h2, q1, q2, q3, p1, p2, p3.1, p3.2, xj_fr hR.2.2 p4 (by decide +kernel)⟩
theorem lw_trim (x1 : Int32) (hh : HI HT h) (hj : JT h) (hR : RJ h) : ∃ (r1 r2 : Int32) (h1 h2 : List pC), Run prog E pV1 120 mX7_trim [.ref 0, .int x1] h (some (.int r1), h1, 0, 0) ∧ Run prog E pV1 120 mX8_trim [.ref 110, .int x1] h1 (some (.int r2), h2, 0, 0) ∧ (∃ o, pobj h1 110 = some o ∧ o.1 = 8) ∧ HI HT h2 ∧ JT h2 ∧ RJ h2 := by
  have ex1 := i32_b x1
  have t76_1 := ty_76_1 hh hR
  exact lf_trim x1 hh hj hR
theorem lw_text (hh : HI HT h) (hj : JT h) (hR : RJ h) : ∃ (r1 r2 : Int32) (h1 h2 : List pC), Run prog E pV1 120 mX7_text [.ref 0] h (some (.int r1), h1, 0, 0) ∧ Run prog E pV1 120 mX8_text [.ref 110] h1 (some (.int r2), h2, 0, 0) ∧ (∃ o, pobj h1 110 = some o ∧ o.1 = 8) ∧ HI HT h2 ∧ JT h2 ∧ RJ h2 := by
  have tl : ri h 76 1 = ri h 110 15 := (sub_rel (R' := [((4, 76, 1), (10, 110, 15), 0, 96)]) hR.1 (by decide) _ List.mem_cons_self)
  have r15 := (m_fld hh (i := 15) (lo := 0) (hi := 96) rfl).2
  obtain ⟨l, el, hl0⟩ := nIof (x := ri h 110 15) r15.1 (by unfold fi at r15; omega)
  have hl : l ≤ 96 := by unfold fi at r15; omega
  have ec : ri h 34 6 = ri h 111 1 := (sub_rel (R' := [((8, 34, 6), (0, 111, 1), 0, 14)]) hR.1 (by decide) _ List.mem_cons_self)
  obtain ⟨f0, c, -, u0, hc, hc1⟩ := n_texts hh
  have h1c : ri h 111 1 = nI c := by rw [u0 1 (by decide)]; exact hc1
  have h6 : ri h 34 6 = nI c := ec.trans h1c
  have hn1 : ri h 76 1 = nI l := tl.trans el
  obtain ⟨f, pt, uf, -⟩ := hi_int (a := 77) (n := 96) (sg := []) hh rfl
  obtain ⟨f8, p8, u8, s8⟩ := hi_int (a := 124) (n := 96) (sg := [(0, 95, 0, 255)]) hh rfl
  have fg : ∀ j : Nat, j < 96 → f j = ri h 124 j := fun j hj96 => by rw [← uf j hj96]; exact tp_e (rl_t hR.1) j hj96
  have hg : ∀ j : Nat, j < 96 → (0 : Int32) ≤ ri h 124 j := fun j hj96 => Int32.le_iff_toInt_le.mpr (by
    have y := (s8 _ List.mem_cons_self j (Nat.zero_le _) (by show j ≤ 95; omega) hj96).1
    rw [u8 j hj96]
    exact y)
  obtain ⟨r1, h1, q1, hh1, hj1, f1, z1, u1, rfl⟩ := ox_ok (E := E) (xs := []) (R' := ro_text) (Q := fun r h' => ri h' 76 1 = 0 ∧ ∃ u : Int32, r = some (.int u)) ox_text rfl (by unfold kc_c_text; exact (List.forall_mem_cons.mpr ⟨kg_readInto JT_P hands, (List.forall_mem_cons.mpr ⟨kg_addText JT_P hands, (fun _ h => absurd h List.not_mem_nil)⟩)⟩)) hj hh (fun _ hq => absurd hq List.not_mem_nil) pBd.nl trivial (fun e he => by cases he) (fun σ Γ C Δ x r h' he _ _ hC _ hr => by
    obtain ⟨a1, u, a2, -⟩ := ecV_ok he hC hr
    exact ⟨Int32.toInt_inj.mp (zcn (a1 _ List.mem_cons_self)), u, a2⟩)
  have h1c1 : ri h1 111 1 = nI c := (ri_fr f1 (by decide)).trans h1c
  obtain ⟨r2, h2, k2, ⟨⟨rt, hh2, f2, hj2⟩, f15⟩, rows, tx⟩ := text_v (E := E) (g := ri h 124) (n := l) 120 h1 (by decide) hh1 hj1 hc h1c1 (fun j _ => ri_fr f1 rfl) hl ((ri_fr f1 (by decide)).trans el)
  have q2 : Run prog E pV1 120 mX8_text [.ref 110] h1 (r2, h2, 0, 0) := ⟨Nat.le_of_ble_eq_true rfl, ⟨_, _, rfl⟩, k2⟩
  have e15 : ri h2 110 15 = 0 := Int32.toInt_inj.mp (by unfold fi at f15; rw [f15]; decide)
  have same : ∀ {h9 : List pC} {v : Int32}, Run prog E pV1 120 mX7_text [.ref 0] h (some (.int v), h9, 0, 0) → u1 = v ∧ h9 = h1 := fun y => by
    have e := Run.det y q1
    exact ⟨(Value.int.inj (Option.some.inj (Prod.mk.inj e).1)).symm, (Prod.mk.inj (Prod.mk.inj e).2).1⟩
  rcases tx with ⟨o1, o2, o3⟩ | ⟨key, k, c', o1, o2, o3, o4, o5⟩
  · obtain ⟨h9, q9, gs, ls, sg, C9⟩ := rdi_no (E := E) (d := 112) hh hn1 pt fg hl hg (by decide) o1
    obtain ⟨h8, q8, p6, px⟩ := txc_f (E := E) (d := 115) hh h6 q9 C9 (nI_cl (by have := (skp_le (ri h 124) l l 0 (by omega)).2; show fw (ri h 124) l < 100000; unfold fw; omega)).1
    obtain ⟨y1, y2⟩ := same q8
    subst o2
    rw [y2] at p6 px
    subst y1
    have X1 : LT 34 38 111 h2 := hR.2.2.1.mv (by rw [ri_fr (a := 34) (i := 6) f2 (by decide), p6, h6]) (fun k hk => by rw [ri_fr (a := 38) (i := k) f2 (nin_iff.mpr (by simp only [WTx, List.forall_mem_cons]; exact ⟨by omega, by omega, by omega, fun _ h => absurd h List.not_mem_nil⟩)), px _ _ (by decide) (by decide) (by decide) (by decide)]) (fun t ht htc => by
        rw [h6, nI_toInt (by omega)] at htc
        rw [rows (75 + 200 * t) (by omega) (by omega), ri_fr (a := 111) (i := 75 + 200 * t) f1 (nin_iff.mpr (by simp only [List.forall_mem_cons]; exact ⟨by omega, by omega, by omega, by omega, by omega, by omega, by omega, by omega, by omega, by omega, fun _ h => absurd h List.not_mem_nil⟩))])
    have X2 : LT 48 52 112 h2 := hR.2.2.2.mv (by rw [ri_fr (a := 48) (i := 6) f2 (by decide), ri_fr (a := 48) (i := 6) f1 (by decide)]) (fun k hk => by rw [ri_fr (a := 52) (i := k) f2 (nin_iff.mpr (by simp only [WTx, List.forall_mem_cons]; exact ⟨by omega, by omega, by omega, fun _ h => absurd h List.not_mem_nil⟩)), ri_fr (a := 52) (i := k) f1 (nin_iff.mpr (by simp only [List.forall_mem_cons]; exact ⟨by omega, by omega, by omega, by omega, by omega, by omega, by omega, by omega, by omega, by omega, fun _ h => absurd h List.not_mem_nil⟩))]) (fun t ht _ => by rw [ri_fr (a := 112) (i := 75 + 200 * t) f2 (nin_iff.mpr (by simp only [WTx, List.forall_mem_cons]; exact ⟨by omega, by omega, by omega, fun _ h => absurd h List.not_mem_nil⟩)), ri_fr (a := 112) (i := 75 + 200 * t) f1 (nin_iff.mpr (by simp only [List.forall_mem_cons]; exact ⟨by omega, by omega, by omega, by omega, by omega, by omega, by omega, by omega, by omega, by omega, fun _ h => absurd h List.not_mem_nil⟩))])
    refine ⟨_, _, h1, h2, q1, q2, mobj hh1, hh2, hj2, fun q hq => ?_, cRel_fr (cRel_fr hR.2.1 f1 (by decide +kernel)) f2 (by decide +kernel), ⟨X1, X2⟩⟩
    rcases List.mem_append.mp hq with hq | hq
    · rcases List.mem_cons.mp hq with rfl | hq
      · exact pRel_fr (pRel_fr (R := [((8, 34, 5), (0, 111, 0), 0, 9)]) (sub_rel hR.1 (by decide)) f1 (by decide +kernel)) f2 (by decide +kernel) _ List.mem_cons_self
      rcases List.mem_cons.mp hq with rfl | hq
      · exact pRel_fr (pRel_fr (R := [((8, 48, 5), (0, 112, 0), 0, 9)]) (sub_rel hR.1 (by decide)) f1 (by decide +kernel)) f2 (by decide +kernel) _ List.mem_cons_self
      rcases List.mem_cons.mp hq with rfl | hq
      · exact pRel_fr (pRel_fr (R := [((9, 0, 9), (10, 110, 3), 0, 1)]) (sub_rel hR.1 (by decide)) f1 (by decide +kernel)) f2 (by decide +kernel) _ List.mem_cons_self
      rcases List.mem_cons.mp hq with rfl | hq
      · show ri h2 34 6 = ri h2 111 1
        rw [ri_fr (a := 34) (i := 6) f2 (by decide)]
        exact p6.trans o3.symm
      rcases List.mem_cons.mp hq with rfl | hq
      · exact pRel_fr (pRel_fr (R := [((8, 48, 6), (0, 112, 1), 0, 14)]) (sub_rel hR.1 (by decide)) f1 (by decide +kernel)) f2 (by decide +kernel) _ List.mem_cons_self
      rcases List.mem_cons.mp hq with rfl | hq
      · show ri h2 76 1 = ri h2 110 15
        rw [ri_fr (a := 76) (i := 1) f2 (by decide), z1]
        exact e15.symm
      rcases List.mem_cons.mp hq with rfl | hq
      · show ri h2 38 0 = ri h2 38 0
        rfl
      rcases List.mem_cons.mp hq with rfl | hq
      · show ri h2 38 1 = ri h2 38 1
        rfl
      rcases List.mem_cons.mp hq with rfl | hq
      · show ri h2 38 2 = ri h2 38 2
        rfl
      rcases List.mem_cons.mp hq with rfl | hq
      · show ri h2 52 0 = ri h2 52 0
        rfl
      rcases List.mem_cons.mp hq with rfl | hq
      · show ri h2 52 1 = ri h2 52 1
        rfl
      obtain rfl := List.mem_singleton.mp hq
      show ri h2 52 2 = ri h2 52 2
      rfl
    · exact pRel_fr (pRel_fr (R := TPs) (rl_t hR.1) f1 (by decide +kernel)) f2 (by decide +kernel) q hq
  obtain ⟨r9, h9, q9, w9⟩ := rdi_y (E := E) (d := 112) hh hn1 pt fg hl hg (by decide) o1 o2 o3 o4
  rcases w9 with ⟨nk, rfl, s9, p9, gl9, st9, br9, no9, wa9, pc9, gs, ls, sg, ln, C9, -⟩ | ⟨ok9, rfl, s9, b9, p9, gl9, st9, br9, no9, wa9, gs, ls, sg, ln, C9, -, W9, -⟩
  · rcases o5 with ⟨-, o6, o7⟩ | ⟨ok, -⟩
    rotate_left
    · exact absurd ok nk
    obtain ⟨h8, q8, p6, px⟩ := txc_f (E := E) (d := 115) hh h6 q9 C9 (nI_cl (its_le hl o3)).1
    obtain ⟨y1, y2⟩ := same q8
    subst o6
    rw [y2] at p6 px
    subst y1
    have X1 : LT 34 38 111 h2 := hR.2.2.1.mv (by rw [ri_fr (a := 34) (i := 6) f2 (by decide), p6, h6]) (fun k hk => by rw [ri_fr (a := 38) (i := k) f2 (nin_iff.mpr (by simp only [WTx, List.forall_mem_cons]; exact ⟨by omega, by omega, by omega, fun _ h => absurd h List.not_mem_nil⟩)), px _ _ (by decide) (by decide) (by decide) (by decide)]) (fun t ht htc => by
        rw [h6, nI_toInt (by omega)] at htc
        rw [rows (75 + 200 * t) (by omega) (by omega), ri_fr (a := 111) (i := 75 + 200 * t) f1 (nin_iff.mpr (by simp only [List.forall_mem_cons]; exact ⟨by omega, by omega, by omega, by omega, by omega, by omega, by omega, by omega, by omega, by omega, fun _ h => absurd h List.not_mem_nil⟩))])
    have X2 : LT 48 52 112 h2 := hR.2.2.2.mv (by rw [ri_fr (a := 48) (i := 6) f2 (by decide), ri_fr (a := 48) (i := 6) f1 (by decide)]) (fun k hk => by rw [ri_fr (a := 52) (i := k) f2 (nin_iff.mpr (by simp only [WTx, List.forall_mem_cons]; exact ⟨by omega, by omega, by omega, fun _ h => absurd h List.not_mem_nil⟩)), ri_fr (a := 52) (i := k) f1 (nin_iff.mpr (by simp only [List.forall_mem_cons]; exact ⟨by omega, by omega, by omega, by omega, by omega, by omega, by omega, by omega, by omega, by omega, fun _ h => absurd h List.not_mem_nil⟩))]) (fun t ht _ => by rw [ri_fr (a := 112) (i := 75 + 200 * t) f2 (nin_iff.mpr (by simp only [WTx, List.forall_mem_cons]; exact ⟨by omega, by omega, by omega, fun _ h => absurd h List.not_mem_nil⟩)), ri_fr (a := 112) (i := 75 + 200 * t) f1 (nin_iff.mpr (by simp only [List.forall_mem_cons]; exact ⟨by omega, by omega, by omega, by omega, by omega, by omega, by omega, by omega, by omega, by omega, fun _ h => absurd h List.not_mem_nil⟩))])
    refine ⟨_, _, h1, h2, q1, q2, mobj hh1, hh2, hj2, fun q hq => ?_, cRel_fr (cRel_fr hR.2.1 f1 (by decide +kernel)) f2 (by decide +kernel), ⟨X1, X2⟩⟩
    rcases List.mem_append.mp hq with hq | hq
    · rcases List.mem_cons.mp hq with rfl | hq
      · exact pRel_fr (pRel_fr (R := [((8, 34, 5), (0, 111, 0), 0, 9)]) (sub_rel hR.1 (by decide)) f1 (by decide +kernel)) f2 (by decide +kernel) _ List.mem_cons_self
      rcases List.mem_cons.mp hq with rfl | hq
      · exact pRel_fr (pRel_fr (R := [((8, 48, 5), (0, 112, 0), 0, 9)]) (sub_rel hR.1 (by decide)) f1 (by decide +kernel)) f2 (by decide +kernel) _ List.mem_cons_self
      rcases List.mem_cons.mp hq with rfl | hq
      · exact pRel_fr (pRel_fr (R := [((9, 0, 9), (10, 110, 3), 0, 1)]) (sub_rel hR.1 (by decide)) f1 (by decide +kernel)) f2 (by decide +kernel) _ List.mem_cons_self
      rcases List.mem_cons.mp hq with rfl | hq
      · show ri h2 34 6 = ri h2 111 1
        rw [ri_fr (a := 34) (i := 6) f2 (by decide)]
        exact p6.trans o7.symm
      rcases List.mem_cons.mp hq with rfl | hq
      · exact pRel_fr (pRel_fr (R := [((8, 48, 6), (0, 112, 1), 0, 14)]) (sub_rel hR.1 (by decide)) f1 (by decide +kernel)) f2 (by decide +kernel) _ List.mem_cons_self
      rcases List.mem_cons.mp hq with rfl | hq
      · show ri h2 76 1 = ri h2 110 15
        rw [ri_fr (a := 76) (i := 1) f2 (by decide), z1]
        exact e15.symm
      rcases List.mem_cons.mp hq with rfl | hq
      · show ri h2 38 0 = ri h2 38 0
        rfl
      rcases List.mem_cons.mp hq with rfl | hq
      · show ri h2 38 1 = ri h2 38 1
        rfl
      rcases List.mem_cons.mp hq with rfl | hq
      · show ri h2 38 2 = ri h2 38 2
        rfl
      rcases List.mem_cons.mp hq with rfl | hq
      · show ri h2 52 0 = ri h2 52 0
        rfl
      rcases List.mem_cons.mp hq with rfl | hq
      · show ri h2 52 1 = ri h2 52 1
        rfl
      obtain rfl := List.mem_singleton.mp hq
      show ri h2 52 2 = ri h2 52 2
      rfl
    · exact pRel_fr (pRel_fr (R := TPs) (rl_t hR.1) f1 (by decide +kernel)) f2 (by decide +kernel) q hq
  · rcases o5 with ⟨nk, -⟩ | ⟨-, o5⟩
    · exact absurd ok9 nk
    rcases o5 with ⟨c14, o6, o7⟩ | ⟨c13, o6, o7, o8, o9⟩
    · obtain ⟨h8, q8, p6, px⟩ := txc_full (E := E) (d := 115) hh h6 q9 C9 (by decide) c14
      obtain ⟨y1, y2⟩ := same q8
      subst o6
      rw [y2] at p6 px
      subst y1
      have X1 : LT 34 38 111 h2 := hR.2.2.1.mv (by rw [ri_fr (a := 34) (i := 6) f2 (by decide), p6, h6]) (fun k hk => by rw [ri_fr (a := 38) (i := k) f2 (nin_iff.mpr (by simp only [WTx, List.forall_mem_cons]; exact ⟨by omega, by omega, by omega, fun _ h => absurd h List.not_mem_nil⟩)), px _ _ (by decide) (by decide) (by decide) (by decide)]) (fun t ht htc => by
          rw [h6, nI_toInt (by omega)] at htc
          rw [rows (75 + 200 * t) (by omega) (by omega), ri_fr (a := 111) (i := 75 + 200 * t) f1 (nin_iff.mpr (by simp only [List.forall_mem_cons]; exact ⟨by omega, by omega, by omega, by omega, by omega, by omega, by omega, by omega, by omega, by omega, fun _ h => absurd h List.not_mem_nil⟩))])
      have X2 : LT 48 52 112 h2 := hR.2.2.2.mv (by rw [ri_fr (a := 48) (i := 6) f2 (by decide), ri_fr (a := 48) (i := 6) f1 (by decide)]) (fun k hk => by rw [ri_fr (a := 52) (i := k) f2 (nin_iff.mpr (by simp only [WTx, List.forall_mem_cons]; exact ⟨by omega, by omega, by omega, fun _ h => absurd h List.not_mem_nil⟩)), ri_fr (a := 52) (i := k) f1 (nin_iff.mpr (by simp only [List.forall_mem_cons]; exact ⟨by omega, by omega, by omega, by omega, by omega, by omega, by omega, by omega, by omega, by omega, fun _ h => absurd h List.not_mem_nil⟩))]) (fun t ht _ => by rw [ri_fr (a := 112) (i := 75 + 200 * t) f2 (nin_iff.mpr (by simp only [WTx, List.forall_mem_cons]; exact ⟨by omega, by omega, by omega, fun _ h => absurd h List.not_mem_nil⟩)), ri_fr (a := 112) (i := 75 + 200 * t) f1 (nin_iff.mpr (by simp only [List.forall_mem_cons]; exact ⟨by omega, by omega, by omega, by omega, by omega, by omega, by omega, by omega, by omega, by omega, fun _ h => absurd h List.not_mem_nil⟩))])
      refine ⟨_, _, h1, h2, q1, q2, mobj hh1, hh2, hj2, fun q hq => ?_, cRel_fr (cRel_fr hR.2.1 f1 (by decide +kernel)) f2 (by decide +kernel), ⟨X1, X2⟩⟩
      rcases List.mem_append.mp hq with hq | hq
      · rcases List.mem_cons.mp hq with rfl | hq
        · exact pRel_fr (pRel_fr (R := [((8, 34, 5), (0, 111, 0), 0, 9)]) (sub_rel hR.1 (by decide)) f1 (by decide +kernel)) f2 (by decide +kernel) _ List.mem_cons_self
        rcases List.mem_cons.mp hq with rfl | hq
        · exact pRel_fr (pRel_fr (R := [((8, 48, 5), (0, 112, 0), 0, 9)]) (sub_rel hR.1 (by decide)) f1 (by decide +kernel)) f2 (by decide +kernel) _ List.mem_cons_self
        rcases List.mem_cons.mp hq with rfl | hq
        · exact pRel_fr (pRel_fr (R := [((9, 0, 9), (10, 110, 3), 0, 1)]) (sub_rel hR.1 (by decide)) f1 (by decide +kernel)) f2 (by decide +kernel) _ List.mem_cons_self
        rcases List.mem_cons.mp hq with rfl | hq
        · show ri h2 34 6 = ri h2 111 1
          rw [ri_fr (a := 34) (i := 6) f2 (by decide)]
          exact p6.trans o7.symm
        rcases List.mem_cons.mp hq with rfl | hq
        · exact pRel_fr (pRel_fr (R := [((8, 48, 6), (0, 112, 1), 0, 14)]) (sub_rel hR.1 (by decide)) f1 (by decide +kernel)) f2 (by decide +kernel) _ List.mem_cons_self
        rcases List.mem_cons.mp hq with rfl | hq
        · show ri h2 76 1 = ri h2 110 15
          rw [ri_fr (a := 76) (i := 1) f2 (by decide), z1]
          exact e15.symm
        rcases List.mem_cons.mp hq with rfl | hq
        · show ri h2 38 0 = ri h2 38 0
          rfl
        rcases List.mem_cons.mp hq with rfl | hq
        · show ri h2 38 1 = ri h2 38 1
          rfl
        rcases List.mem_cons.mp hq with rfl | hq
        · show ri h2 38 2 = ri h2 38 2
          rfl
        rcases List.mem_cons.mp hq with rfl | hq
        · show ri h2 52 0 = ri h2 52 0
          rfl
        rcases List.mem_cons.mp hq with rfl | hq
        · show ri h2 52 1 = ri h2 52 1
          rfl
        obtain rfl := List.mem_singleton.mp hq
        show ri h2 52 2 = ri h2 52 2
        rfl
      · exact pRel_fr (pRel_fr (R := TPs) (rl_t hR.1) f1 (by decide +kernel)) f2 (by decide +kernel) q hq
    · obtain ⟨h8, q8, p6, px⟩ := txc_ok (E := E) (d := 115) hh h6 q9 C9 (by decide) c13 o2 W9
      obtain ⟨y1, y2⟩ := same q8
      subst o6
      rw [y2] at p6 px
      subst y1
      have X1 : LT 34 38 111 h2 := by
        obtain ⟨l1, l2, l3⟩ := hR.2.2.1
        have e6 : ri h2 34 6 = nI (c + 1) := by rw [ri_fr (a := 34) (i := 6) f2 (by decide), p6]
        have et : (ri h2 34 6).toInt.toNat = c + 1 := by
          rw [e6, nI_toInt (by omega)]
          omega
        have eo : (ri h 34 6).toInt.toNat = c := by
          rw [h6, nI_toInt (by omega)]
          omega
        refine ⟨by rw [e6, nI_toInt (by omega)]; omega, by rw [e6, nI_toInt (by omega)]; omega, fun k hk => ?_⟩
        rw [et, lastT, o8, ri_fr (a := 38) (i := k) f2 (nin_iff.mpr (by simp only [WTx, List.forall_mem_cons]; exact ⟨by omega, by omega, by omega, fun _ h => absurd h List.not_mem_nil⟩)), px.2.2.1 k hk]
        rcases (show ∃ j : Nat, j < 3 ∧ key = nI j by rcases o2 with rfl | rfl | rfl <;> first | exact ⟨0, by decide, by decide +kernel⟩ | exact ⟨1, by decide, by decide +kernel⟩ | exact ⟨2, by decide, by decide +kernel⟩) with ⟨j, j3, ej⟩
        rw [ej, (nI_cl (by omega)).2]
        by_cases kj : k = j
        · rw [kj, va_up_self, if_pos rfl]
        · rw [va_up_ne _ _ kj, if_neg (fun z => kj ((nI_eq (by omega) (by omega)).mp z.symm)), l3 k hk, eo]
          exact lastT_c _ _ (fun t ht => by rw [rows (75 + 200 * t) (by omega) (by omega), ri_fr (a := 111) (i := 75 + 200 * t) f1 (nin_iff.mpr (by simp only [List.forall_mem_cons]; exact ⟨by omega, by omega, by omega, by omega, by omega, by omega, by omega, by omega, by omega, by omega, fun _ h => absurd h List.not_mem_nil⟩))])
      have X2 : LT 48 52 112 h2 := hR.2.2.2.mv (by rw [ri_fr (a := 48) (i := 6) f2 (by decide), ri_fr (a := 48) (i := 6) f1 (by decide)]) (fun k hk => by rw [ri_fr (a := 52) (i := k) f2 (nin_iff.mpr (by simp only [WTx, List.forall_mem_cons]; exact ⟨by omega, by omega, by omega, fun _ h => absurd h List.not_mem_nil⟩)), ri_fr (a := 52) (i := k) f1 (nin_iff.mpr (by simp only [List.forall_mem_cons]; exact ⟨by omega, by omega, by omega, by omega, by omega, by omega, by omega, by omega, by omega, by omega, fun _ h => absurd h List.not_mem_nil⟩))]) (fun t ht _ => by rw [ri_fr (a := 112) (i := 75 + 200 * t) f2 (nin_iff.mpr (by simp only [WTx, List.forall_mem_cons]; exact ⟨by omega, by omega, by omega, fun _ h => absurd h List.not_mem_nil⟩)), ri_fr (a := 112) (i := 75 + 200 * t) f1 (nin_iff.mpr (by simp only [List.forall_mem_cons]; exact ⟨by omega, by omega, by omega, by omega, by omega, by omega, by omega, by omega, by omega, by omega, fun _ h => absurd h List.not_mem_nil⟩))])
      refine ⟨_, _, h1, h2, q1, q2, mobj hh1, hh2, hj2, fun q hq => ?_, cRel_fr (cRel_fr hR.2.1 f1 (by decide +kernel)) f2 (by decide +kernel), ⟨X1, X2⟩⟩
      rcases List.mem_append.mp hq with hq | hq
      · rcases List.mem_cons.mp hq with rfl | hq
        · exact pRel_fr (pRel_fr (R := [((8, 34, 5), (0, 111, 0), 0, 9)]) (sub_rel hR.1 (by decide)) f1 (by decide +kernel)) f2 (by decide +kernel) _ List.mem_cons_self
        rcases List.mem_cons.mp hq with rfl | hq
        · exact pRel_fr (pRel_fr (R := [((8, 48, 5), (0, 112, 0), 0, 9)]) (sub_rel hR.1 (by decide)) f1 (by decide +kernel)) f2 (by decide +kernel) _ List.mem_cons_self
        rcases List.mem_cons.mp hq with rfl | hq
        · exact pRel_fr (pRel_fr (R := [((9, 0, 9), (10, 110, 3), 0, 1)]) (sub_rel hR.1 (by decide)) f1 (by decide +kernel)) f2 (by decide +kernel) _ List.mem_cons_self
        rcases List.mem_cons.mp hq with rfl | hq
        · show ri h2 34 6 = ri h2 111 1
          rw [ri_fr (a := 34) (i := 6) f2 (by decide)]
          exact p6.trans o7.symm
        rcases List.mem_cons.mp hq with rfl | hq
        · exact pRel_fr (pRel_fr (R := [((8, 48, 6), (0, 112, 1), 0, 14)]) (sub_rel hR.1 (by decide)) f1 (by decide +kernel)) f2 (by decide +kernel) _ List.mem_cons_self
        rcases List.mem_cons.mp hq with rfl | hq
        · show ri h2 76 1 = ri h2 110 15
          rw [ri_fr (a := 76) (i := 1) f2 (by decide), z1]
          exact e15.symm
        rcases List.mem_cons.mp hq with rfl | hq
        · show ri h2 38 0 = ri h2 38 0
          rfl
        rcases List.mem_cons.mp hq with rfl | hq
        · show ri h2 38 1 = ri h2 38 1
          rfl
        rcases List.mem_cons.mp hq with rfl | hq
        · show ri h2 38 2 = ri h2 38 2
          rfl
        rcases List.mem_cons.mp hq with rfl | hq
        · show ri h2 52 0 = ri h2 52 0
          rfl
        rcases List.mem_cons.mp hq with rfl | hq
        · show ri h2 52 1 = ri h2 52 1
          rfl
        obtain rfl := List.mem_singleton.mp hq
        show ri h2 52 2 = ri h2 52 2
        rfl
      · exact pRel_fr (pRel_fr (R := TPs) (rl_t hR.1) f1 (by decide +kernel)) f2 (by decide +kernel) q hq
theorem lw_textTold (x1 x2 : Int32) (hh : HI HT h) (hj : JT h) (hR : RJ h) : ∃ (r1 r2 : Int32) (h1 h2 : List pC), Run prog E pV1 120 mX7_textTold [.ref 0, .int x1, .int x2] h (some (.int r1), h1, 0, 0) ∧ Run prog E pV1 120 mX8_textTold [.ref 110, .int x1, .int x2] h1 (some (.int r2), h2, 0, 0) ∧ (∃ o, pobj h1 110 = some o ∧ o.1 = 8) ∧ HI HT h2 ∧ JT h2 ∧ RJ h2 := by
  obtain ⟨r1, h1, q1, hh1, f1, hj1⟩ := pub_of (E := E) (a := 0) (kg_c_textTold JT_P hands) (N := mX7_textTold) rfl (List.cons_ne_nil _ _) [x1, x2] rfl (fun q => by cases q) (Nat.le_of_ble_eq_true rfl) hh hj
  obtain ⟨r2, h2, q2, hh2, f2, hj2⟩ := pub_of (E := E) (a := 110) (kg_r_textTold JT_P hands) (N := mX8_textTold) rfl (List.cons_ne_nil _ _) [x1, x2] rfl (fun q => by cases q) (Nat.le_of_ble_eq_true rfl) hh1 hj1
  exact ⟨r1, r2, h1, h2, q1, q2, mobj hh1, hh2, hj2, ⟨pRel_fr (pRel_fr hR.1 f1 (by decide +kernel)) f2 (by decide +kernel), cRel_fr (cRel_fr hR.2.1 f1 (by decide +kernel)) f2 (by decide +kernel), xj_fr (xj_fr hR.2.2 f1 (by decide +kernel)) f2 (by decide +kernel)⟩⟩
theorem lw_why (x1 : Int32) (hh : HI HT h) (hj : JT h) (hR : RJ h) : ∃ (r : Int32) (h1 h2 : List pC), Run prog E pV1 120 mX7_why [.ref 0, .int x1] h (some (.int r), h1, 0, 0) ∧ Run prog E pV1 120 mX8_why [.ref 110, .int x1] h1 (some (.int r), h2, 0, 0) ∧ (∃ o, pobj h1 110 = some o ∧ o.1 = 8) ∧ HI HT h2 ∧ JT h2 ∧ RJ h2 := by
  have ex1 := i32_b x1
  have tx : ri h 34 6 = ri h 111 1 := (sub_rel (R' := [((8, 34, 6), (0, 111, 1), 0, 14)]) hR.1 (by decide) _ List.mem_cons_self)
  by_cases c1 : x1.toInt ≤ -1
  · obtain ⟨r, h1, h2, q1, q2, q3, p1, p2, p3, p4⟩ := pr_ok1 (E := E) (x1 := x1) cp_whyl rfl rfl (List.cons_ne_nil _ _) (List.cons_ne_nil _ _) (fun _ h => absurd h List.not_mem_nil) hh hj hR.1 hR.2.1 ⟨⟨by omega, by omega⟩, trivial⟩ pBd.nl (fun e he => by cases he)
    exact ⟨r, h1, h2, q1, q2, q3, p1, p2, p3.1, p3.2, xj_fr hR.2.2 p4 (by decide +kernel)⟩
  by_cases c2 : 3 ≤ x1.toInt
  · obtain ⟨r, h1, h2, q1, q2, q3, p1, p2, p3, p4⟩ := pr_ok1 (E := E) (x1 := x1) cp_whyh rfl rfl (List.cons_ne_nil _ _) (List.cons_ne_nil _ _) (fun _ h => absurd h List.not_mem_nil) hh hj hR.1 hR.2.1 ⟨⟨by omega, by omega⟩, trivial⟩ pBd.nl (fun e he => by cases he)
    exact ⟨r, h1, h2, q1, q2, q3, p1, p2, p3.1, p3.2, xj_fr hR.2.2 p4 (by decide +kernel)⟩
  rcases (show x1.toInt = 0 ∨ x1.toInt = 1 ∨ x1.toInt = 2 by omega) with c | c | c
  · obtain rfl : x1 = nI 0 := Int32.toInt_inj.mp (by rw [nI_toInt (by decide)]; show x1.toInt = 0; omega)
    obtain ⟨r1, h1, q1, hh1, hj1, f1, rfl⟩ := ox_ok (E := E) (xs := [nI 0]) (R' := ro_why0) (Q := fun r h' => r = some (.int (ri h 38 0))) ox_why0 rfl (fun _ h => absurd h List.not_mem_nil) hj hh (fun q hq => by obtain rfl := List.mem_singleton.mp hq; rfl) (pBd.cs (i32_b _).1 (i32_b _).2 pBd.nl) ⟨⟨by rw [nI_toInt (by decide)]; decide, by rw [nI_toInt (by decide)]; decide⟩, trivial⟩ (fun e he => by cases he) (fun σ Γ C Δ x r h' he ha _ hC _ hr => by
      obtain ⟨a1, u, a2, a3⟩ := ecV_ok he hC hr
      have s2 : σ 2 = (ri h 38 0).toInt := ha 2 (by decide)
      rw [a2, Int32.toInt_inj.mp ((zsy (a3 _ rfl)).trans s2)])
    have q2 := why_r (E := E) (k := 0) (by decide) hh1 (xj_fr hR.2.2 f1 (by decide +kernel)).1 ((ri_fr f1 (by decide)).trans (tx.trans (ri_fr f1 (by decide)).symm))
    rw [ri_fr (a := 38) (i := 0) f1 (by decide)] at q2
    exact ⟨_, h1, h1, q1, q2, mobj hh1, hh1, hj1, pRel_fr hR.1 f1 (by decide +kernel), cRel_fr hR.2.1 f1 (by decide +kernel), xj_fr hR.2.2 f1 (by decide +kernel)⟩
  · obtain rfl : x1 = nI 1 := Int32.toInt_inj.mp (by rw [nI_toInt (by decide)]; show x1.toInt = 1; omega)
    obtain ⟨r1, h1, q1, hh1, hj1, f1, rfl⟩ := ox_ok (E := E) (xs := [nI 1]) (R' := ro_why1) (Q := fun r h' => r = some (.int (ri h 38 1))) ox_why1 rfl (fun _ h => absurd h List.not_mem_nil) hj hh (fun q hq => by obtain rfl := List.mem_singleton.mp hq; rfl) (pBd.cs (i32_b _).1 (i32_b _).2 pBd.nl) ⟨⟨by rw [nI_toInt (by decide)]; decide, by rw [nI_toInt (by decide)]; decide⟩, trivial⟩ (fun e he => by cases he) (fun σ Γ C Δ x r h' he ha _ hC _ hr => by
      obtain ⟨a1, u, a2, a3⟩ := ecV_ok he hC hr
      have s2 : σ 2 = (ri h 38 1).toInt := ha 2 (by decide)
      rw [a2, Int32.toInt_inj.mp ((zsy (a3 _ rfl)).trans s2)])
    have q2 := why_r (E := E) (k := 1) (by decide) hh1 (xj_fr hR.2.2 f1 (by decide +kernel)).1 ((ri_fr f1 (by decide)).trans (tx.trans (ri_fr f1 (by decide)).symm))
    rw [ri_fr (a := 38) (i := 1) f1 (by decide)] at q2
    exact ⟨_, h1, h1, q1, q2, mobj hh1, hh1, hj1, pRel_fr hR.1 f1 (by decide +kernel), cRel_fr hR.2.1 f1 (by decide +kernel), xj_fr hR.2.2 f1 (by decide +kernel)⟩
  · obtain rfl : x1 = nI 2 := Int32.toInt_inj.mp (by rw [nI_toInt (by decide)]; show x1.toInt = 2; omega)
    obtain ⟨r1, h1, q1, hh1, hj1, f1, rfl⟩ := ox_ok (E := E) (xs := [nI 2]) (R' := ro_why2) (Q := fun r h' => r = some (.int (ri h 38 2))) ox_why2 rfl (fun _ h => absurd h List.not_mem_nil) hj hh (fun q hq => by obtain rfl := List.mem_singleton.mp hq; rfl) (pBd.cs (i32_b _).1 (i32_b _).2 pBd.nl) ⟨⟨by rw [nI_toInt (by decide)]; decide, by rw [nI_toInt (by decide)]; decide⟩, trivial⟩ (fun e he => by cases he) (fun σ Γ C Δ x r h' he ha _ hC _ hr => by
      obtain ⟨a1, u, a2, a3⟩ := ecV_ok he hC hr
      have s2 : σ 2 = (ri h 38 2).toInt := ha 2 (by decide)
      rw [a2, Int32.toInt_inj.mp ((zsy (a3 _ rfl)).trans s2)])
    have q2 := why_r (E := E) (k := 2) (by decide) hh1 (xj_fr hR.2.2 f1 (by decide +kernel)).1 ((ri_fr f1 (by decide)).trans (tx.trans (ri_fr f1 (by decide)).symm))
    rw [ri_fr (a := 38) (i := 2) f1 (by decide)] at q2
    exact ⟨_, h1, h1, q1, q2, mobj hh1, hh1, hj1, pRel_fr hR.1 f1 (by decide +kernel), cRel_fr hR.2.1 f1 (by decide +kernel), xj_fr hR.2.2 f1 (by decide +kernel)⟩
theorem lw_sheet (x1 x2 x3 : Int32) (hh : HI HT h) (hj : JT h) (hR : RJ h) : ∃ (r1 r2 : Int32) (h1 h2 : List pC), Run prog E pV1 120 mX7_sheet [.ref 0, .int x1, .int x2, .int x3] h (some (.int r1), h1, 0, 0) ∧ Run prog E pV1 120 mX8_sheet [.ref 110, .int x1, .int x2, .int x3] h1 (some (.int r2), h2, 0, 0) ∧ (∃ o, pobj h1 110 = some o ∧ o.1 = 8) ∧ HI HT h2 ∧ JT h2 ∧ RJ h2 := by
  obtain ⟨r1, h1, q1, hh1, f1, hj1⟩ := pub_of (E := E) (a := 0) (kg_c_sheet JT_P hands) (N := mX7_sheet) rfl (List.cons_ne_nil _ _) [x1, x2, x3] rfl (fun q => by cases q) (Nat.le_of_ble_eq_true rfl) hh hj
  obtain ⟨r2, h2, q2, hh2, f2, hj2⟩ := pub_of (E := E) (a := 110) (kg_r_sheet JT_P hands) (N := mX8_sheet) rfl (List.cons_ne_nil _ _) [x1, x2, x3] rfl (fun q => by cases q) (Nat.le_of_ble_eq_true rfl) hh1 hj1
  exact ⟨r1, r2, h1, h2, q1, q2, mobj hh1, hh2, hj2, ⟨pRel_fr (pRel_fr hR.1 f1 (by decide +kernel)) f2 (by decide +kernel), cRel_fr (cRel_fr hR.2.1 f1 (by decide +kernel)) f2 (by decide +kernel), xj_fr (xj_fr hR.2.2 f1 (by decide +kernel)) f2 (by decide +kernel)⟩⟩
theorem lw_mark (x1 x2 x3 : Int32) (hh : HI HT h) (hj : JT h) (hR : RJ h) : ∃ (r1 r2 : Int32) (h1 h2 : List pC), Run prog E pV1 120 mX7_mark [.ref 0, .int x1, .int x2, .int x3] h (some (.int r1), h1, 0, 0) ∧ Run prog E pV1 120 mX8_mark [.ref 110, .int x1, .int x2, .int x3] h1 (some (.int r2), h2, 0, 0) ∧ (∃ o, pobj h1 110 = some o ∧ o.1 = 8) ∧ HI HT h2 ∧ JT h2 ∧ RJ h2 := by
  obtain ⟨r1, h1, q1, hh1, f1, hj1⟩ := pub_of (E := E) (a := 0) (kg_c_mark JT_P hands) (N := mX7_mark) rfl (List.cons_ne_nil _ _) [x1, x2, x3] rfl (fun q => by cases q) (Nat.le_of_ble_eq_true rfl) hh hj
  obtain ⟨r2, h2, q2, hh2, f2, hj2⟩ := pub_of (E := E) (a := 110) (kg_r_mark JT_P hands) (N := mX8_mark) rfl (List.cons_ne_nil _ _) [x1, x2, x3] rfl (fun q => by cases q) (Nat.le_of_ble_eq_true rfl) hh1 hj1
  exact ⟨r1, r2, h1, h2, q1, q2, mobj hh1, hh2, hj2, ⟨pRel_fr (pRel_fr hR.1 f1 (by decide +kernel)) f2 (by decide +kernel), cRel_fr (cRel_fr hR.2.1 f1 (by decide +kernel)) f2 (by decide +kernel), xj_fr (xj_fr hR.2.2 f1 (by decide +kernel)) f2 (by decide +kernel)⟩⟩
theorem lw_pour (x1 : Int32) (hh : HI HT h) (hj : JT h) (hR : RJ h) : ∃ (r1 r2 : Int32) (h1 h2 : List pC), Run prog E pV1 120 mX7_pour [.ref 0, .int x1] h (some (.int r1), h1, 0, 0) ∧ Run prog E pV1 120 mX8_pour [.ref 110, .int x1] h1 (some (.int r2), h2, 0, 0) ∧ (∃ o, pobj h1 110 = some o ∧ o.1 = 8) ∧ HI HT h2 ∧ JT h2 ∧ RJ h2 := by
  obtain ⟨r1, h1, q1, hh1, f1, hj1⟩ := pub_of (E := E) (a := 0) (kg_c_pourF) (N := mX7_pour) rfl (List.cons_ne_nil _ _) [x1] rfl (fun q => by cases q) (Nat.le_of_ble_eq_true rfl) hh hj
  obtain ⟨r2, h2, q2, hh2, f2, hj2⟩ := pub_of (E := E) (a := 110) (kg_r_pourF) (N := mX8_pour) rfl (List.cons_ne_nil _ _) [x1] rfl (fun q => by cases q) (Nat.le_of_ble_eq_true rfl) hh1 hj1
  exact ⟨r1, r2, h1, h2, q1, q2, mobj hh1, hh2, hj2, ⟨pRel_fr (pRel_fr hR.1 f1 (by decide +kernel)) f2 (by decide +kernel), cRel_fr (cRel_fr hR.2.1 f1 (by decide +kernel)) f2 (by decide +kernel), xj_fr (xj_fr hR.2.2 f1 (by decide +kernel)) f2 (by decide +kernel)⟩⟩
theorem lw_reads (x1 : Int32) (hh : HI HT h) (hj : JT h) (hR : RJ h) : ∃ (r1 r2 : Int32) (h1 h2 : List pC), Run prog E pV1 120 mX7_reads [.ref 0, .int x1] h (some (.int r1), h1, 0, 0) ∧ Run prog E pV1 120 mX8_reads [.ref 110, .int x1] h1 (some (.int r2), h2, 0, 0) ∧ (∃ o, pobj h1 110 = some o ∧ o.1 = 8) ∧ HI HT h2 ∧ JT h2 ∧ RJ h2 := by
  obtain ⟨r1, h1, q1, hh1, f1, hj1⟩ := pub_of (E := E) (a := 0) (kg_c_reads JT_P hands) (N := mX7_reads) rfl (List.cons_ne_nil _ _) [x1] rfl (fun q => by cases q) (Nat.le_of_ble_eq_true rfl) hh hj
  obtain ⟨r2, h2, q2, hh2, f2, hj2⟩ := pub_of (E := E) (a := 110) (kg_r_reads JT_P hands) (N := mX8_reads) rfl (List.cons_ne_nil _ _) [x1] rfl (fun q => by cases q) (Nat.le_of_ble_eq_true rfl) hh1 hj1
  exact ⟨r1, r2, h1, h2, q1, q2, mobj hh1, hh2, hj2, ⟨pRel_fr (pRel_fr hR.1 f1 (by decide +kernel)) f2 (by decide +kernel), cRel_fr (cRel_fr hR.2.1 f1 (by decide +kernel)) f2 (by decide +kernel), xj_fr (xj_fr hR.2.2 f1 (by decide +kernel)) f2 (by decide +kernel)⟩⟩
theorem lw_copy (x1 x2 x3 x4 x5 : Int32) (hh : HI HT h) (hj : JT h) (hR : RJ h) : ∃ (r1 r2 : Int32) (h1 h2 : List pC), Run prog E pV1 120 mX7_copy [.ref 0, .int x1, .int x2, .int x3, .int x4, .int x5] h (some (.int r1), h1, 0, 0) ∧ Run prog E pV1 120 mX8_copy [.ref 110, .int x1, .int x2, .int x3, .int x4, .int x5] h1 (some (.int r2), h2, 0, 0) ∧ (∃ o, pobj h1 110 = some o ∧ o.1 = 8) ∧ HI HT h2 ∧ JT h2 ∧ RJ h2 := by
  obtain ⟨r1, h1, q1, hh1, f1, hj1⟩ := pub_of (E := E) (a := 0) (kg_c_copy JT_P hands) (N := mX7_copy) rfl (List.cons_ne_nil _ _) [x1, x2, x3, x4, x5] rfl (fun q => by cases q) (Nat.le_of_ble_eq_true rfl) hh hj
  obtain ⟨r2, h2, q2, hh2, f2, hj2⟩ := pub_of (E := E) (a := 110) hd_copy (N := mX8_copy) rfl (List.cons_ne_nil _ _) [x1, x2, x3, x4, x5] rfl (fun q => by cases q) (Nat.le_of_ble_eq_true rfl) hh1 hj1
  exact ⟨r1, r2, h1, h2, q1, q2, mobj hh1, hh2, hj2, ⟨pRel_fr (pRel_fr hR.1 f1 (by decide +kernel)) f2 (by decide +kernel), cRel_fr (cRel_fr hR.2.1 f1 (by decide +kernel)) f2 (by decide +kernel), xj_fr (xj_fr hR.2.2 f1 (by decide +kernel)) f2 (by decide +kernel)⟩⟩
theorem lw_lay (x1 x2 x3 : Int32) (hh : HI HT h) (hj : JT h) (hR : RJ h) : ∃ (r1 r2 : Int32) (h1 h2 : List pC), Run prog E pV1 120 mX7_lay [.ref 0, .int x1, .int x2, .int x3] h (some (.int r1), h1, 0, 0) ∧ Run prog E pV1 120 mX8_lay [.ref 110, .int x1, .int x2, .int x3] h1 (some (.int r2), h2, 0, 0) ∧ (∃ o, pobj h1 110 = some o ∧ o.1 = 8) ∧ HI HT h2 ∧ JT h2 ∧ RJ h2 := by
  obtain ⟨r1, h1, q1, hh1, f1, hj1⟩ := pub_of (E := E) (a := 0) (kg_c_lay JT_P hands) (N := mX7_lay) rfl (List.cons_ne_nil _ _) [x1, x2, x3] rfl (fun q => by cases q) (Nat.le_of_ble_eq_true rfl) hh hj
  obtain ⟨r2, h2, q2, hh2, f2, hj2⟩ := pub_of (E := E) (a := 110) (kg_r_lay JT_P hands) (N := mX8_lay) rfl (List.cons_ne_nil _ _) [x1, x2, x3] rfl (fun q => by cases q) (Nat.le_of_ble_eq_true rfl) hh1 hj1
  exact ⟨r1, r2, h1, h2, q1, q2, mobj hh1, hh2, hj2, ⟨pRel_fr (pRel_fr hR.1 f1 (by decide +kernel)) f2 (by decide +kernel), cRel_fr (cRel_fr hR.2.1 f1 (by decide +kernel)) f2 (by decide +kernel), xj_fr (xj_fr hR.2.2 f1 (by decide +kernel)) f2 (by decide +kernel)⟩⟩
theorem lw_ask (x1 x2 : Int32) (hh : HI HT h) (hj : JT h) (hR : RJ h) : ∃ (r1 r2 : Int32) (h1 h2 : List pC), Run prog E pV1 120 mX7_ask [.ref 0, .int x1, .int x2] h (some (.int r1), h1, 0, 0) ∧ Run prog E pV1 120 mX8_ask [.ref 110, .int x1, .int x2] h1 (some (.int r2), h2, 0, 0) ∧ (∃ o, pobj h1 110 = some o ∧ o.1 = 8) ∧ HI HT h2 ∧ JT h2 ∧ RJ h2 := by
  obtain ⟨r1, h1, q1, hh1, f1, hj1⟩ := pub_of (E := E) (a := 0) (kg_c_ask JT_P hands) (N := mX7_ask) rfl (List.cons_ne_nil _ _) [x1, x2] rfl (fun q => by cases q) (Nat.le_of_ble_eq_true rfl) hh hj
  obtain ⟨r2, h2, q2, hh2, f2, hj2⟩ := pub_of (E := E) (a := 110) (kg_r_ask JT_P hands) (N := mX8_ask) rfl (List.cons_ne_nil _ _) [x1, x2] rfl (fun q => by cases q) (Nat.le_of_ble_eq_true rfl) hh1 hj1
  exact ⟨r1, r2, h1, h2, q1, q2, mobj hh1, hh2, hj2, ⟨pRel_fr (pRel_fr hR.1 f1 (by decide +kernel)) f2 (by decide +kernel), cRel_fr (cRel_fr hR.2.1 f1 (by decide +kernel)) f2 (by decide +kernel), xj_fr (xj_fr hR.2.2 f1 (by decide +kernel)) f2 (by decide +kernel)⟩⟩
theorem lw_item (x1 x2 : Int32) (hh : HI HT h) (hj : JT h) (hR : RJ h) : ∃ (r1 r2 : Int32) (h1 h2 : List pC), Run prog E pV1 120 mX7_item [.ref 0, .int x1, .int x2] h (some (.int r1), h1, 0, 0) ∧ Run prog E pV1 120 mX8_item [.ref 110, .int x1, .int x2] h1 (some (.int r2), h2, 0, 0) ∧ (∃ o, pobj h1 110 = some o ∧ o.1 = 8) ∧ HI HT h2 ∧ JT h2 ∧ RJ h2 := by
  obtain ⟨r1, h1, q1, hh1, f1, hj1⟩ := pub_of (E := E) (a := 0) (kg_c_item JT_P hands) (N := mX7_item) rfl (List.cons_ne_nil _ _) [x1, x2] rfl (fun q => by cases q) (Nat.le_of_ble_eq_true rfl) hh hj
  obtain ⟨r2, h2, q2, hh2, f2, hj2⟩ := pub_of (E := E) (a := 110) (kg_r_item JT_P hands) (N := mX8_item) rfl (List.cons_ne_nil _ _) [x1, x2] rfl (fun q => by cases q) (Nat.le_of_ble_eq_true rfl) hh1 hj1
  exact ⟨r1, r2, h1, h2, q1, q2, mobj hh1, hh2, hj2, ⟨pRel_fr (pRel_fr hR.1 f1 (by decide +kernel)) f2 (by decide +kernel), cRel_fr (cRel_fr hR.2.1 f1 (by decide +kernel)) f2 (by decide +kernel), xj_fr (xj_fr hR.2.2 f1 (by decide +kernel)) f2 (by decide +kernel)⟩⟩
theorem lw_rest (x1 x2 : Int32) (hh : HI HT h) (hj : JT h) (hR : RJ h) : ∃ (r1 r2 : Int32) (h1 h2 : List pC), Run prog E pV1 120 mX7_rest [.ref 0, .int x1, .int x2] h (some (.int r1), h1, 0, 0) ∧ Run prog E pV1 120 mX8_rest [.ref 110, .int x1, .int x2] h1 (some (.int r2), h2, 0, 0) ∧ (∃ o, pobj h1 110 = some o ∧ o.1 = 8) ∧ HI HT h2 ∧ JT h2 ∧ RJ h2 := by
  obtain ⟨r1, h1, q1, hh1, f1, hj1⟩ := pub_of (E := E) (a := 0) (kg_c_rest JT_P hands) (N := mX7_rest) rfl (List.cons_ne_nil _ _) [x1, x2] rfl (fun q => by cases q) (Nat.le_of_ble_eq_true rfl) hh hj
  obtain ⟨r2, h2, q2, hh2, f2, hj2⟩ := pub_of (E := E) (a := 110) (kg_r_rest JT_P hands) (N := mX8_rest) rfl (List.cons_ne_nil _ _) [x1, x2] rfl (fun q => by cases q) (Nat.le_of_ble_eq_true rfl) hh1 hj1
  exact ⟨r1, r2, h1, h2, q1, q2, mobj hh1, hh2, hj2, ⟨pRel_fr (pRel_fr hR.1 f1 (by decide +kernel)) f2 (by decide +kernel), cRel_fr (cRel_fr hR.2.1 f1 (by decide +kernel)) f2 (by decide +kernel), xj_fr (xj_fr hR.2.2 f1 (by decide +kernel)) f2 (by decide +kernel)⟩⟩
theorem lw_tell (x1 : Int32) (hh : HI HT h) (hj : JT h) (hR : RJ h) : ∃ (r1 r2 : Int32) (h1 h2 : List pC), Run prog E pV1 120 mX7_tell [.ref 0, .int x1] h (some (.int r1), h1, 0, 0) ∧ Run prog E pV1 120 mX8_tell [.ref 110, .int x1] h1 (some (.int r2), h2, 0, 0) ∧ (∃ o, pobj h1 110 = some o ∧ o.1 = 8) ∧ HI HT h2 ∧ JT h2 ∧ RJ h2 := by
  obtain ⟨r1, h1, q1, hh1, f1, hj1⟩ := pub_of (E := E) (a := 0) (kg_c_tell JT_P hands) (N := mX7_tell) rfl (List.cons_ne_nil _ _) [x1] rfl (fun q => by cases q) (Nat.le_of_ble_eq_true rfl) hh hj
  obtain ⟨r2, h2, q2, hh2, f2, hj2⟩ := pub_of (E := E) (a := 110) (kg_r_tell JT_P hands) (N := mX8_tell) rfl (List.cons_ne_nil _ _) [x1] rfl (fun q => by cases q) (Nat.le_of_ble_eq_true rfl) hh1 hj1
  exact ⟨r1, r2, h1, h2, q1, q2, mobj hh1, hh2, hj2, ⟨pRel_fr (pRel_fr hR.1 f1 (by decide +kernel)) f2 (by decide +kernel), cRel_fr (cRel_fr hR.2.1 f1 (by decide +kernel)) f2 (by decide +kernel), xj_fr (xj_fr hR.2.2 f1 (by decide +kernel)) f2 (by decide +kernel)⟩⟩
theorem lw_check (x1 : Int32) (hh : HI HT h) (hj : JT h) (hR : RJ h) : ∃ (r1 r2 : Int32) (h1 h2 : List pC), Run prog E pV1 120 mX7_check [.ref 0, .int x1] h (some (.int r1), h1, 0, 0) ∧ Run prog E pV1 120 mX8_check [.ref 110, .int x1] h1 (some (.int r2), h2, 0, 0) ∧ (∃ o, pobj h1 110 = some o ∧ o.1 = 8) ∧ HI HT h2 ∧ JT h2 ∧ RJ h2 := by
  obtain ⟨r1, h1, q1, hh1, f1, hj1⟩ := pub_of (E := E) (a := 0) (kg_c_check JT_P hands) (N := mX7_check) rfl (List.cons_ne_nil _ _) [x1] rfl (fun q => by cases q) (Nat.le_of_ble_eq_true rfl) hh hj
  obtain ⟨r2, h2, q2, hh2, f2, hj2⟩ := pub_of (E := E) (a := 110) (hd_check hands) (N := mX8_check) rfl (List.cons_ne_nil _ _) [x1] rfl (fun q => by cases q) (Nat.le_of_ble_eq_true rfl) hh1 hj1
  exact ⟨r1, r2, h1, h2, q1, q2, mobj hh1, hh2, hj2, ⟨pRel_fr (pRel_fr hR.1 f1 (by decide +kernel)) f2 (by decide +kernel), cRel_fr (cRel_fr hR.2.1 f1 (by decide +kernel)) f2 (by decide +kernel), xj_fr (xj_fr hR.2.2 f1 (by decide +kernel)) f2 (by decide +kernel)⟩⟩
theorem lw_keep (hh : HI HT h) (hj : JT h) (hR : RJ h) : ∃ (r1 r2 : Int32) (h1 h2 : List pC), Run prog E pV1 120 mX7_keep [.ref 0] h (some (.int r1), h1, 0, 0) ∧ Run prog E pV1 120 mX8_keep [.ref 110] h1 (some (.int r2), h2, 0, 0) ∧ (∃ o, pobj h1 110 = some o ∧ o.1 = 8) ∧ HI HT h2 ∧ JT h2 ∧ RJ h2 := by
  obtain ⟨r1, h1, q1, hh1, hj1, f1, zm, z0, z1, zi, zr⟩ := ox_ok (E := E) (xs := []) (R' := ro_keep) (Q := fun r h' => (∀ t ∈ MLc 34 48, ri h' t.1.1 t.1.2 = ri h t.2.1 t.2.2) ∧ ri h' 48 5 = ri h 34 5 ∧ ri h' 48 6 = ri h 34 6 ∧ ri h' 0 9 = 1 ∧ r = some (.int (ri h 34 5))) ox_keep rfl (fun _ h => absurd h List.not_mem_nil) hj hh (sub_rel hR.1 (by decide +kernel)) (pBd_ty hh (sub_rel hR.1 (by decide +kernel)) (by decide +kernel)) trivial (fun e he => by cases he) (fun σ Γ C Δ x r h' he ha _ hC _ hr => by
    obtain ⟨a1, u, a2, a3⟩ := ecV_ok he hC hr
    have s1 : σ 1 = (ri h 34 5).toInt := ha 1 (by decide)
    have s2 : σ 2 = (ri h 34 6).toInt := ha 2 (by decide)
    refine ⟨fun t ht => mv_ok (xs := []) (bx := []) (R' := ro_keep) (List.all_eq_true.mp (show (MLc 34 48).all (mvB ro_keep [(48, 5, (1, 1, 0, 1)), (48, 6, (1, 1, 0, 2)), (0, 9, (0, 1, 1, 0)), (52, 0, (1, 1, 0, 3)), (52, 1, (1, 1, 0, 4)), (52, 2, (1, 1, 0, 5))] 0) = true by decide +kernel) t ht) a1 ha rfl, Int32.toInt_inj.mp ((zsy (a1 _ List.mem_cons_self)).trans s1), Int32.toInt_inj.mp ((zsy (a1 _ (List.mem_cons_of_mem _ List.mem_cons_self))).trans s2), Int32.toInt_inj.mp (zcn (a1 _ (List.mem_cons_of_mem _ (List.mem_cons_of_mem _ List.mem_cons_self)))), ?_⟩
    rw [a2, Int32.toInt_inj.mp ((zsy (a3 _ rfl)).trans s1)])
  obtain ⟨h2, q2, hh2, hj2, f2, k1, k2⟩ := keep_x (E := E) hh1 hj1
  have e0 : ri h 34 5 = ri h 111 0 := (sub_rel (R' := [((8, 34, 5), (0, 111, 0), 0, 9)]) hR.1 (by decide) _ List.mem_cons_self)
  have e1 : ri h1 111 0 = ri h 111 0 := ri_fr f1 (by decide)
  subst zr
  rw [e1, ← e0] at q2
  have w6 : ri h2 34 6 = ri h 34 6 := by rw [ri_fr (a := 34) (i := 6) f2 (by decide), ri_fr (a := 34) (i := 6) f1 (by decide)]
  have i6 : ri h2 48 6 = ri h 34 6 := by rw [ri_fr (a := 48) (i := 6) f2 (by decide), z1]
  have x1 : LT 34 38 111 h2 := hR.2.2.1.mv w6 (fun k hk => by rw [ri_fr (a := 38) (i := k) f2 (nin_iff.mpr (by simp only [WKe, List.forall_mem_cons]; exact ⟨by omega, by omega, fun _ h => absurd h List.not_mem_nil⟩)), ri_fr (a := 38) (i := k) f1 (nin_iff.mpr (by simp only [List.forall_mem_cons]; exact ⟨by omega, by omega, by omega, by omega, by omega, fun _ h => absurd h List.not_mem_nil⟩))]) (fun t ht _ => by rw [ri_fr (a := 111) (i := 75 + 200 * t) f2 (nin_iff.mpr (by simp only [WKe, List.forall_mem_cons]; exact ⟨by omega, by omega, fun _ h => absurd h List.not_mem_nil⟩)), ri_fr (a := 111) (i := 75 + 200 * t) f1 (nin_iff.mpr (by simp only [List.forall_mem_cons]; exact ⟨by omega, by omega, by omega, by omega, by omega, fun _ h => absurd h List.not_mem_nil⟩))])
  have x2 : LT 48 52 112 h2 := hR.2.2.1.mv i6 (fun k hk => by
      rw [ri_fr (a := 52) (i := k) f2 (nin_iff.mpr (by simp only [WKe, List.forall_mem_cons]; exact ⟨by omega, by omega, fun _ h => absurd h List.not_mem_nil⟩))]
      exact zm _ (mlc_mem (S := 34) (D := 48) hk)) (fun t ht _ => by rw [k1 (75 + 200 * t) (by omega), ri_fr (a := 111) (i := 75 + 200 * t) f1 (nin_iff.mpr (by simp only [List.forall_mem_cons]; exact ⟨by omega, by omega, by omega, by omega, by omega, fun _ h => absurd h List.not_mem_nil⟩))])
  refine ⟨_, _, h1, h2, q1, q2, mobj hh1, hh2, hj2, fun q hq => ?_, cRel_fr (cRel_fr hR.2.1 f1 (by decide +kernel)) f2 (by decide +kernel), ⟨x1, x2⟩⟩
  rcases List.mem_append.mp hq with hq | hq
  · rcases List.mem_cons.mp hq with rfl | hq
    · exact pRel_fr (pRel_fr (R := [((8, 34, 5), (0, 111, 0), 0, 9)]) (sub_rel hR.1 (by decide)) f1 (by decide +kernel)) f2 (by decide +kernel) _ List.mem_cons_self
    rcases List.mem_cons.mp hq with rfl | hq
    · show ri h2 48 5 = ri h2 112 0
      rw [ri_fr (a := 48) (i := 5) f2 (by decide), z0, k1 0 (by decide), ri_fr (a := 111) (i := 0) f1 (by decide)]
      exact (sub_rel (R' := [((8, 34, 5), (0, 111, 0), 0, 9)]) hR.1 (by decide) _ List.mem_cons_self)
    rcases List.mem_cons.mp hq with rfl | hq
    · show ri h2 0 9 = ri h2 110 3
      rw [ri_fr (a := 0) (i := 9) f2 (by decide), zi, k2]
    rcases List.mem_cons.mp hq with rfl | hq
    · exact pRel_fr (pRel_fr (R := [((8, 34, 6), (0, 111, 1), 0, 14)]) (sub_rel hR.1 (by decide)) f1 (by decide +kernel)) f2 (by decide +kernel) _ List.mem_cons_self
    rcases List.mem_cons.mp hq with rfl | hq
    · show ri h2 48 6 = ri h2 112 1
      rw [ri_fr (a := 48) (i := 6) f2 (by decide), z1, k1 1 (by decide), ri_fr (a := 111) (i := 1) f1 (by decide)]
      exact (sub_rel (R' := [((8, 34, 6), (0, 111, 1), 0, 14)]) hR.1 (by decide) _ List.mem_cons_self)
    rcases List.mem_cons.mp hq with rfl | hq
    · exact pRel_fr (pRel_fr (R := [((4, 76, 1), (10, 110, 15), 0, 96)]) (sub_rel hR.1 (by decide)) f1 (by decide +kernel)) f2 (by decide +kernel) _ List.mem_cons_self
    rcases List.mem_cons.mp hq with rfl | hq
    · show ri h2 38 0 = ri h2 38 0
      rfl
    rcases List.mem_cons.mp hq with rfl | hq
    · show ri h2 38 1 = ri h2 38 1
      rfl
    rcases List.mem_cons.mp hq with rfl | hq
    · show ri h2 38 2 = ri h2 38 2
      rfl
    rcases List.mem_cons.mp hq with rfl | hq
    · show ri h2 52 0 = ri h2 52 0
      rfl
    rcases List.mem_cons.mp hq with rfl | hq
    · show ri h2 52 1 = ri h2 52 1
      rfl
    obtain rfl := List.mem_singleton.mp hq
    show ri h2 52 2 = ri h2 52 2
    rfl
  · exact pRel_fr (pRel_fr (R := TPs) (rl_t hR.1) f1 (by decide +kernel)) f2 (by decide +kernel) q hq
theorem lw_back (hh : HI HT h) (hj : JT h) (hR : RJ h) : ∃ (r1 r2 : Int32) (h1 h2 : List pC), Run prog E pV1 120 mX7_back [.ref 0] h (some (.int r1), h1, 0, 0) ∧ Run prog E pV1 120 mX8_back [.ref 110] h1 (some (.int r2), h2, 0, 0) ∧ (∃ o, pobj h1 110 = some o ∧ o.1 = 8) ∧ HI HT h2 ∧ JT h2 ∧ RJ h2 := by
  have t9 : 0 ≤ (ri h 0 9).toInt ∧ (ri h 0 9).toInt ≤ 1 := pBd_ty (R := [((9, 0, 9), (10, 110, 3), 0, 1)]) hh (sub_rel hR.1 (by decide +kernel)) (by decide +kernel) _ List.mem_cons_self
  have e9 : ri h 0 9 = ri h 110 3 := (sub_rel (R' := [((9, 0, 9), (10, 110, 3), 0, 1)]) hR.1 (by decide) _ List.mem_cons_self)
  by_cases c9 : (ri h 0 9).toInt ≤ 0
  · have z9 : ri h 110 3 = 0 := by
      rw [← e9]
      exact Int32.toInt_inj.mp (by rw [show (0 : Int32).toInt = 0 by decide]; omega)
    obtain ⟨r1, h1, q1, hh1, hj1, f1, z3⟩ := ox_ok (E := E) (xs := []) (R' := ro_back0) (Q := fun r h' => r = some (.int (-1000000002))) ox_back0 rfl (fun _ h => absurd h List.not_mem_nil) hj hh (sub_rel hR.1 (by decide +kernel)) (pBd.cs t9.1 c9 pBd.nl) trivial (fun e he => by cases he) (fun σ Γ C Δ x r h' he ha _ hC _ hr => by
      obtain ⟨a1, u, a2, a3⟩ := ecV_ok he hC hr
      rw [a2, show u = -1000000002 from Int32.toInt_inj.mp ((zcn (a3 _ rfl)).trans (by decide))])
    obtain ⟨h2, q2, hh2, hj2, f2, k1, k2⟩ := back_x (E := E) hh1 hj1
    have e3 : ri h1 110 3 = 0 := (ri_fr f1 (by decide)).trans z9
    subst z3
    rw [if_pos e3] at q2
    have hR1 : pRel RL h1 := pRel_fr hR.1 f1 (by decide +kernel)
    have g : ∀ a i, ri h2 a i = ri h a i := fun a i => by
      by_cases ea : a = 111
      · subst ea
        rw [k1 e3 i]
        exact ri_fr f1 rfl
      · rw [ri_fr (a := a) (i := i) f2 (nin_iff.mpr (by simp only [WBa, List.forall_mem_cons]; exact ⟨by omega, fun _ h => absurd h List.not_mem_nil⟩))]
        exact ri_fr f1 rfl
    have x1 : LT 34 38 111 h2 := hR.2.2.1.mv (g _ _) (fun k _ => g _ _) (fun t _ _ => g _ _)
    have x2 : LT 48 52 112 h2 := hR.2.2.2.mv (g _ _) (fun k _ => g _ _) (fun t _ _ => g _ _)
    refine ⟨_, _, h1, h2, q1, q2, mobj hh1, hh2, hj2, fun q hq => ?_, cRel_fr (cRel_fr hR.2.1 f1 (by decide +kernel)) f2 (by decide +kernel), ⟨x1, x2⟩⟩
    have g : ∀ a i, ri h2 a i = ri h a i := fun a i => by
      by_cases ea : a = 111
      · subst ea
        rw [k1 e3 i]
        exact ri_fr f1 rfl
      · rw [ri_fr (a := a) (i := i) f2 (nin_iff.mpr (by simp only [WBa, List.forall_mem_cons]; exact ⟨by omega, fun _ h => absurd h List.not_mem_nil⟩))]
        exact ri_fr f1 rfl
    rcases List.mem_append.mp hq with hq | hq
    · rcases List.mem_cons.mp hq with rfl | hq
      · show ri h2 34 5 = ri h2 111 0
        rw [ri_fr (a := 34) (i := 5) f2 (by decide), k1 e3 0]
        exact hR1 _ (List.mem_append_left _ List.mem_cons_self)
      rcases List.mem_cons.mp hq with rfl | hq
      · exact pRel_fr (pRel_fr (R := [((8, 48, 5), (0, 112, 0), 0, 9)]) (sub_rel hR.1 (by decide)) f1 (by decide +kernel)) f2 (by decide +kernel) _ List.mem_cons_self
      rcases List.mem_cons.mp hq with rfl | hq
      · exact pRel_fr (pRel_fr (R := [((9, 0, 9), (10, 110, 3), 0, 1)]) (sub_rel hR.1 (by decide)) f1 (by decide +kernel)) f2 (by decide +kernel) _ List.mem_cons_self
      rcases List.mem_cons.mp hq with rfl | hq
      · show ri h2 34 6 = ri h2 111 1
        rw [ri_fr (a := 34) (i := 6) f2 (by decide), k1 e3 1]
        exact hR1 _ (List.mem_append_left _ (List.mem_cons_of_mem _ (List.mem_cons_of_mem _ (List.mem_cons_of_mem _ List.mem_cons_self))))
      rcases List.mem_cons.mp hq with rfl | hq
      · exact pRel_fr (pRel_fr (R := [((8, 48, 6), (0, 112, 1), 0, 14)]) (sub_rel hR.1 (by decide)) f1 (by decide +kernel)) f2 (by decide +kernel) _ List.mem_cons_self
      rcases List.mem_cons.mp hq with rfl | hq
      · exact pRel_fr (pRel_fr (R := [((4, 76, 1), (10, 110, 15), 0, 96)]) (sub_rel hR.1 (by decide)) f1 (by decide +kernel)) f2 (by decide +kernel) _ List.mem_cons_self
      rcases List.mem_cons.mp hq with rfl | hq
      · show ri h2 38 0 = ri h2 38 0
        rfl
      rcases List.mem_cons.mp hq with rfl | hq
      · show ri h2 38 1 = ri h2 38 1
        rfl
      rcases List.mem_cons.mp hq with rfl | hq
      · show ri h2 38 2 = ri h2 38 2
        rfl
      rcases List.mem_cons.mp hq with rfl | hq
      · show ri h2 52 0 = ri h2 52 0
        rfl
      rcases List.mem_cons.mp hq with rfl | hq
      · show ri h2 52 1 = ri h2 52 1
        rfl
      obtain rfl := List.mem_singleton.mp hq
      show ri h2 52 2 = ri h2 52 2
      rfl
    · exact (by rw [g, g]; exact rl_g hR.1 q hq)
  · have hB1 : pBd ro_back1 h := pBd.cs (ty_48_5 hh hR).1 (ty_48_5 hh hR).2 (pBd.cs (ty_48_6 hh hR).1 (ty_48_6 hh hR).2 (pBd.cs (by show (1 : Int) ≤ (ri h 0 9).toInt; omega) t9.2 (pBd.cs (i32_b _).1 (i32_b _).2 (pBd.cs (i32_b _).1 (i32_b _).2 (pBd.cs (i32_b _).1 (i32_b _).2 pBd.nl)))))
    obtain ⟨r1, h1, q1, hh1, hj1, f1, zm, z0, z1, zr⟩ := ox_ok (E := E) (xs := []) (R' := ro_back1) (Q := fun r h' => (∀ t ∈ MLc 48 34, ri h' t.1.1 t.1.2 = ri h t.2.1 t.2.2) ∧ ri h' 34 5 = ri h 48 5 ∧ ri h' 34 6 = ri h 48 6 ∧ r = some (.int (ri h 48 5))) ox_back1 rfl (fun _ h => absurd h List.not_mem_nil) hj hh (kn_rel hR.1 hR.2.1 hB1 (by decide +kernel)) hB1 trivial (fun e he => by cases he) (fun σ Γ C Δ x r h' he ha _ hC _ hr => by
      obtain ⟨a1, u, a2, a3⟩ := ecV_ok he hC hr
      have s1 : σ 1 = (ri h 48 5).toInt := ha 1 (by decide)
      have s2 : σ 2 = (ri h 48 6).toInt := ha 2 (by decide)
      refine ⟨fun t ht => mv_ok (xs := []) (bx := []) (R' := ro_back1) (List.all_eq_true.mp (show (MLc 48 34).all (mvB ro_back1 [(34, 5, (1, 1, 0, 1)), (34, 6, (1, 1, 0, 2)), (38, 0, (1, 1, 0, 4)), (38, 1, (1, 1, 0, 5)), (38, 2, (1, 1, 0, 6))] 0) = true by decide +kernel) t ht) a1 ha rfl, Int32.toInt_inj.mp ((zsy (a1 _ List.mem_cons_self)).trans s1), Int32.toInt_inj.mp ((zsy (a1 _ (List.mem_cons_of_mem _ List.mem_cons_self))).trans s2), ?_⟩
      rw [a2, Int32.toInt_inj.mp ((zsy (a3 _ rfl)).trans s1)])
    obtain ⟨h2, q2, hh2, hj2, f2, k1, k2⟩ := back_x (E := E) hh1 hj1
    have n3 : ¬ ri h1 110 3 = 0 := fun e => c9 (by
      rw [e9, ← ri_fr (a := 110) (i := 3) f1 (by decide), e]
      decide)
    subst zr
    have e8 : ri h 48 5 = ri h 112 0 := (sub_rel (R' := [((8, 48, 5), (0, 112, 0), 0, 9)]) hR.1 (by decide) _ List.mem_cons_self)
    have e1 : ri h1 112 0 = ri h 112 0 := ri_fr f1 (by decide)
    rw [if_neg n3, e1, ← e8] at q2
    have w6 : ri h2 34 6 = ri h 48 6 := by rw [ri_fr (a := 34) (i := 6) f2 (by decide), z1]
    have i6 : ri h2 48 6 = ri h 48 6 := by rw [ri_fr (a := 48) (i := 6) f2 (by decide), ri_fr (a := 48) (i := 6) f1 (by decide)]
    have x1 : LT 34 38 111 h2 := hR.2.2.2.mv w6 (fun k hk => by
        rw [ri_fr (a := 38) (i := k) f2 (nin_iff.mpr (by simp only [WBa, List.forall_mem_cons]; exact ⟨by omega, fun _ h => absurd h List.not_mem_nil⟩))]
        exact zm _ (mlc_mem (S := 48) (D := 34) hk)) (fun t ht _ => by rw [k2 n3 (75 + 200 * t) (by omega), ri_fr (a := 112) (i := 75 + 200 * t) f1 (nin_iff.mpr (by simp only [List.forall_mem_cons]; exact ⟨by omega, by omega, by omega, by omega, fun _ h => absurd h List.not_mem_nil⟩))])
    have x2 : LT 48 52 112 h2 := hR.2.2.2.mv i6 (fun k hk => by rw [ri_fr (a := 52) (i := k) f2 (nin_iff.mpr (by simp only [WBa, List.forall_mem_cons]; exact ⟨by omega, fun _ h => absurd h List.not_mem_nil⟩)), ri_fr (a := 52) (i := k) f1 (nin_iff.mpr (by simp only [List.forall_mem_cons]; exact ⟨by omega, by omega, by omega, by omega, fun _ h => absurd h List.not_mem_nil⟩))]) (fun t ht _ => by rw [ri_fr (a := 112) (i := 75 + 200 * t) f2 (nin_iff.mpr (by simp only [WBa, List.forall_mem_cons]; exact ⟨by omega, fun _ h => absurd h List.not_mem_nil⟩)), ri_fr (a := 112) (i := 75 + 200 * t) f1 (nin_iff.mpr (by simp only [List.forall_mem_cons]; exact ⟨by omega, by omega, by omega, by omega, fun _ h => absurd h List.not_mem_nil⟩))])
    refine ⟨_, _, h1, h2, q1, q2, mobj hh1, hh2, hj2, fun q hq => ?_, cRel_fr (cRel_fr hR.2.1 f1 (by decide +kernel)) f2 (by decide +kernel), ⟨x1, x2⟩⟩
    rcases List.mem_append.mp hq with hq | hq
    · rcases List.mem_cons.mp hq with rfl | hq
      · show ri h2 34 5 = ri h2 111 0
        rw [ri_fr (a := 34) (i := 5) f2 (by decide), z0, k2 n3 0 (by decide), ri_fr (a := 112) (i := 0) f1 (by decide)]
        exact (sub_rel (R' := [((8, 48, 5), (0, 112, 0), 0, 9)]) hR.1 (by decide) _ List.mem_cons_self)
      rcases List.mem_cons.mp hq with rfl | hq
      · exact pRel_fr (pRel_fr (R := [((8, 48, 5), (0, 112, 0), 0, 9)]) (sub_rel hR.1 (by decide)) f1 (by decide +kernel)) f2 (by decide +kernel) _ List.mem_cons_self
      rcases List.mem_cons.mp hq with rfl | hq
      · exact pRel_fr (pRel_fr (R := [((9, 0, 9), (10, 110, 3), 0, 1)]) (sub_rel hR.1 (by decide)) f1 (by decide +kernel)) f2 (by decide +kernel) _ List.mem_cons_self
      rcases List.mem_cons.mp hq with rfl | hq
      · show ri h2 34 6 = ri h2 111 1
        rw [ri_fr (a := 34) (i := 6) f2 (by decide), z1, k2 n3 1 (by decide), ri_fr (a := 112) (i := 1) f1 (by decide)]
        exact (sub_rel (R' := [((8, 48, 6), (0, 112, 1), 0, 14)]) hR.1 (by decide) _ List.mem_cons_self)
      rcases List.mem_cons.mp hq with rfl | hq
      · exact pRel_fr (pRel_fr (R := [((8, 48, 6), (0, 112, 1), 0, 14)]) (sub_rel hR.1 (by decide)) f1 (by decide +kernel)) f2 (by decide +kernel) _ List.mem_cons_self
      rcases List.mem_cons.mp hq with rfl | hq
      · exact pRel_fr (pRel_fr (R := [((4, 76, 1), (10, 110, 15), 0, 96)]) (sub_rel hR.1 (by decide)) f1 (by decide +kernel)) f2 (by decide +kernel) _ List.mem_cons_self
      rcases List.mem_cons.mp hq with rfl | hq
      · show ri h2 38 0 = ri h2 38 0
        rfl
      rcases List.mem_cons.mp hq with rfl | hq
      · show ri h2 38 1 = ri h2 38 1
        rfl
      rcases List.mem_cons.mp hq with rfl | hq
      · show ri h2 38 2 = ri h2 38 2
        rfl
      rcases List.mem_cons.mp hq with rfl | hq
      · show ri h2 52 0 = ri h2 52 0
        rfl
      rcases List.mem_cons.mp hq with rfl | hq
      · show ri h2 52 1 = ri h2 52 1
        rfl
      obtain rfl := List.mem_singleton.mp hq
      show ri h2 52 2 = ri h2 52 2
      rfl
    · exact pRel_fr (pRel_fr (R := TPs) (rl_t hR.1) f1 (by decide +kernel)) f2 (by decide +kernel) q hq
theorem lw_count (x1 : Int32) (hh : HI HT h) (hj : JT h) (hR : RJ h) : ∃ (r1 r2 : Int32) (h1 h2 : List pC), Run prog E pV1 120 mX7_count [.ref 0, .int x1] h (some (.int r1), h1, 0, 0) ∧ Run prog E pV1 120 mX8_count [.ref 110, .int x1] h1 (some (.int r2), h2, 0, 0) ∧ (∃ o, pobj h1 110 = some o ∧ o.1 = 8) ∧ HI HT h2 ∧ JT h2 ∧ RJ h2 := by
  obtain ⟨r1, h1, q1, hh1, f1, hj1⟩ := pub_of (E := E) (a := 0) (kg_c_count JT_P hands) (N := mX7_count) rfl (List.cons_ne_nil _ _) [x1] rfl (fun q => by cases q) (Nat.le_of_ble_eq_true rfl) hh hj
  obtain ⟨r2, h2, q2, hh2, f2, hj2⟩ := pub_of (E := E) (a := 110) (kg_r_count JT_P hands) (N := mX8_count) rfl (List.cons_ne_nil _ _) [x1] rfl (fun q => by cases q) (Nat.le_of_ble_eq_true rfl) hh1 hj1
  exact ⟨r1, r2, h1, h2, q1, q2, mobj hh1, hh2, hj2, ⟨pRel_fr (pRel_fr hR.1 f1 (by decide +kernel)) f2 (by decide +kernel), cRel_fr (cRel_fr hR.2.1 f1 (by decide +kernel)) f2 (by decide +kernel), xj_fr (xj_fr hR.2.2 f1 (by decide +kernel)) f2 (by decide +kernel)⟩⟩
end LWS
