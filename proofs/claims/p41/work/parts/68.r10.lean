/-! ===== what each pair of calls does: the methods ===== -/
section LWS
variable {E : pX} {h : List pC}
theorem rub_ty {a : Nat} (hh : HI HT h) (he : elT HT 6 a 2 2 = some (.inl (1, 8))) : 1 ≤ (ri h a 2).toInt ∧ (ri h a 2).toInt ≤ 8 := (ri_ty hh he).2
theorem ty_34_5 (hh : HI HT h) (hR : RJ h) : 0 ≤ (ri h 34 5).toInt ∧ (ri h 34 5).toInt ≤ 9 := by
  have e : ri h 34 5 = ri h 111 0 := (hR.1 _ List.mem_cons_self)
  have c := (ri_ty (k := 8) (a := 34) (i := 5) (p := (0, 9)) hh rfl).2
  have r := (ri_ty (k := 0) (a := 111) (i := 0) (p := (0, 9)) hh rfl).2
  rw [← e] at r
  dsimp only at c r
  omega
theorem ty_48_5 (hh : HI HT h) (hR : RJ h) : 0 ≤ (ri h 48 5).toInt ∧ (ri h 48 5).toInt ≤ 9 := by
  have e : ri h 48 5 = ri h 112 0 := (hR.1 _ (List.mem_cons_of_mem _ List.mem_cons_self))
  have c := (ri_ty (k := 8) (a := 48) (i := 5) (p := (0, 9)) hh rfl).2
  have r := (ri_ty (k := 0) (a := 112) (i := 0) (p := (0, 9)) hh rfl).2
  rw [← e] at r
  dsimp only at c r
  omega
theorem ty_0_9 (hh : HI HT h) (hR : RJ h) : 0 ≤ (ri h 0 9).toInt ∧ (ri h 0 9).toInt ≤ 1 := by
  have e : ri h 0 9 = ri h 110 3 := (hR.1 _ (List.mem_cons_of_mem _ (List.mem_cons_of_mem _ List.mem_cons_self)))
  have c := (ri_ty (k := 9) (a := 0) (i := 9) (p := (0, 1)) hh rfl).2
  have r := (ri_ty (k := 10) (a := 110) (i := 3) (p := (0, 1)) hh rfl).2
  rw [← e] at r
  dsimp only at c r
  omega
theorem ty_82_1 (hh : HI HT h) (hR : RJ h) : (-1) ≤ (ri h 82 1).toInt ∧ (ri h 82 1).toInt ≤ 1 := by
  have e : ri h 82 1 = ri h 114 0 := (hR.1 _ (List.mem_cons_of_mem _ (List.mem_cons_of_mem _ (List.mem_cons_of_mem _ List.mem_cons_self))))
  have c := (ri_ty (k := 5) (a := 82) (i := 1) (p := ((-2147483648), 2147483647)) hh rfl).2
  have r := (ri_ty (k := 0) (a := 114) (i := 0) (p := ((-1), 1)) hh rfl).2
  rw [← e] at r
  dsimp only at c r
  omega
theorem ty_84_1 (hh : HI HT h) (hR : RJ h) : (-1) ≤ (ri h 84 1).toInt ∧ (ri h 84 1).toInt ≤ 1 := by
  have e : ri h 84 1 = ri h 114 1 := (hR.1 _ (List.mem_cons_of_mem _ (List.mem_cons_of_mem _ (List.mem_cons_of_mem _ (List.mem_cons_of_mem _ List.mem_cons_self)))))
  have c := (ri_ty (k := 5) (a := 84) (i := 1) (p := ((-2147483648), 2147483647)) hh rfl).2
  have r := (ri_ty (k := 0) (a := 114) (i := 1) (p := ((-1), 1)) hh rfl).2
  rw [← e] at r
  dsimp only at c r
  omega
theorem ty_86_1 (hh : HI HT h) (hR : RJ h) : (-1) ≤ (ri h 86 1).toInt ∧ (ri h 86 1).toInt ≤ 1 := by
  have e : ri h 86 1 = ri h 114 2 := (hR.1 _ (List.mem_cons_of_mem _ (List.mem_cons_of_mem _ (List.mem_cons_of_mem _ (List.mem_cons_of_mem _ (List.mem_cons_of_mem _ List.mem_cons_self))))))
  have c := (ri_ty (k := 5) (a := 86) (i := 1) (p := ((-2147483648), 2147483647)) hh rfl).2
  have r := (ri_ty (k := 0) (a := 114) (i := 2) (p := ((-1), 1)) hh rfl).2
  rw [← e] at r
  dsimp only at c r
  omega
theorem ty_88_1 (hh : HI HT h) (hR : RJ h) : (-1) ≤ (ri h 88 1).toInt ∧ (ri h 88 1).toInt ≤ 1 := by
  have e : ri h 88 1 = ri h 114 3 := (hR.1 _ (List.mem_cons_of_mem _ (List.mem_cons_of_mem _ (List.mem_cons_of_mem _ (List.mem_cons_of_mem _ (List.mem_cons_of_mem _ (List.mem_cons_of_mem _ List.mem_cons_self)))))))
  have c := (ri_ty (k := 5) (a := 88) (i := 1) (p := ((-2147483648), 2147483647)) hh rfl).2
  have r := (ri_ty (k := 0) (a := 114) (i := 3) (p := ((-1), 1)) hh rfl).2
  rw [← e] at r
  dsimp only at c r
  omega
theorem ty_82_2 (hh : HI HT h) (hR : RJ h) : 0 ≤ (ri h 82 2).toInt ∧ (ri h 82 2).toInt ≤ 24 := by
  have e : ri h 82 2 = ri h 115 0 := (hR.1 _ (List.mem_cons_of_mem _ (List.mem_cons_of_mem _ (List.mem_cons_of_mem _ (List.mem_cons_of_mem _ (List.mem_cons_of_mem _ (List.mem_cons_of_mem _ (List.mem_cons_of_mem _ List.mem_cons_self))))))))
  have c := (ri_ty (k := 5) (a := 82) (i := 2) (p := ((-2147483648), 2147483647)) hh rfl).2
  have r := (ri_ty (k := 0) (a := 115) (i := 0) (p := (0, 24)) hh rfl).2
  rw [← e] at r
  dsimp only at c r
  omega
theorem ty_84_2 (hh : HI HT h) (hR : RJ h) : 0 ≤ (ri h 84 2).toInt ∧ (ri h 84 2).toInt ≤ 24 := by
  have e : ri h 84 2 = ri h 115 1 := (hR.1 _ (List.mem_cons_of_mem _ (List.mem_cons_of_mem _ (List.mem_cons_of_mem _ (List.mem_cons_of_mem _ (List.mem_cons_of_mem _ (List.mem_cons_of_mem _ (List.mem_cons_of_mem _ (List.mem_cons_of_mem _ List.mem_cons_self)))))))))
  have c := (ri_ty (k := 5) (a := 84) (i := 2) (p := ((-2147483648), 2147483647)) hh rfl).2
  have r := (ri_ty (k := 0) (a := 115) (i := 1) (p := (0, 24)) hh rfl).2
  rw [← e] at r
  dsimp only at c r
  omega
theorem ty_86_2 (hh : HI HT h) (hR : RJ h) : 0 ≤ (ri h 86 2).toInt ∧ (ri h 86 2).toInt ≤ 24 := by
  have e : ri h 86 2 = ri h 115 2 := (hR.1 _ (List.mem_cons_of_mem _ (List.mem_cons_of_mem _ (List.mem_cons_of_mem _ (List.mem_cons_of_mem _ (List.mem_cons_of_mem _ (List.mem_cons_of_mem _ (List.mem_cons_of_mem _ (List.mem_cons_of_mem _ (List.mem_cons_of_mem _ List.mem_cons_self))))))))))
  have c := (ri_ty (k := 5) (a := 86) (i := 2) (p := ((-2147483648), 2147483647)) hh rfl).2
  have r := (ri_ty (k := 0) (a := 115) (i := 2) (p := (0, 24)) hh rfl).2
  rw [← e] at r
  dsimp only at c r
  omega
theorem ty_88_2 (hh : HI HT h) (hR : RJ h) : 0 ≤ (ri h 88 2).toInt ∧ (ri h 88 2).toInt ≤ 24 := by
  have e : ri h 88 2 = ri h 115 3 := (hR.1 _ (List.mem_cons_of_mem _ (List.mem_cons_of_mem _ (List.mem_cons_of_mem _ (List.mem_cons_of_mem _ (List.mem_cons_of_mem _ (List.mem_cons_of_mem _ (List.mem_cons_of_mem _ (List.mem_cons_of_mem _ (List.mem_cons_of_mem _ (List.mem_cons_of_mem _ List.mem_cons_self)))))))))))
  have c := (ri_ty (k := 5) (a := 88) (i := 2) (p := ((-2147483648), 2147483647)) hh rfl).2
  have r := (ri_ty (k := 0) (a := 115) (i := 3) (p := (0, 24)) hh rfl).2
  rw [← e] at r
  dsimp only at c r
  omega
theorem ty_90_2 (hh : HI HT h) (hR : RJ h) : 0 ≤ (ri h 90 2).toInt ∧ (ri h 90 2).toInt ≤ 3 := by
  have e : ri h 90 2 = ri h 117 0 := (hR.1 _ (List.mem_cons_of_mem _ (List.mem_cons_of_mem _ (List.mem_cons_of_mem _ (List.mem_cons_of_mem _ (List.mem_cons_of_mem _ (List.mem_cons_of_mem _ (List.mem_cons_of_mem _ (List.mem_cons_of_mem _ (List.mem_cons_of_mem _ (List.mem_cons_of_mem _ (List.mem_cons_of_mem _ List.mem_cons_self))))))))))))
  have c := (ri_ty (k := 7) (a := 90) (i := 2) (p := ((-2147483648), 2147483647)) hh rfl).2
  have r := (ri_ty (k := 0) (a := 117) (i := 0) (p := (0, 3)) hh rfl).2
  rw [← e] at r
  dsimp only at c r
  omega
theorem ty_94_2 (hh : HI HT h) (hR : RJ h) : 0 ≤ (ri h 94 2).toInt ∧ (ri h 94 2).toInt ≤ 3 := by
  have e : ri h 94 2 = ri h 117 1 := (hR.1 _ (List.mem_cons_of_mem _ (List.mem_cons_of_mem _ (List.mem_cons_of_mem _ (List.mem_cons_of_mem _ (List.mem_cons_of_mem _ (List.mem_cons_of_mem _ (List.mem_cons_of_mem _ (List.mem_cons_of_mem _ (List.mem_cons_of_mem _ (List.mem_cons_of_mem _ (List.mem_cons_of_mem _ (List.mem_cons_of_mem _ List.mem_cons_self)))))))))))))
  have c := (ri_ty (k := 7) (a := 94) (i := 2) (p := ((-2147483648), 2147483647)) hh rfl).2
  have r := (ri_ty (k := 0) (a := 117) (i := 1) (p := (0, 3)) hh rfl).2
  rw [← e] at r
  dsimp only at c r
  omega
theorem ty_98_2 (hh : HI HT h) (hR : RJ h) : 0 ≤ (ri h 98 2).toInt ∧ (ri h 98 2).toInt ≤ 3 := by
  have e : ri h 98 2 = ri h 117 2 := (hR.1 _ (List.mem_cons_of_mem _ (List.mem_cons_of_mem _ (List.mem_cons_of_mem _ (List.mem_cons_of_mem _ (List.mem_cons_of_mem _ (List.mem_cons_of_mem _ (List.mem_cons_of_mem _ (List.mem_cons_of_mem _ (List.mem_cons_of_mem _ (List.mem_cons_of_mem _ (List.mem_cons_of_mem _ (List.mem_cons_of_mem _ (List.mem_cons_of_mem _ List.mem_cons_self))))))))))))))
  have c := (ri_ty (k := 7) (a := 98) (i := 2) (p := ((-2147483648), 2147483647)) hh rfl).2
  have r := (ri_ty (k := 0) (a := 117) (i := 2) (p := (0, 3)) hh rfl).2
  rw [← e] at r
  dsimp only at c r
  omega
theorem ty_102_2 (hh : HI HT h) (hR : RJ h) : 0 ≤ (ri h 102 2).toInt ∧ (ri h 102 2).toInt ≤ 3 := by
  have e : ri h 102 2 = ri h 117 3 := (hR.1 _ (List.mem_cons_of_mem _ (List.mem_cons_of_mem _ (List.mem_cons_of_mem _ (List.mem_cons_of_mem _ (List.mem_cons_of_mem _ (List.mem_cons_of_mem _ (List.mem_cons_of_mem _ (List.mem_cons_of_mem _ (List.mem_cons_of_mem _ (List.mem_cons_of_mem _ (List.mem_cons_of_mem _ (List.mem_cons_of_mem _ (List.mem_cons_of_mem _ (List.mem_cons_of_mem _ List.mem_cons_self)))))))))))))))
  have c := (ri_ty (k := 7) (a := 102) (i := 2) (p := ((-2147483648), 2147483647)) hh rfl).2
  have r := (ri_ty (k := 0) (a := 117) (i := 3) (p := (0, 3)) hh rfl).2
  rw [← e] at r
  dsimp only at c r
  omega
theorem ty_106_2 (hh : HI HT h) (hR : RJ h) : 0 ≤ (ri h 106 2).toInt ∧ (ri h 106 2).toInt ≤ 3 := by
  have e : ri h 106 2 = ri h 117 4 := (hR.1 _ (List.mem_cons_of_mem _ (List.mem_cons_of_mem _ (List.mem_cons_of_mem _ (List.mem_cons_of_mem _ (List.mem_cons_of_mem _ (List.mem_cons_of_mem _ (List.mem_cons_of_mem _ (List.mem_cons_of_mem _ (List.mem_cons_of_mem _ (List.mem_cons_of_mem _ (List.mem_cons_of_mem _ (List.mem_cons_of_mem _ (List.mem_cons_of_mem _ (List.mem_cons_of_mem _ (List.mem_cons_of_mem _ List.mem_cons_self))))))))))))))))
  have c := (ri_ty (k := 7) (a := 106) (i := 2) (p := ((-2147483648), 2147483647)) hh rfl).2
  have r := (ri_ty (k := 0) (a := 117) (i := 4) (p := (0, 3)) hh rfl).2
  rw [← e] at r
  dsimp only at c r
  omega
theorem lf_rubbing (x1 x2 x3 : Int32) (hh : HI HT h) (hj : JT h) (hR : RJ h) : ∃ (r1 r2 : Int32) (h1 h2 : List pC), Run prog E pV1 120 mX7_rubbing [.ref 0, .int x1, .int x2, .int x3] h (some (.int r1), h1, 0, 0) ∧ Run prog E pV1 120 mX8_rubbing [.ref 110, .int x1, .int x2, .int x3] h1 (some (.int r2), h2, 0, 0) ∧ (∃ o, pobj h1 110 = some o ∧ o.1 = 8) ∧ HI HT h2 ∧ JT h2 ∧ RJ h2 := by
  obtain ⟨r, h1, h2, q1, q2, q3, p1, p2, p3, p4⟩ := pr_ok3 (E := E) (x1 := x1) (x2 := x2) (x3 := x3) cp_rubbing rfl rfl (List.cons_ne_nil _ _) (List.cons_ne_nil _ _) (fun _ h => absurd h List.not_mem_nil) hh hj hR.1 hR.2.1 ⟨i32_b x1, i32_b x2, i32_b x3, trivial⟩ (pBd.cs (ty_34_5 hh hR).1 (ty_34_5 hh hR).2 pBd.nl) (fun e he => by cases he)
  exact ⟨r, r, h1, h2, q1, q2, q3, p1, p2, p3.1, p3.2, xj_fr hR.2.2 p4 (by decide +kernel)⟩
theorem lw_rubbing (x1 x2 x3 : Int32) (hh : HI HT h) (hj : JT h) (hR : RJ h) : ∃ (r1 r2 : Int32) (h1 h2 : List pC), Run prog E pV1 120 mX7_rubbing [.ref 0, .int x1, .int x2, .int x3] h (some (.int r1), h1, 0, 0) ∧ Run prog E pV1 120 mX8_rubbing [.ref 110, .int x1, .int x2, .int x3] h1 (some (.int r2), h2, 0, 0) ∧ (∃ o, pobj h1 110 = some o ∧ o.1 = 8) ∧ HI HT h2 ∧ JT h2 ∧ RJ h2 := by
  have ex1 := i32_b x1
  have ex2 := i32_b x2
  have ex3 := i32_b x3
  have t34_5 := ty_34_5 hh hR
  exact lf_rubbing x1 x2 x3 hh hj hR
theorem lw_told (x1 x2 : Int32) (hh : HI HT h) (hj : JT h) (hR : RJ h) : ∃ (r1 r2 : Int32) (h1 h2 : List pC), Run prog E pV1 120 mX7_told [.ref 0, .int x1, .int x2] h (some (.int r1), h1, 0, 0) ∧ Run prog E pV1 120 mX8_told [.ref 110, .int x1, .int x2] h1 (some (.int r2), h2, 0, 0) ∧ (∃ o, pobj h1 110 = some o ∧ o.1 = 8) ∧ HI HT h2 ∧ JT h2 ∧ RJ h2 := by
  obtain ⟨r1, h1, q1, hh1, f1, hj1⟩ := pub_of (E := E) (a := 0) (kg_c_told JT_P hands) (N := mX7_told) rfl (List.cons_ne_nil _ _) [x1, x2] rfl (fun q => by cases q) (Nat.le_of_ble_eq_true rfl) hh hj
  obtain ⟨r2, h2, q2, hh2, f2, hj2⟩ := pub_of (E := E) (a := 110) (kg_r_told JT_P hands) (N := mX8_told) rfl (List.cons_ne_nil _ _) [x1, x2] rfl (fun q => by cases q) (Nat.le_of_ble_eq_true rfl) hh1 hj1
  exact ⟨r1, r2, h1, h2, q1, q2, mobj hh1, hh2, hj2, ⟨pRel_fr (pRel_fr hR.1 f1 (by decide +kernel)) f2 (by decide +kernel), cRel_fr (cRel_fr hR.2.1 f1 (by decide +kernel)) f2 (by decide +kernel), xj_fr (xj_fr hR.2.2 f1 (by decide +kernel)) f2 (by decide +kernel)⟩⟩
theorem lw_says (x1 x2 : Int32) (hh : HI HT h) (hj : JT h) (hR : RJ h) : ∃ (r1 r2 : Int32) (h1 h2 : List pC), Run prog E pV1 120 mX7_says [.ref 0, .int x1, .int x2] h (some (.int r1), h1, 0, 0) ∧ Run prog E pV1 120 mX8_says [.ref 110, .int x1, .int x2] h1 (some (.int r2), h2, 0, 0) ∧ (∃ o, pobj h1 110 = some o ∧ o.1 = 8) ∧ HI HT h2 ∧ JT h2 ∧ RJ h2 := by
  obtain ⟨r1, h1, q1, hh1, f1, hj1⟩ := pub_of (E := E) (a := 0) (kg_c_says JT_P hands) (N := mX7_says) rfl (List.cons_ne_nil _ _) [x1, x2] rfl (fun q => by cases q) (Nat.le_of_ble_eq_true rfl) hh hj
  obtain ⟨r2, h2, q2, hh2, f2, hj2⟩ := pub_of (E := E) (a := 110) (kg_r_says JT_P hands) (N := mX8_says) rfl (List.cons_ne_nil _ _) [x1, x2] rfl (fun q => by cases q) (Nat.le_of_ble_eq_true rfl) hh1 hj1
  exact ⟨r1, r2, h1, h2, q1, q2, mobj hh1, hh2, hj2, ⟨pRel_fr (pRel_fr hR.1 f1 (by decide +kernel)) f2 (by decide +kernel), cRel_fr (cRel_fr hR.2.1 f1 (by decide +kernel)) f2 (by decide +kernel), xj_fr (xj_fr hR.2.2 f1 (by decide +kernel)) f2 (by decide +kernel)⟩⟩
theorem lw_as (x1 x2 : Int32) (hh : HI HT h) (hj : JT h) (hR : RJ h) : ∃ (r1 r2 : Int32) (h1 h2 : List pC), Run prog E pV1 120 mX7_as [.ref 0, .int x1, .int x2] h (some (.int r1), h1, 0, 0) ∧ Run prog E pV1 120 mX8_as [.ref 110, .int x1, .int x2] h1 (some (.int r2), h2, 0, 0) ∧ (∃ o, pobj h1 110 = some o ∧ o.1 = 8) ∧ HI HT h2 ∧ JT h2 ∧ RJ h2 := by
  obtain ⟨r1, h1, q1, hh1, f1, hj1⟩ := pub_of (E := E) (a := 0) (kg_c_as JT_P hands) (N := mX7_as) rfl (List.cons_ne_nil _ _) [x1, x2] rfl (fun q => by cases q) (Nat.le_of_ble_eq_true rfl) hh hj
  obtain ⟨r2, h2, q2, hh2, f2, hj2⟩ := pub_of (E := E) (a := 110) (kg_r_as JT_P hands) (N := mX8_as) rfl (List.cons_ne_nil _ _) [x1, x2] rfl (fun q => by cases q) (Nat.le_of_ble_eq_true rfl) hh1 hj1
  exact ⟨r1, r2, h1, h2, q1, q2, mobj hh1, hh2, hj2, ⟨pRel_fr (pRel_fr hR.1 f1 (by decide +kernel)) f2 (by decide +kernel), cRel_fr (cRel_fr hR.2.1 f1 (by decide +kernel)) f2 (by decide +kernel), xj_fr (xj_fr hR.2.2 f1 (by decide +kernel)) f2 (by decide +kernel)⟩⟩
theorem lw_turns (x1 x2 : Int32) (hh : HI HT h) (hj : JT h) (hR : RJ h) : ∃ (r1 r2 : Int32) (h1 h2 : List pC), Run prog E pV1 120 mX7_turns [.ref 0, .int x1, .int x2] h (some (.int r1), h1, 0, 0) ∧ Run prog E pV1 120 mX8_turns [.ref 110, .int x1, .int x2] h1 (some (.int r2), h2, 0, 0) ∧ (∃ o, pobj h1 110 = some o ∧ o.1 = 8) ∧ HI HT h2 ∧ JT h2 ∧ RJ h2 := by
  obtain ⟨r1, h1, q1, hh1, f1, hj1⟩ := pub_of (E := E) (a := 0) (kg_c_turnsF) (N := mX7_turns) rfl (List.cons_ne_nil _ _) [x1, x2] rfl (fun q => by cases q) (Nat.le_of_ble_eq_true rfl) hh hj
  obtain ⟨r2, h2, q2, hh2, f2, hj2⟩ := pub_of (E := E) (a := 110) (kg_r_turnsF) (N := mX8_turns) rfl (List.cons_ne_nil _ _) [x1, x2] rfl (fun q => by cases q) (Nat.le_of_ble_eq_true rfl) hh1 hj1
  exact ⟨r1, r2, h1, h2, q1, q2, mobj hh1, hh2, hj2, ⟨pRel_fr (pRel_fr hR.1 f1 (by decide +kernel)) f2 (by decide +kernel), cRel_fr (cRel_fr hR.2.1 f1 (by decide +kernel)) f2 (by decide +kernel), xj_fr (xj_fr hR.2.2 f1 (by decide +kernel)) f2 (by decide +kernel)⟩⟩
theorem lw_set (x1 x2 x3 : Int32) (hh : HI HT h) (hj : JT h) (hR : RJ h) : ∃ (r1 r2 : Int32) (h1 h2 : List pC), Run prog E pV1 120 mX7_set [.ref 0, .int x1, .int x2, .int x3] h (some (.int r1), h1, 0, 0) ∧ Run prog E pV1 120 mX8_set [.ref 110, .int x1, .int x2, .int x3] h1 (some (.int r2), h2, 0, 0) ∧ (∃ o, pobj h1 110 = some o ∧ o.1 = 8) ∧ HI HT h2 ∧ JT h2 ∧ RJ h2 := by
  obtain ⟨r1, h1, q1, hh1, f1, hj1⟩ := pub_of (E := E) (a := 0) (kg_c_setF) (N := mX7_set) rfl (List.cons_ne_nil _ _) [x1, x2, x3] rfl (fun q => by cases q) (Nat.le_of_ble_eq_true rfl) hh hj
  obtain ⟨r2, h2, q2, hh2, f2, hj2⟩ := pub_of (E := E) (a := 110) (kg_r_setF) (N := mX8_set) rfl (List.cons_ne_nil _ _) [x1, x2, x3] rfl (fun q => by cases q) (Nat.le_of_ble_eq_true rfl) hh1 hj1
  exact ⟨r1, r2, h1, h2, q1, q2, mobj hh1, hh2, hj2, ⟨pRel_fr (pRel_fr hR.1 f1 (by decide +kernel)) f2 (by decide +kernel), cRel_fr (cRel_fr hR.2.1 f1 (by decide +kernel)) f2 (by decide +kernel), xj_fr (xj_fr hR.2.2 f1 (by decide +kernel)) f2 (by decide +kernel)⟩⟩
theorem lw_carve (x1 x2 : Int32) (hh : HI HT h) (hj : JT h) (hR : RJ h) : ∃ (r1 r2 : Int32) (h1 h2 : List pC), Run prog E pV1 120 mX7_carve [.ref 0, .int x1, .int x2] h (some (.int r1), h1, 0, 0) ∧ Run prog E pV1 120 mX8_carve [.ref 110, .int x1, .int x2] h1 (some (.int r2), h2, 0, 0) ∧ (∃ o, pobj h1 110 = some o ∧ o.1 = 8) ∧ HI HT h2 ∧ JT h2 ∧ RJ h2 := by
  obtain ⟨r1, h1, q1, hh1, f1, hj1⟩ := pub_of (E := E) (a := 0) (kg_c_carveF) (N := mX7_carve) rfl (List.cons_ne_nil _ _) [x1, x2] rfl (fun q => by cases q) (Nat.le_of_ble_eq_true rfl) hh hj
  obtain ⟨r2, h2, q2, hh2, f2, hj2⟩ := pub_of (E := E) (a := 110) (kg_r_carveF) (N := mX8_carve) rfl (List.cons_ne_nil _ _) [x1, x2] rfl (fun q => by cases q) (Nat.le_of_ble_eq_true rfl) hh1 hj1
  exact ⟨r1, r2, h1, h2, q1, q2, mobj hh1, hh2, hj2, ⟨pRel_fr (pRel_fr hR.1 f1 (by decide +kernel)) f2 (by decide +kernel), cRel_fr (cRel_fr hR.2.1 f1 (by decide +kernel)) f2 (by decide +kernel), xj_fr (xj_fr hR.2.2 f1 (by decide +kernel)) f2 (by decide +kernel)⟩⟩
theorem lw_carved (x1 : Int32) (hh : HI HT h) (hj : JT h) (hR : RJ h) : ∃ (r1 r2 : Int32) (h1 h2 : List pC), Run prog E pV1 120 mX7_carved [.ref 0, .int x1] h (some (.int r1), h1, 0, 0) ∧ Run prog E pV1 120 mX8_carved [.ref 110, .int x1] h1 (some (.int r2), h2, 0, 0) ∧ (∃ o, pobj h1 110 = some o ∧ o.1 = 8) ∧ HI HT h2 ∧ JT h2 ∧ RJ h2 := by
  obtain ⟨r1, h1, q1, hh1, f1, hj1⟩ := pub_of (E := E) (a := 0) (kg_c_carved JT_P hands) (N := mX7_carved) rfl (List.cons_ne_nil _ _) [x1] rfl (fun q => by cases q) (Nat.le_of_ble_eq_true rfl) hh hj
  obtain ⟨r2, h2, q2, hh2, f2, hj2⟩ := pub_of (E := E) (a := 110) (kg_r_carved JT_P hands) (N := mX8_carved) rfl (List.cons_ne_nil _ _) [x1] rfl (fun q => by cases q) (Nat.le_of_ble_eq_true rfl) hh1 hj1
  exact ⟨r1, r2, h1, h2, q1, q2, mobj hh1, hh2, hj2, ⟨pRel_fr (pRel_fr hR.1 f1 (by decide +kernel)) f2 (by decide +kernel), cRel_fr (cRel_fr hR.2.1 f1 (by decide +kernel)) f2 (by decide +kernel), xj_fr (xj_fr hR.2.2 f1 (by decide +kernel)) f2 (by decide +kernel)⟩⟩
theorem lw_deal (x1 : Int32) (hh : HI HT h) (hj : JT h) (hR : RJ h) : ∃ (r1 r2 : Int32) (h1 h2 : List pC), Run prog E pV1 120 mX7_deal [.ref 0, .int x1] h (some (.int r1), h1, 0, 0) ∧ Run prog E pV1 120 mX8_deal [.ref 110, .int x1] h1 (some (.int r2), h2, 0, 0) ∧ (∃ o, pobj h1 110 = some o ∧ o.1 = 8) ∧ HI HT h2 ∧ JT h2 ∧ RJ h2 := by
  have ex1 := i32_b x1
  by_cases c1 : x1.toInt ≤ 0
  · obtain ⟨r, h1, h2, q1, q2, q3, p1, p2, p3, p4⟩ := pr_ok1 (E := E) (x1 := x1) cp_deall rfl rfl (List.cons_ne_nil _ _) (List.cons_ne_nil _ _) (fun _ h => absurd h List.not_mem_nil) hh hj hR.1 hR.2.1 ⟨⟨by omega, by omega⟩, trivial⟩ pBd.nl (fun e he => by cases he)
    exact ⟨r, r, h1, h2, q1, q2, q3, p1, p2, p3.1, p3.2, xj_fr hR.2.2 p4 (by decide +kernel)⟩
  by_cases c2 : 10 ≤ x1.toInt
  · obtain ⟨r, h1, h2, q1, q2, q3, p1, p2, p3, p4⟩ := pr_ok1 (E := E) (x1 := x1) cp_dealh rfl rfl (List.cons_ne_nil _ _) (List.cons_ne_nil _ _) (fun _ h => absurd h List.not_mem_nil) hh hj hR.1 hR.2.1 ⟨⟨by omega, by omega⟩, trivial⟩ pBd.nl (fun e he => by cases he)
    exact ⟨r, r, h1, h2, q1, q2, q3, p1, p2, p3.1, p3.2, xj_fr hR.2.2 p4 (by decide +kernel)⟩
  have t5 := ty_34_5 hh hR
  have m5 : ri h 34 5 = ri h 111 0 := (sub_rel (R' := [((8, 34, 5), (0, 111, 0), 0, 9)]) hR.1 (by decide) _ List.mem_cons_self)
  obtain ⟨j, v1, h1, q1, b1, b2, hh1, hj1, f1, d1, d2, d3⟩ := deal_c (E := E) x1 ⟨by omega, by omega⟩ hh hj (m := (ri h 34 5).toInt.toNat) (by omega) (by omega)
  have g0 : ri h1 111 0 = ri h 111 0 := ri_fr f1 (by decide)
  obtain ⟨j', v2, h2, q2, b3, b4, hh2, hj2, f2, k1, k2, k3⟩ := deal_r (E := E) x1 ⟨by omega, by omega⟩ hh1 hj1 (m := (ri h 34 5).toInt.toNat) (by omega) (by rw [g0, ← m5]; omega)
  obtain rfl : j' = j := by omega
  obtain rfl : v2 = v1 := Int32.toInt_inj.mp (by omega)
  refine ⟨_, _, h1, h2, q1, q2, mobj hh1, hh2, hj2, fun q hq => ?_, cRel_fr (cRel_fr hR.2.1 f1 (by decide +kernel)) f2 (by decide +kernel), xj_fr (xj_fr hR.2.2 f1 (by decide +kernel)) f2 (by decide +kernel)⟩
  rcases List.mem_cons.mp hq with rfl | hq
  · show ri h2 34 5 = ri h2 111 0
    exact Int32.toInt_inj.mp (by rw [ri_fr (a := 34) (i := 5) f2 (by decide), d1, k1])
  rcases List.mem_cons.mp hq with rfl | hq
  · exact pRel_fr (pRel_fr (R := [((8, 48, 5), (0, 112, 0), 0, 9)]) (sub_rel hR.1 (by decide)) f1 (by decide +kernel)) f2 (by decide +kernel) _ List.mem_cons_self
  rcases List.mem_cons.mp hq with rfl | hq
  · exact pRel_fr (pRel_fr (R := [((9, 0, 9), (10, 110, 3), 0, 1)]) (sub_rel hR.1 (by decide)) f1 (by decide +kernel)) f2 (by decide +kernel) _ List.mem_cons_self
  rcases List.mem_cons.mp hq with rfl | hq
  · exact pRel_fr (pRel_fr (R := [((5, 82, 1), (0, 114, 0), (-1), 1)]) (sub_rel hR.1 (by decide)) f1 (by decide +kernel)) f2 (by decide +kernel) _ List.mem_cons_self
  rcases List.mem_cons.mp hq with rfl | hq
  · exact pRel_fr (pRel_fr (R := [((5, 84, 1), (0, 114, 1), (-1), 1)]) (sub_rel hR.1 (by decide)) f1 (by decide +kernel)) f2 (by decide +kernel) _ List.mem_cons_self
  rcases List.mem_cons.mp hq with rfl | hq
  · exact pRel_fr (pRel_fr (R := [((5, 86, 1), (0, 114, 2), (-1), 1)]) (sub_rel hR.1 (by decide)) f1 (by decide +kernel)) f2 (by decide +kernel) _ List.mem_cons_self
  rcases List.mem_cons.mp hq with rfl | hq
  · exact pRel_fr (pRel_fr (R := [((5, 88, 1), (0, 114, 3), (-1), 1)]) (sub_rel hR.1 (by decide)) f1 (by decide +kernel)) f2 (by decide +kernel) _ List.mem_cons_self
  rcases List.mem_cons.mp hq with rfl | hq
  · exact pRel_fr (pRel_fr (R := [((5, 82, 2), (0, 115, 0), 0, 24)]) (sub_rel hR.1 (by decide)) f1 (by decide +kernel)) f2 (by decide +kernel) _ List.mem_cons_self
  rcases List.mem_cons.mp hq with rfl | hq
  · exact pRel_fr (pRel_fr (R := [((5, 84, 2), (0, 115, 1), 0, 24)]) (sub_rel hR.1 (by decide)) f1 (by decide +kernel)) f2 (by decide +kernel) _ List.mem_cons_self
  rcases List.mem_cons.mp hq with rfl | hq
  · exact pRel_fr (pRel_fr (R := [((5, 86, 2), (0, 115, 2), 0, 24)]) (sub_rel hR.1 (by decide)) f1 (by decide +kernel)) f2 (by decide +kernel) _ List.mem_cons_self
  rcases List.mem_cons.mp hq with rfl | hq
  · exact pRel_fr (pRel_fr (R := [((5, 88, 2), (0, 115, 3), 0, 24)]) (sub_rel hR.1 (by decide)) f1 (by decide +kernel)) f2 (by decide +kernel) _ List.mem_cons_self
  rcases List.mem_cons.mp hq with rfl | hq
  · exact pRel_fr (pRel_fr (R := [((7, 90, 2), (0, 117, 0), 0, 3)]) (sub_rel hR.1 (by decide)) f1 (by decide +kernel)) f2 (by decide +kernel) _ List.mem_cons_self
  rcases List.mem_cons.mp hq with rfl | hq
  · exact pRel_fr (pRel_fr (R := [((7, 94, 2), (0, 117, 1), 0, 3)]) (sub_rel hR.1 (by decide)) f1 (by decide +kernel)) f2 (by decide +kernel) _ List.mem_cons_self
  rcases List.mem_cons.mp hq with rfl | hq
  · exact pRel_fr (pRel_fr (R := [((7, 98, 2), (0, 117, 2), 0, 3)]) (sub_rel hR.1 (by decide)) f1 (by decide +kernel)) f2 (by decide +kernel) _ List.mem_cons_self
  rcases List.mem_cons.mp hq with rfl | hq
  · exact pRel_fr (pRel_fr (R := [((7, 102, 2), (0, 117, 3), 0, 3)]) (sub_rel hR.1 (by decide)) f1 (by decide +kernel)) f2 (by decide +kernel) _ List.mem_cons_self
  obtain rfl := List.mem_singleton.mp hq
  exact pRel_fr (pRel_fr (R := [((7, 106, 2), (0, 117, 4), 0, 3)]) (sub_rel hR.1 (by decide)) f1 (by decide +kernel)) f2 (by decide +kernel) _ List.mem_cons_self
theorem lw_seed (x1 : Int32) (hh : HI HT h) (hj : JT h) (hR : RJ h) : ∃ (r1 r2 : Int32) (h1 h2 : List pC), Run prog E pV1 120 mX7_seed [.ref 0, .int x1] h (some (.int r1), h1, 0, 0) ∧ Run prog E pV1 120 mX8_seed [.ref 110, .int x1] h1 (some (.int r2), h2, 0, 0) ∧ (∃ o, pobj h1 110 = some o ∧ o.1 = 8) ∧ HI HT h2 ∧ JT h2 ∧ RJ h2 := by
  obtain ⟨r1, h1, q1, hh1, f1, hj1⟩ := pub_of (E := E) (a := 0) (kg_c_seedF) (N := mX7_seed) rfl (List.cons_ne_nil _ _) [x1] rfl (fun q => by cases q) (Nat.le_of_ble_eq_true rfl) hh hj
  obtain ⟨r2, h2, q2, hh2, f2, hj2⟩ := pub_of (E := E) (a := 110) (kg_r_seedF) (N := mX8_seed) rfl (List.cons_ne_nil _ _) [x1] rfl (fun q => by cases q) (Nat.le_of_ble_eq_true rfl) hh1 hj1
  exact ⟨r1, r2, h1, h2, q1, q2, mobj hh1, hh2, hj2, ⟨pRel_fr (pRel_fr hR.1 f1 (by decide +kernel)) f2 (by decide +kernel), cRel_fr (cRel_fr hR.2.1 f1 (by decide +kernel)) f2 (by decide +kernel), xj_fr (xj_fr hR.2.2 f1 (by decide +kernel)) f2 (by decide +kernel)⟩⟩
theorem lw_falseAt (x1 x2 : Int32) (hh : HI HT h) (hj : JT h) (hR : RJ h) : ∃ (r1 r2 : Int32) (h1 h2 : List pC), Run prog E pV1 120 mX7_falseAt [.ref 0, .int x1, .int x2] h (some (.int r1), h1, 0, 0) ∧ Run prog E pV1 120 mX8_falseAt [.ref 110, .int x1, .int x2] h1 (some (.int r2), h2, 0, 0) ∧ (∃ o, pobj h1 110 = some o ∧ o.1 = 8) ∧ HI HT h2 ∧ JT h2 ∧ RJ h2 := by
  obtain ⟨r1, h1, q1, hh1, f1, hj1⟩ := pub_of (E := E) (a := 0) (kg_c_falseAt JT_P hands) (N := mX7_falseAt) rfl (List.cons_ne_nil _ _) [x1, x2] rfl (fun q => by cases q) (Nat.le_of_ble_eq_true rfl) hh hj
  obtain ⟨r2, h2, q2, hh2, f2, hj2⟩ := pub_of (E := E) (a := 110) (kg_r_falseAt JT_P hands) (N := mX8_falseAt) rfl (List.cons_ne_nil _ _) [x1, x2] rfl (fun q => by cases q) (Nat.le_of_ble_eq_true rfl) hh1 hj1
  exact ⟨r1, r2, h1, h2, q1, q2, mobj hh1, hh2, hj2, ⟨pRel_fr (pRel_fr hR.1 f1 (by decide +kernel)) f2 (by decide +kernel), cRel_fr (cRel_fr hR.2.1 f1 (by decide +kernel)) f2 (by decide +kernel), xj_fr (xj_fr hR.2.2 f1 (by decide +kernel)) f2 (by decide +kernel)⟩⟩
theorem lw_fits (x1 x2 : Int32) (hh : HI HT h) (hj : JT h) (hR : RJ h) : ∃ (r1 r2 : Int32) (h1 h2 : List pC), Run prog E pV1 120 mX7_fits [.ref 0, .int x1, .int x2] h (some (.int r1), h1, 0, 0) ∧ Run prog E pV1 120 mX8_fits [.ref 110, .int x1, .int x2] h1 (some (.int r2), h2, 0, 0) ∧ (∃ o, pobj h1 110 = some o ∧ o.1 = 8) ∧ HI HT h2 ∧ JT h2 ∧ RJ h2 := by
  obtain ⟨r1, h1, q1, hh1, f1, hj1⟩ := pub_of (E := E) (a := 0) (kg_c_fits JT_P hands) (N := mX7_fits) rfl (List.cons_ne_nil _ _) [x1, x2] rfl (fun q => by cases q) (Nat.le_of_ble_eq_true rfl) hh hj
  obtain ⟨r2, h2, q2, hh2, f2, hj2⟩ := pub_of (E := E) (a := 110) (kg_r_fits JT_P hands) (N := mX8_fits) rfl (List.cons_ne_nil _ _) [x1, x2] rfl (fun q => by cases q) (Nat.le_of_ble_eq_true rfl) hh1 hj1
  exact ⟨r1, r2, h1, h2, q1, q2, mobj hh1, hh2, hj2, ⟨pRel_fr (pRel_fr hR.1 f1 (by decide +kernel)) f2 (by decide +kernel), cRel_fr (cRel_fr hR.2.1 f1 (by decide +kernel)) f2 (by decide +kernel), xj_fr (xj_fr hR.2.2 f1 (by decide +kernel)) f2 (by decide +kernel)⟩⟩
theorem lw_join (x1 x2 x3 : Int32) (hh : HI HT h) (hj : JT h) (hR : RJ h) : ∃ (r1 r2 : Int32) (h1 h2 : List pC), Run prog E pV1 120 mX7_join [.ref 0, .int x1, .int x2, .int x3] h (some (.int r1), h1, 0, 0) ∧ Run prog E pV1 120 mX8_join [.ref 110, .int x1, .int x2, .int x3] h1 (some (.int r2), h2, 0, 0) ∧ (∃ o, pobj h1 110 = some o ∧ o.1 = 8) ∧ HI HT h2 ∧ JT h2 ∧ RJ h2 := by
  obtain ⟨r1, h1, q1, hh1, f1, hj1⟩ := pub_of (E := E) (a := 0) (kg_c_join JT_P hands) (N := mX7_join) rfl (List.cons_ne_nil _ _) [x1, x2, x3] rfl (fun q => by cases q) (Nat.le_of_ble_eq_true rfl) hh hj
  obtain ⟨r2, h2, q2, hh2, f2, hj2⟩ := pub_of (E := E) (a := 110) (kg_r_join JT_P hands) (N := mX8_join) rfl (List.cons_ne_nil _ _) [x1, x2, x3] rfl (fun q => by cases q) (Nat.le_of_ble_eq_true rfl) hh1 hj1
  exact ⟨r1, r2, h1, h2, q1, q2, mobj hh1, hh2, hj2, ⟨pRel_fr (pRel_fr hR.1 f1 (by decide +kernel)) f2 (by decide +kernel), cRel_fr (cRel_fr hR.2.1 f1 (by decide +kernel)) f2 (by decide +kernel), xj_fr (xj_fr hR.2.2 f1 (by decide +kernel)) f2 (by decide +kernel)⟩⟩
theorem lw_clash (x1 x2 : Int32) (hh : HI HT h) (hj : JT h) (hR : RJ h) : ∃ (r1 r2 : Int32) (h1 h2 : List pC), Run prog E pV1 120 mX7_clash [.ref 0, .int x1, .int x2] h (some (.int r1), h1, 0, 0) ∧ Run prog E pV1 120 mX8_clash [.ref 110, .int x1, .int x2] h1 (some (.int r2), h2, 0, 0) ∧ (∃ o, pobj h1 110 = some o ∧ o.1 = 8) ∧ HI HT h2 ∧ JT h2 ∧ RJ h2 := by
  obtain ⟨r1, h1, q1, hh1, f1, hj1⟩ := pub_of (E := E) (a := 0) (kg_c_clash JT_P hands) (N := mX7_clash) rfl (List.cons_ne_nil _ _) [x1, x2] rfl (fun q => by cases q) (Nat.le_of_ble_eq_true rfl) hh hj
  obtain ⟨r2, h2, q2, hh2, f2, hj2⟩ := pub_of (E := E) (a := 110) (kg_r_clash JT_P hands) (N := mX8_clash) rfl (List.cons_ne_nil _ _) [x1, x2] rfl (fun q => by cases q) (Nat.le_of_ble_eq_true rfl) hh1 hj1
  exact ⟨r1, r2, h1, h2, q1, q2, mobj hh1, hh2, hj2, ⟨pRel_fr (pRel_fr hR.1 f1 (by decide +kernel)) f2 (by decide +kernel), cRel_fr (cRel_fr hR.2.1 f1 (by decide +kernel)) f2 (by decide +kernel), xj_fr (xj_fr hR.2.2 f1 (by decide +kernel)) f2 (by decide +kernel)⟩⟩
theorem lw_undone (hh : HI HT h) (hj : JT h) (hR : RJ h) : ∃ (r1 r2 : Int32) (h1 h2 : List pC), Run prog E pV1 120 mX7_undone [.ref 0] h (some (.int r1), h1, 0, 0) ∧ Run prog E pV1 120 mX8_undone [.ref 110] h1 (some (.int r2), h2, 0, 0) ∧ (∃ o, pobj h1 110 = some o ∧ o.1 = 8) ∧ HI HT h2 ∧ JT h2 ∧ RJ h2 := by
  obtain ⟨r1, h1, q1, hh1, f1, hj1⟩ := pub_of (E := E) (a := 0) (kg_c_undone JT_P hands) (N := mX7_undone) rfl (List.cons_ne_nil _ _) [] rfl (fun q => by cases q) (Nat.le_of_ble_eq_true rfl) hh hj
  obtain ⟨r2, h2, q2, hh2, f2, hj2⟩ := pub_of (E := E) (a := 110) (kg_r_undone JT_P hands) (N := mX8_undone) rfl (List.cons_ne_nil _ _) [] rfl (fun q => by cases q) (Nat.le_of_ble_eq_true rfl) hh1 hj1
  exact ⟨r1, r2, h1, h2, q1, q2, mobj hh1, hh2, hj2, ⟨pRel_fr (pRel_fr hR.1 f1 (by decide +kernel)) f2 (by decide +kernel), cRel_fr (cRel_fr hR.2.1 f1 (by decide +kernel)) f2 (by decide +kernel), xj_fr (xj_fr hR.2.2 f1 (by decide +kernel)) f2 (by decide +kernel)⟩⟩
theorem lw_borne (hh : HI HT h) (hj : JT h) (hR : RJ h) : ∃ (r1 r2 : Int32) (h1 h2 : List pC), Run prog E pV1 120 mX7_borne [.ref 0] h (some (.int r1), h1, 0, 0) ∧ Run prog E pV1 120 mX8_borne [.ref 110] h1 (some (.int r2), h2, 0, 0) ∧ (∃ o, pobj h1 110 = some o ∧ o.1 = 8) ∧ HI HT h2 ∧ JT h2 ∧ RJ h2 := by
  obtain ⟨r1, h1, q1, hh1, f1, hj1⟩ := pub_of (E := E) (a := 0) (kg_c_borne JT_P hands) (N := mX7_borne) rfl (List.cons_ne_nil _ _) [] rfl (fun q => by cases q) (Nat.le_of_ble_eq_true rfl) hh hj
  obtain ⟨r2, h2, q2, hh2, f2, hj2⟩ := pub_of (E := E) (a := 110) (kg_r_borne JT_P hands) (N := mX8_borne) rfl (List.cons_ne_nil _ _) [] rfl (fun q => by cases q) (Nat.le_of_ble_eq_true rfl) hh1 hj1
  exact ⟨r1, r2, h1, h2, q1, q2, mobj hh1, hh2, hj2, ⟨pRel_fr (pRel_fr hR.1 f1 (by decide +kernel)) f2 (by decide +kernel), cRel_fr (cRel_fr hR.2.1 f1 (by decide +kernel)) f2 (by decide +kernel), xj_fr (xj_fr hR.2.2 f1 (by decide +kernel)) f2 (by decide +kernel)⟩⟩
theorem lw_look (x1 : Int32) (hh : HI HT h) (hj : JT h) (hR : RJ h) : ∃ (r1 r2 : Int32) (h1 h2 : List pC), Run prog E pV1 120 mX7_look [.ref 0, .int x1] h (some (.int r1), h1, 0, 0) ∧ Run prog E pV1 120 mX8_look [.ref 110, .int x1] h1 (some (.int r2), h2, 0, 0) ∧ (∃ o, pobj h1 110 = some o ∧ o.1 = 8) ∧ HI HT h2 ∧ JT h2 ∧ RJ h2 := by
  obtain ⟨r1, h1, q1, hh1, f1, hj1⟩ := pub_of (E := E) (a := 0) (kg_c_look JT_P hands) (N := mX7_look) rfl (List.cons_ne_nil _ _) [x1] rfl (fun q => by cases q) (Nat.le_of_ble_eq_true rfl) hh hj
  obtain ⟨r2, h2, q2, hh2, f2, hj2⟩ := pub_of (E := E) (a := 110) (kg_r_look JT_P hands) (N := mX8_look) rfl (List.cons_ne_nil _ _) [x1] rfl (fun q => by cases q) (Nat.le_of_ble_eq_true rfl) hh1 hj1
  exact ⟨r1, r2, h1, h2, q1, q2, mobj hh1, hh2, hj2, ⟨pRel_fr (pRel_fr hR.1 f1 (by decide +kernel)) f2 (by decide +kernel), cRel_fr (cRel_fr hR.2.1 f1 (by decide +kernel)) f2 (by decide +kernel), xj_fr (xj_fr hR.2.2 f1 (by decide +kernel)) f2 (by decide +kernel)⟩⟩
theorem lw_tides (x1 : Int32) (hh : HI HT h) (hj : JT h) (hR : RJ h) : ∃ (r1 r2 : Int32) (h1 h2 : List pC), Run prog E pV1 120 mX7_tides [.ref 0, .int x1] h (some (.int r1), h1, 0, 0) ∧ Run prog E pV1 120 mX8_tides [.ref 110, .int x1] h1 (some (.int r2), h2, 0, 0) ∧ (∃ o, pobj h1 110 = some o ∧ o.1 = 8) ∧ HI HT h2 ∧ JT h2 ∧ RJ h2 := by
  obtain ⟨r1, h1, q1, hh1, f1, hj1⟩ := pub_of (E := E) (a := 0) (kg_c_tidesF) (N := mX7_tides) rfl (List.cons_ne_nil _ _) [x1] rfl (fun q => by cases q) (Nat.le_of_ble_eq_true rfl) hh hj
  obtain ⟨r2, h2, q2, hh2, f2, hj2⟩ := pub_of (E := E) (a := 110) (kg_r_tidesF) (N := mX8_tides) rfl (List.cons_ne_nil _ _) [x1] rfl (fun q => by cases q) (Nat.le_of_ble_eq_true rfl) hh1 hj1
  exact ⟨r1, r2, h1, h2, q1, q2, mobj hh1, hh2, hj2, ⟨pRel_fr (pRel_fr hR.1 f1 (by decide +kernel)) f2 (by decide +kernel), cRel_fr (cRel_fr hR.2.1 f1 (by decide +kernel)) f2 (by decide +kernel), xj_fr (xj_fr hR.2.2 f1 (by decide +kernel)) f2 (by decide +kernel)⟩⟩
theorem lw_book (x1 : Int32) (hh : HI HT h) (hj : JT h) (hR : RJ h) : ∃ (r1 r2 : Int32) (h1 h2 : List pC), Run prog E pV1 120 mX7_book [.ref 0, .int x1] h (some (.int r1), h1, 0, 0) ∧ Run prog E pV1 120 mX8_book [.ref 110, .int x1] h1 (some (.int r2), h2, 0, 0) ∧ (∃ o, pobj h1 110 = some o ∧ o.1 = 8) ∧ HI HT h2 ∧ JT h2 ∧ RJ h2 := by
  obtain ⟨r1, h1, q1, hh1, f1, hj1⟩ := pub_of (E := E) (a := 0) (kg_c_book JT_P hands) (N := mX7_book) rfl (List.cons_ne_nil _ _) [x1] rfl (fun q => by cases q) (Nat.le_of_ble_eq_true rfl) hh hj
  obtain ⟨r2, h2, q2, hh2, f2, hj2⟩ := pub_of (E := E) (a := 110) (kg_r_book JT_P hands) (N := mX8_book) rfl (List.cons_ne_nil _ _) [x1] rfl (fun q => by cases q) (Nat.le_of_ble_eq_true rfl) hh1 hj1
  exact ⟨r1, r2, h1, h2, q1, q2, mobj hh1, hh2, hj2, ⟨pRel_fr (pRel_fr hR.1 f1 (by decide +kernel)) f2 (by decide +kernel), cRel_fr (cRel_fr hR.2.1 f1 (by decide +kernel)) f2 (by decide +kernel), xj_fr (xj_fr hR.2.2 f1 (by decide +kernel)) f2 (by decide +kernel)⟩⟩
theorem lw_behind (x1 x2 : Int32) (hh : HI HT h) (hj : JT h) (hR : RJ h) : ∃ (r1 r2 : Int32) (h1 h2 : List pC), Run prog E pV1 120 mX7_behind [.ref 0, .int x1, .int x2] h (some (.int r1), h1, 0, 0) ∧ Run prog E pV1 120 mX8_behind [.ref 110, .int x1, .int x2] h1 (some (.int r2), h2, 0, 0) ∧ (∃ o, pobj h1 110 = some o ∧ o.1 = 8) ∧ HI HT h2 ∧ JT h2 ∧ RJ h2 := by
  obtain ⟨r1, h1, q1, hh1, f1, hj1⟩ := pub_of (E := E) (a := 0) (kg_c_behind JT_P hands) (N := mX7_behind) rfl (List.cons_ne_nil _ _) [x1, x2] rfl (fun q => by cases q) (Nat.le_of_ble_eq_true rfl) hh hj
  obtain ⟨r2, h2, q2, hh2, f2, hj2⟩ := pub_of (E := E) (a := 110) (hd_behind hands) (N := mX8_behind) rfl (List.cons_ne_nil _ _) [x1, x2] rfl (fun q => by cases q) (Nat.le_of_ble_eq_true rfl) hh1 hj1
  exact ⟨r1, r2, h1, h2, q1, q2, mobj hh1, hh2, hj2, ⟨pRel_fr (pRel_fr hR.1 f1 (by decide +kernel)) f2 (by decide +kernel), cRel_fr (cRel_fr hR.2.1 f1 (by decide +kernel)) f2 (by decide +kernel), xj_fr (xj_fr hR.2.2 f1 (by decide +kernel)) f2 (by decide +kernel)⟩⟩
theorem lw_lasts (hh : HI HT h) (hj : JT h) (hR : RJ h) : ∃ (r1 r2 : Int32) (h1 h2 : List pC), Run prog E pV1 120 mX7_lasts [.ref 0] h (some (.int r1), h1, 0, 0) ∧ Run prog E pV1 120 mX8_lasts [.ref 110] h1 (some (.int r2), h2, 0, 0) ∧ (∃ o, pobj h1 110 = some o ∧ o.1 = 8) ∧ HI HT h2 ∧ JT h2 ∧ RJ h2 := by
  obtain ⟨r1, h1, q1, hh1, f1, hj1⟩ := pub_of (E := E) (a := 0) (kg_c_lasts JT_P hands) (N := mX7_lasts) rfl (List.cons_ne_nil _ _) [] rfl (fun q => by cases q) (Nat.le_of_ble_eq_true rfl) hh hj
  obtain ⟨r2, h2, q2, hh2, f2, hj2⟩ := pub_of (E := E) (a := 110) (hd_lasts hands) (N := mX8_lasts) rfl (List.cons_ne_nil _ _) [] rfl (fun q => by cases q) (Nat.le_of_ble_eq_true rfl) hh1 hj1
  exact ⟨r1, r2, h1, h2, q1, q2, mobj hh1, hh2, hj2, ⟨pRel_fr (pRel_fr hR.1 f1 (by decide +kernel)) f2 (by decide +kernel), cRel_fr (cRel_fr hR.2.1 f1 (by decide +kernel)) f2 (by decide +kernel), xj_fr (xj_fr hR.2.2 f1 (by decide +kernel)) f2 (by decide +kernel)⟩⟩
theorem lw_best (x1 x2 x3 : Int32) (hh : HI HT h) (hj : JT h) (hR : RJ h) : ∃ (r1 r2 : Int32) (h1 h2 : List pC), Run prog E pV1 120 mX7_best [.ref 0, .int x1, .int x2, .int x3] h (some (.int r1), h1, 0, 0) ∧ Run prog E pV1 120 mX8_best [.ref 110, .int x1, .int x2, .int x3] h1 (some (.int r2), h2, 0, 0) ∧ (∃ o, pobj h1 110 = some o ∧ o.1 = 8) ∧ HI HT h2 ∧ JT h2 ∧ RJ h2 := by
  obtain ⟨r1, h1, q1, hh1, f1, hj1⟩ := pub_of (E := E) (a := 0) (kg_c_best JT_P hands) (N := mX7_best) rfl (List.cons_ne_nil _ _) [x1, x2, x3] rfl (fun q => by cases q) (Nat.le_of_ble_eq_true rfl) hh hj
  obtain ⟨r2, h2, q2, hh2, f2, hj2⟩ := pub_of (E := E) (a := 110) (hd_best hands) (N := mX8_best) rfl (List.cons_ne_nil _ _) [x1, x2, x3] rfl (fun q => by cases q) (Nat.le_of_ble_eq_true rfl) hh1 hj1
  exact ⟨r1, r2, h1, h2, q1, q2, mobj hh1, hh2, hj2, ⟨pRel_fr (pRel_fr hR.1 f1 (by decide +kernel)) f2 (by decide +kernel), cRel_fr (cRel_fr hR.2.1 f1 (by decide +kernel)) f2 (by decide +kernel), xj_fr (xj_fr hR.2.2 f1 (by decide +kernel)) f2 (by decide +kernel)⟩⟩
theorem lw_taught (x1 x2 : Int32) (hh : HI HT h) (hj : JT h) (hR : RJ h) : ∃ (r1 r2 : Int32) (h1 h2 : List pC), Run prog E pV1 120 mX7_taught [.ref 0, .int x1, .int x2] h (some (.int r1), h1, 0, 0) ∧ Run prog E pV1 120 mX8_taught [.ref 110, .int x1, .int x2] h1 (some (.int r2), h2, 0, 0) ∧ (∃ o, pobj h1 110 = some o ∧ o.1 = 8) ∧ HI HT h2 ∧ JT h2 ∧ RJ h2 := by
  obtain ⟨r1, h1, q1, hh1, f1, hj1⟩ := pub_of (E := E) (a := 0) (kg_c_taught JT_P hands) (N := mX7_taught) rfl (List.cons_ne_nil _ _) [x1, x2] rfl (fun q => by cases q) (Nat.le_of_ble_eq_true rfl) hh hj
  obtain ⟨r2, h2, q2, hh2, f2, hj2⟩ := pub_of (E := E) (a := 110) (hd_taught hands) (N := mX8_taught) rfl (List.cons_ne_nil _ _) [x1, x2] rfl (fun q => by cases q) (Nat.le_of_ble_eq_true rfl) hh1 hj1
  exact ⟨r1, r2, h1, h2, q1, q2, mobj hh1, hh2, hj2, ⟨pRel_fr (pRel_fr hR.1 f1 (by decide +kernel)) f2 (by decide +kernel), cRel_fr (cRel_fr hR.2.1 f1 (by decide +kernel)) f2 (by decide +kernel), xj_fr (xj_fr hR.2.2 f1 (by decide +kernel)) f2 (by decide +kernel)⟩⟩
theorem lw_whose (x1 x2 : Int32) (hh : HI HT h) (hj : JT h) (hR : RJ h) : ∃ (r1 r2 : Int32) (h1 h2 : List pC), Run prog E pV1 120 mX7_whose [.ref 0, .int x1, .int x2] h (some (.int r1), h1, 0, 0) ∧ Run prog E pV1 120 mX8_whose [.ref 110, .int x1, .int x2] h1 (some (.int r2), h2, 0, 0) ∧ (∃ o, pobj h1 110 = some o ∧ o.1 = 8) ∧ HI HT h2 ∧ JT h2 ∧ RJ h2 := by
  obtain ⟨r1, h1, q1, hh1, f1, hj1⟩ := pub_of (E := E) (a := 0) (kg_c_whose JT_P hands) (N := mX7_whose) rfl (List.cons_ne_nil _ _) [x1, x2] rfl (fun q => by cases q) (Nat.le_of_ble_eq_true rfl) hh hj
  obtain ⟨r2, h2, q2, hh2, f2, hj2⟩ := pub_of (E := E) (a := 110) (kg_r_whose JT_P hands) (N := mX8_whose) rfl (List.cons_ne_nil _ _) [x1, x2] rfl (fun q => by cases q) (Nat.le_of_ble_eq_true rfl) hh1 hj1
  exact ⟨r1, r2, h1, h2, q1, q2, mobj hh1, hh2, hj2, ⟨pRel_fr (pRel_fr hR.1 f1 (by decide +kernel)) f2 (by decide +kernel), cRel_fr (cRel_fr hR.2.1 f1 (by decide +kernel)) f2 (by decide +kernel), xj_fr (xj_fr hR.2.2 f1 (by decide +kernel)) f2 (by decide +kernel)⟩⟩
theorem lw_fee (hh : HI HT h) (hj : JT h) (hR : RJ h) : ∃ (r1 r2 : Int32) (h1 h2 : List pC), Run prog E pV1 120 mX7_fee [.ref 0] h (some (.int r1), h1, 0, 0) ∧ Run prog E pV1 120 mX8_fee [.ref 110] h1 (some (.int r2), h2, 0, 0) ∧ (∃ o, pobj h1 110 = some o ∧ o.1 = 8) ∧ HI HT h2 ∧ JT h2 ∧ RJ h2 := by
  obtain ⟨r1, h1, q1, hh1, f1, hj1⟩ := pub_of (E := E) (a := 0) (kg_c_fee JT_P hands) (N := mX7_fee) rfl (List.cons_ne_nil _ _) [] rfl (fun q => by cases q) (Nat.le_of_ble_eq_true rfl) hh hj
  obtain ⟨r2, h2, q2, hh2, f2, hj2⟩ := pub_of (E := E) (a := 110) hd_fee (N := mX8_fee) rfl (List.cons_ne_nil _ _) [] rfl (fun q => by cases q) (Nat.le_of_ble_eq_true rfl) hh1 hj1
  exact ⟨r1, r2, h1, h2, q1, q2, mobj hh1, hh2, hj2, ⟨pRel_fr (pRel_fr hR.1 f1 (by decide +kernel)) f2 (by decide +kernel), cRel_fr (cRel_fr hR.2.1 f1 (by decide +kernel)) f2 (by decide +kernel), xj_fr (xj_fr hR.2.2 f1 (by decide +kernel)) f2 (by decide +kernel)⟩⟩
theorem lw_fine (x1 : Int32) (hh : HI HT h) (hj : JT h) (hR : RJ h) : ∃ (r1 r2 : Int32) (h1 h2 : List pC), Run prog E pV1 120 mX7_fine [.ref 0, .int x1] h (some (.int r1), h1, 0, 0) ∧ Run prog E pV1 120 mX8_fine [.ref 110, .int x1] h1 (some (.int r2), h2, 0, 0) ∧ (∃ o, pobj h1 110 = some o ∧ o.1 = 8) ∧ HI HT h2 ∧ JT h2 ∧ RJ h2 := by
  obtain ⟨r1, h1, q1, hh1, f1, hj1⟩ := pub_of (E := E) (a := 0) (kg_c_fine JT_P hands) (N := mX7_fine) rfl (List.cons_ne_nil _ _) [x1] rfl (fun q => by cases q) (Nat.le_of_ble_eq_true rfl) hh hj
  obtain ⟨r2, h2, q2, hh2, f2, hj2⟩ := pub_of (E := E) (a := 110) hd_fine (N := mX8_fine) rfl (List.cons_ne_nil _ _) [x1] rfl (fun q => by cases q) (Nat.le_of_ble_eq_true rfl) hh1 hj1
  exact ⟨r1, r2, h1, h2, q1, q2, mobj hh1, hh2, hj2, ⟨pRel_fr (pRel_fr hR.1 f1 (by decide +kernel)) f2 (by decide +kernel), cRel_fr (cRel_fr hR.2.1 f1 (by decide +kernel)) f2 (by decide +kernel), xj_fr (xj_fr hR.2.2 f1 (by decide +kernel)) f2 (by decide +kernel)⟩⟩
theorem lw_feed (x1 x2 x3 : Int32) (hh : HI HT h) (hj : JT h) (hR : RJ h) : ∃ (r1 r2 : Int32) (h1 h2 : List pC), Run prog E pV1 120 mX7_feed [.ref 0, .int x1, .int x2, .int x3] h (some (.int r1), h1, 0, 0) ∧ Run prog E pV1 120 mX8_feed [.ref 110, .int x1, .int x2, .int x3] h1 (some (.int r2), h2, 0, 0) ∧ (∃ o, pobj h1 110 = some o ∧ o.1 = 8) ∧ HI HT h2 ∧ JT h2 ∧ RJ h2 := by
  obtain ⟨r1, h1, q1, hh1, f1, hj1⟩ := pub_of (E := E) (a := 0) (kg_c_feed JT_P hands) (N := mX7_feed) rfl (List.cons_ne_nil _ _) [x1, x2, x3] rfl (fun q => by cases q) (Nat.le_of_ble_eq_true rfl) hh hj
  obtain ⟨r2, h2, q2, hh2, f2, hj2⟩ := pub_of (E := E) (a := 110) (kg_r_feed JT_P hands) (N := mX8_feed) rfl (List.cons_ne_nil _ _) [x1, x2, x3] rfl (fun q => by cases q) (Nat.le_of_ble_eq_true rfl) hh1 hj1
  exact ⟨r1, r2, h1, h2, q1, q2, mobj hh1, hh2, hj2, ⟨pRel_fr (pRel_fr hR.1 f1 (by decide +kernel)) f2 (by decide +kernel), cRel_fr (cRel_fr hR.2.1 f1 (by decide +kernel)) f2 (by decide +kernel), xj_fr (xj_fr hR.2.2 f1 (by decide +kernel)) f2 (by decide +kernel)⟩⟩
theorem lw_trim (x1 : Int32) (hh : HI HT h) (hj : JT h) (hR : RJ h) : ∃ (r1 r2 : Int32) (h1 h2 : List pC), Run prog E pV1 120 mX7_trim [.ref 0, .int x1] h (some (.int r1), h1, 0, 0) ∧ Run prog E pV1 120 mX8_trim [.ref 110, .int x1] h1 (some (.int r2), h2, 0, 0) ∧ (∃ o, pobj h1 110 = some o ∧ o.1 = 8) ∧ HI HT h2 ∧ JT h2 ∧ RJ h2 := by
  obtain ⟨r1, h1, q1, hh1, f1, hj1⟩ := pub_of (E := E) (a := 0) (kg_c_trim JT_P hands) (N := mX7_trim) rfl (List.cons_ne_nil _ _) [x1] rfl (fun q => by cases q) (Nat.le_of_ble_eq_true rfl) hh hj
  obtain ⟨r2, h2, q2, hh2, f2, hj2⟩ := pub_of (E := E) (a := 110) (kg_r_trim JT_P hands) (N := mX8_trim) rfl (List.cons_ne_nil _ _) [x1] rfl (fun q => by cases q) (Nat.le_of_ble_eq_true rfl) hh1 hj1
  exact ⟨r1, r2, h1, h2, q1, q2, mobj hh1, hh2, hj2, ⟨pRel_fr (pRel_fr hR.1 f1 (by decide +kernel)) f2 (by decide +kernel), cRel_fr (cRel_fr hR.2.1 f1 (by decide +kernel)) f2 (by decide +kernel), xj_fr (xj_fr hR.2.2 f1 (by decide +kernel)) f2 (by decide +kernel)⟩⟩
theorem lw_text (hh : HI HT h) (hj : JT h) (hR : RJ h) : ∃ (r1 r2 : Int32) (h1 h2 : List pC), Run prog E pV1 120 mX7_text [.ref 0] h (some (.int r1), h1, 0, 0) ∧ Run prog E pV1 120 mX8_text [.ref 110] h1 (some (.int r2), h2, 0, 0) ∧ (∃ o, pobj h1 110 = some o ∧ o.1 = 8) ∧ HI HT h2 ∧ JT h2 ∧ RJ h2 := by
  obtain ⟨r1, h1, q1, hh1, f1, hj1⟩ := pub_of (E := E) (a := 0) (kg_c_text JT_P hands) (N := mX7_text) rfl (List.cons_ne_nil _ _) [] rfl (fun q => by cases q) (Nat.le_of_ble_eq_true rfl) hh hj
  obtain ⟨r2, h2, q2, hh2, f2, hj2⟩ := pub_of (E := E) (a := 110) hd_text (N := mX8_text) rfl (List.cons_ne_nil _ _) [] rfl (fun q => by cases q) (Nat.le_of_ble_eq_true rfl) hh1 hj1
  exact ⟨r1, r2, h1, h2, q1, q2, mobj hh1, hh2, hj2, ⟨pRel_fr (pRel_fr hR.1 f1 (by decide +kernel)) f2 (by decide +kernel), cRel_fr (cRel_fr hR.2.1 f1 (by decide +kernel)) f2 (by decide +kernel), xj_fr (xj_fr hR.2.2 f1 (by decide +kernel)) f2 (by decide +kernel)⟩⟩
theorem lw_textTold (x1 x2 : Int32) (hh : HI HT h) (hj : JT h) (hR : RJ h) : ∃ (r1 r2 : Int32) (h1 h2 : List pC), Run prog E pV1 120 mX7_textTold [.ref 0, .int x1, .int x2] h (some (.int r1), h1, 0, 0) ∧ Run prog E pV1 120 mX8_textTold [.ref 110, .int x1, .int x2] h1 (some (.int r2), h2, 0, 0) ∧ (∃ o, pobj h1 110 = some o ∧ o.1 = 8) ∧ HI HT h2 ∧ JT h2 ∧ RJ h2 := by
  obtain ⟨r1, h1, q1, hh1, f1, hj1⟩ := pub_of (E := E) (a := 0) (kg_c_textTold JT_P hands) (N := mX7_textTold) rfl (List.cons_ne_nil _ _) [x1, x2] rfl (fun q => by cases q) (Nat.le_of_ble_eq_true rfl) hh hj
  obtain ⟨r2, h2, q2, hh2, f2, hj2⟩ := pub_of (E := E) (a := 110) (kg_r_textTold JT_P hands) (N := mX8_textTold) rfl (List.cons_ne_nil _ _) [x1, x2] rfl (fun q => by cases q) (Nat.le_of_ble_eq_true rfl) hh1 hj1
  exact ⟨r1, r2, h1, h2, q1, q2, mobj hh1, hh2, hj2, ⟨pRel_fr (pRel_fr hR.1 f1 (by decide +kernel)) f2 (by decide +kernel), cRel_fr (cRel_fr hR.2.1 f1 (by decide +kernel)) f2 (by decide +kernel), xj_fr (xj_fr hR.2.2 f1 (by decide +kernel)) f2 (by decide +kernel)⟩⟩
theorem lw_why (x1 : Int32) (hh : HI HT h) (hj : JT h) (hR : RJ h) : ∃ (r1 r2 : Int32) (h1 h2 : List pC), Run prog E pV1 120 mX7_why [.ref 0, .int x1] h (some (.int r1), h1, 0, 0) ∧ Run prog E pV1 120 mX8_why [.ref 110, .int x1] h1 (some (.int r2), h2, 0, 0) ∧ (∃ o, pobj h1 110 = some o ∧ o.1 = 8) ∧ HI HT h2 ∧ JT h2 ∧ RJ h2 := by
  obtain ⟨r1, h1, q1, hh1, f1, hj1⟩ := pub_of (E := E) (a := 0) (kg_c_why JT_P hands) (N := mX7_why) rfl (List.cons_ne_nil _ _) [x1] rfl (fun q => by cases q) (Nat.le_of_ble_eq_true rfl) hh hj
  obtain ⟨r2, h2, q2, hh2, f2, hj2⟩ := pub_of (E := E) (a := 110) (kg_r_why JT_P hands) (N := mX8_why) rfl (List.cons_ne_nil _ _) [x1] rfl (fun q => by cases q) (Nat.le_of_ble_eq_true rfl) hh1 hj1
  exact ⟨r1, r2, h1, h2, q1, q2, mobj hh1, hh2, hj2, ⟨pRel_fr (pRel_fr hR.1 f1 (by decide +kernel)) f2 (by decide +kernel), cRel_fr (cRel_fr hR.2.1 f1 (by decide +kernel)) f2 (by decide +kernel), xj_fr (xj_fr hR.2.2 f1 (by decide +kernel)) f2 (by decide +kernel)⟩⟩
theorem lf_sheet0_0 (x1 x2 x3 : Int32) (hh : HI HT h) (hj : JT h) (hR : RJ h) (a1 : 0 ≤ x1.toInt ∧ x1.toInt ≤ 0) (a2 : (-2147483648) ≤ x2.toInt ∧ x2.toInt ≤ (-2)) : ∃ (r1 r2 : Int32) (h1 h2 : List pC), Run prog E pV1 120 mX7_sheet [.ref 0, .int x1, .int x2, .int x3] h (some (.int r1), h1, 0, 0) ∧ Run prog E pV1 120 mX8_sheet [.ref 110, .int x1, .int x2, .int x3] h1 (some (.int r2), h2, 0, 0) ∧ (∃ o, pobj h1 110 = some o ∧ o.1 = 8) ∧ HI HT h2 ∧ JT h2 ∧ RJ h2 := by
  obtain ⟨r, h1, h2, q1, q2, q3, p1, p2, p3, p4⟩ := pr_ok3 (E := E) (x1 := x1) (x2 := x2) (x3 := x3) cp_sheet0_0 rfl rfl (List.cons_ne_nil _ _) (List.cons_ne_nil _ _) (fun _ h => absurd h List.not_mem_nil) hh hj hR.1 hR.2.1 ⟨a1, a2, i32_b x3, trivial⟩ (pBd.cs (ty_82_1 hh hR).1 (ty_82_1 hh hR).2 (pBd.cs (ty_82_2 hh hR).1 (ty_82_2 hh hR).2 pBd.nl)) (fun e he => by cases he)
  exact ⟨r, r, h1, h2, q1, q2, q3, p1, p2, p3.1, p3.2, xj_fr hR.2.2 p4 (by decide +kernel)⟩
theorem lf_sheet0_1 (x1 x2 x3 : Int32) (hh : HI HT h) (hj : JT h) (hR : RJ h) (a1 : 0 ≤ x1.toInt ∧ x1.toInt ≤ 0) (a2 : (-1) ≤ x2.toInt ∧ x2.toInt ≤ (-1)) : ∃ (r1 r2 : Int32) (h1 h2 : List pC), Run prog E pV1 120 mX7_sheet [.ref 0, .int x1, .int x2, .int x3] h (some (.int r1), h1, 0, 0) ∧ Run prog E pV1 120 mX8_sheet [.ref 110, .int x1, .int x2, .int x3] h1 (some (.int r2), h2, 0, 0) ∧ (∃ o, pobj h1 110 = some o ∧ o.1 = 8) ∧ HI HT h2 ∧ JT h2 ∧ RJ h2 := by
  obtain ⟨r, h1, h2, q1, q2, q3, p1, p2, p3, p4⟩ := pr_ok3 (E := E) (x1 := x1) (x2 := x2) (x3 := x3) cp_sheet0_1 rfl rfl (List.cons_ne_nil _ _) (List.cons_ne_nil _ _) (fun _ h => absurd h List.not_mem_nil) hh hj hR.1 hR.2.1 ⟨a1, a2, i32_b x3, trivial⟩ (pBd.cs (ty_82_1 hh hR).1 (ty_82_1 hh hR).2 (pBd.cs (ty_82_2 hh hR).1 (ty_82_2 hh hR).2 pBd.nl)) (fun e he => by cases he)
  exact ⟨r, r, h1, h2, q1, q2, q3, p1, p2, p3.1, p3.2, xj_fr hR.2.2 p4 (by decide +kernel)⟩
theorem lf_sheet0_2 (x1 x2 x3 : Int32) (hh : HI HT h) (hj : JT h) (hR : RJ h) (a1 : 0 ≤ x1.toInt ∧ x1.toInt ≤ 0) (a2 : 0 ≤ x2.toInt ∧ x2.toInt ≤ 0) : ∃ (r1 r2 : Int32) (h1 h2 : List pC), Run prog E pV1 120 mX7_sheet [.ref 0, .int x1, .int x2, .int x3] h (some (.int r1), h1, 0, 0) ∧ Run prog E pV1 120 mX8_sheet [.ref 110, .int x1, .int x2, .int x3] h1 (some (.int r2), h2, 0, 0) ∧ (∃ o, pobj h1 110 = some o ∧ o.1 = 8) ∧ HI HT h2 ∧ JT h2 ∧ RJ h2 := by
  obtain ⟨r, h1, h2, q1, q2, q3, p1, p2, p3, p4⟩ := pr_ok3 (E := E) (x1 := x1) (x2 := x2) (x3 := x3) cp_sheet0_2 rfl rfl (List.cons_ne_nil _ _) (List.cons_ne_nil _ _) (fun _ h => absurd h List.not_mem_nil) hh hj hR.1 hR.2.1 ⟨a1, a2, i32_b x3, trivial⟩ (pBd.cs (ty_82_1 hh hR).1 (ty_82_1 hh hR).2 (pBd.cs (ty_82_2 hh hR).1 (ty_82_2 hh hR).2 pBd.nl)) (fun e he => by cases he)
  exact ⟨r, r, h1, h2, q1, q2, q3, p1, p2, p3.1, p3.2, xj_fr hR.2.2 p4 (by decide +kernel)⟩
theorem lf_sheet0_3 (x1 x2 x3 : Int32) (hh : HI HT h) (hj : JT h) (hR : RJ h) (a1 : 0 ≤ x1.toInt ∧ x1.toInt ≤ 0) (a2 : 1 ≤ x2.toInt ∧ x2.toInt ≤ 1) : ∃ (r1 r2 : Int32) (h1 h2 : List pC), Run prog E pV1 120 mX7_sheet [.ref 0, .int x1, .int x2, .int x3] h (some (.int r1), h1, 0, 0) ∧ Run prog E pV1 120 mX8_sheet [.ref 110, .int x1, .int x2, .int x3] h1 (some (.int r2), h2, 0, 0) ∧ (∃ o, pobj h1 110 = some o ∧ o.1 = 8) ∧ HI HT h2 ∧ JT h2 ∧ RJ h2 := by
  obtain ⟨r, h1, h2, q1, q2, q3, p1, p2, p3, p4⟩ := pr_ok3 (E := E) (x1 := x1) (x2 := x2) (x3 := x3) cp_sheet0_3 rfl rfl (List.cons_ne_nil _ _) (List.cons_ne_nil _ _) (fun _ h => absurd h List.not_mem_nil) hh hj hR.1 hR.2.1 ⟨a1, a2, i32_b x3, trivial⟩ (pBd.cs (ty_82_1 hh hR).1 (ty_82_1 hh hR).2 (pBd.cs (ty_82_2 hh hR).1 (ty_82_2 hh hR).2 pBd.nl)) (fun e he => by cases he)
  exact ⟨r, r, h1, h2, q1, q2, q3, p1, p2, p3.1, p3.2, xj_fr hR.2.2 p4 (by decide +kernel)⟩
theorem lf_sheet0_4 (x1 x2 x3 : Int32) (hh : HI HT h) (hj : JT h) (hR : RJ h) (a1 : 0 ≤ x1.toInt ∧ x1.toInt ≤ 0) (a2 : 2 ≤ x2.toInt ∧ x2.toInt ≤ 2147483647) : ∃ (r1 r2 : Int32) (h1 h2 : List pC), Run prog E pV1 120 mX7_sheet [.ref 0, .int x1, .int x2, .int x3] h (some (.int r1), h1, 0, 0) ∧ Run prog E pV1 120 mX8_sheet [.ref 110, .int x1, .int x2, .int x3] h1 (some (.int r2), h2, 0, 0) ∧ (∃ o, pobj h1 110 = some o ∧ o.1 = 8) ∧ HI HT h2 ∧ JT h2 ∧ RJ h2 := by
  obtain ⟨r, h1, h2, q1, q2, q3, p1, p2, p3, p4⟩ := pr_ok3 (E := E) (x1 := x1) (x2 := x2) (x3 := x3) cp_sheet0_4 rfl rfl (List.cons_ne_nil _ _) (List.cons_ne_nil _ _) (fun _ h => absurd h List.not_mem_nil) hh hj hR.1 hR.2.1 ⟨a1, a2, i32_b x3, trivial⟩ (pBd.cs (ty_82_1 hh hR).1 (ty_82_1 hh hR).2 (pBd.cs (ty_82_2 hh hR).1 (ty_82_2 hh hR).2 pBd.nl)) (fun e he => by cases he)
  exact ⟨r, r, h1, h2, q1, q2, q3, p1, p2, p3.1, p3.2, xj_fr hR.2.2 p4 (by decide +kernel)⟩
theorem lf_sheet1_0 (x1 x2 x3 : Int32) (hh : HI HT h) (hj : JT h) (hR : RJ h) (a1 : 1 ≤ x1.toInt ∧ x1.toInt ≤ 1) (a2 : (-2147483648) ≤ x2.toInt ∧ x2.toInt ≤ (-2)) : ∃ (r1 r2 : Int32) (h1 h2 : List pC), Run prog E pV1 120 mX7_sheet [.ref 0, .int x1, .int x2, .int x3] h (some (.int r1), h1, 0, 0) ∧ Run prog E pV1 120 mX8_sheet [.ref 110, .int x1, .int x2, .int x3] h1 (some (.int r2), h2, 0, 0) ∧ (∃ o, pobj h1 110 = some o ∧ o.1 = 8) ∧ HI HT h2 ∧ JT h2 ∧ RJ h2 := by
  obtain ⟨r, h1, h2, q1, q2, q3, p1, p2, p3, p4⟩ := pr_ok3 (E := E) (x1 := x1) (x2 := x2) (x3 := x3) cp_sheet1_0 rfl rfl (List.cons_ne_nil _ _) (List.cons_ne_nil _ _) (fun _ h => absurd h List.not_mem_nil) hh hj hR.1 hR.2.1 ⟨a1, a2, i32_b x3, trivial⟩ (pBd.cs (ty_84_1 hh hR).1 (ty_84_1 hh hR).2 (pBd.cs (ty_84_2 hh hR).1 (ty_84_2 hh hR).2 pBd.nl)) (fun e he => by cases he)
  exact ⟨r, r, h1, h2, q1, q2, q3, p1, p2, p3.1, p3.2, xj_fr hR.2.2 p4 (by decide +kernel)⟩
theorem lf_sheet1_1 (x1 x2 x3 : Int32) (hh : HI HT h) (hj : JT h) (hR : RJ h) (a1 : 1 ≤ x1.toInt ∧ x1.toInt ≤ 1) (a2 : (-1) ≤ x2.toInt ∧ x2.toInt ≤ (-1)) : ∃ (r1 r2 : Int32) (h1 h2 : List pC), Run prog E pV1 120 mX7_sheet [.ref 0, .int x1, .int x2, .int x3] h (some (.int r1), h1, 0, 0) ∧ Run prog E pV1 120 mX8_sheet [.ref 110, .int x1, .int x2, .int x3] h1 (some (.int r2), h2, 0, 0) ∧ (∃ o, pobj h1 110 = some o ∧ o.1 = 8) ∧ HI HT h2 ∧ JT h2 ∧ RJ h2 := by
  obtain ⟨r, h1, h2, q1, q2, q3, p1, p2, p3, p4⟩ := pr_ok3 (E := E) (x1 := x1) (x2 := x2) (x3 := x3) cp_sheet1_1 rfl rfl (List.cons_ne_nil _ _) (List.cons_ne_nil _ _) (fun _ h => absurd h List.not_mem_nil) hh hj hR.1 hR.2.1 ⟨a1, a2, i32_b x3, trivial⟩ (pBd.cs (ty_84_1 hh hR).1 (ty_84_1 hh hR).2 (pBd.cs (ty_84_2 hh hR).1 (ty_84_2 hh hR).2 pBd.nl)) (fun e he => by cases he)
  exact ⟨r, r, h1, h2, q1, q2, q3, p1, p2, p3.1, p3.2, xj_fr hR.2.2 p4 (by decide +kernel)⟩
theorem lf_sheet1_2 (x1 x2 x3 : Int32) (hh : HI HT h) (hj : JT h) (hR : RJ h) (a1 : 1 ≤ x1.toInt ∧ x1.toInt ≤ 1) (a2 : 0 ≤ x2.toInt ∧ x2.toInt ≤ 0) : ∃ (r1 r2 : Int32) (h1 h2 : List pC), Run prog E pV1 120 mX7_sheet [.ref 0, .int x1, .int x2, .int x3] h (some (.int r1), h1, 0, 0) ∧ Run prog E pV1 120 mX8_sheet [.ref 110, .int x1, .int x2, .int x3] h1 (some (.int r2), h2, 0, 0) ∧ (∃ o, pobj h1 110 = some o ∧ o.1 = 8) ∧ HI HT h2 ∧ JT h2 ∧ RJ h2 := by
  obtain ⟨r, h1, h2, q1, q2, q3, p1, p2, p3, p4⟩ := pr_ok3 (E := E) (x1 := x1) (x2 := x2) (x3 := x3) cp_sheet1_2 rfl rfl (List.cons_ne_nil _ _) (List.cons_ne_nil _ _) (fun _ h => absurd h List.not_mem_nil) hh hj hR.1 hR.2.1 ⟨a1, a2, i32_b x3, trivial⟩ (pBd.cs (ty_84_1 hh hR).1 (ty_84_1 hh hR).2 (pBd.cs (ty_84_2 hh hR).1 (ty_84_2 hh hR).2 pBd.nl)) (fun e he => by cases he)
  exact ⟨r, r, h1, h2, q1, q2, q3, p1, p2, p3.1, p3.2, xj_fr hR.2.2 p4 (by decide +kernel)⟩
theorem lf_sheet1_3 (x1 x2 x3 : Int32) (hh : HI HT h) (hj : JT h) (hR : RJ h) (a1 : 1 ≤ x1.toInt ∧ x1.toInt ≤ 1) (a2 : 1 ≤ x2.toInt ∧ x2.toInt ≤ 1) : ∃ (r1 r2 : Int32) (h1 h2 : List pC), Run prog E pV1 120 mX7_sheet [.ref 0, .int x1, .int x2, .int x3] h (some (.int r1), h1, 0, 0) ∧ Run prog E pV1 120 mX8_sheet [.ref 110, .int x1, .int x2, .int x3] h1 (some (.int r2), h2, 0, 0) ∧ (∃ o, pobj h1 110 = some o ∧ o.1 = 8) ∧ HI HT h2 ∧ JT h2 ∧ RJ h2 := by
  obtain ⟨r, h1, h2, q1, q2, q3, p1, p2, p3, p4⟩ := pr_ok3 (E := E) (x1 := x1) (x2 := x2) (x3 := x3) cp_sheet1_3 rfl rfl (List.cons_ne_nil _ _) (List.cons_ne_nil _ _) (fun _ h => absurd h List.not_mem_nil) hh hj hR.1 hR.2.1 ⟨a1, a2, i32_b x3, trivial⟩ (pBd.cs (ty_84_1 hh hR).1 (ty_84_1 hh hR).2 (pBd.cs (ty_84_2 hh hR).1 (ty_84_2 hh hR).2 pBd.nl)) (fun e he => by cases he)
  exact ⟨r, r, h1, h2, q1, q2, q3, p1, p2, p3.1, p3.2, xj_fr hR.2.2 p4 (by decide +kernel)⟩
theorem lf_sheet1_4 (x1 x2 x3 : Int32) (hh : HI HT h) (hj : JT h) (hR : RJ h) (a1 : 1 ≤ x1.toInt ∧ x1.toInt ≤ 1) (a2 : 2 ≤ x2.toInt ∧ x2.toInt ≤ 2147483647) : ∃ (r1 r2 : Int32) (h1 h2 : List pC), Run prog E pV1 120 mX7_sheet [.ref 0, .int x1, .int x2, .int x3] h (some (.int r1), h1, 0, 0) ∧ Run prog E pV1 120 mX8_sheet [.ref 110, .int x1, .int x2, .int x3] h1 (some (.int r2), h2, 0, 0) ∧ (∃ o, pobj h1 110 = some o ∧ o.1 = 8) ∧ HI HT h2 ∧ JT h2 ∧ RJ h2 := by
  obtain ⟨r, h1, h2, q1, q2, q3, p1, p2, p3, p4⟩ := pr_ok3 (E := E) (x1 := x1) (x2 := x2) (x3 := x3) cp_sheet1_4 rfl rfl (List.cons_ne_nil _ _) (List.cons_ne_nil _ _) (fun _ h => absurd h List.not_mem_nil) hh hj hR.1 hR.2.1 ⟨a1, a2, i32_b x3, trivial⟩ (pBd.cs (ty_84_1 hh hR).1 (ty_84_1 hh hR).2 (pBd.cs (ty_84_2 hh hR).1 (ty_84_2 hh hR).2 pBd.nl)) (fun e he => by cases he)
  exact ⟨r, r, h1, h2, q1, q2, q3, p1, p2, p3.1, p3.2, xj_fr hR.2.2 p4 (by decide +kernel)⟩
theorem lf_sheet2_0 (x1 x2 x3 : Int32) (hh : HI HT h) (hj : JT h) (hR : RJ h) (a1 : 2 ≤ x1.toInt ∧ x1.toInt ≤ 2) (a2 : (-2147483648) ≤ x2.toInt ∧ x2.toInt ≤ (-2)) : ∃ (r1 r2 : Int32) (h1 h2 : List pC), Run prog E pV1 120 mX7_sheet [.ref 0, .int x1, .int x2, .int x3] h (some (.int r1), h1, 0, 0) ∧ Run prog E pV1 120 mX8_sheet [.ref 110, .int x1, .int x2, .int x3] h1 (some (.int r2), h2, 0, 0) ∧ (∃ o, pobj h1 110 = some o ∧ o.1 = 8) ∧ HI HT h2 ∧ JT h2 ∧ RJ h2 := by
  obtain ⟨r, h1, h2, q1, q2, q3, p1, p2, p3, p4⟩ := pr_ok3 (E := E) (x1 := x1) (x2 := x2) (x3 := x3) cp_sheet2_0 rfl rfl (List.cons_ne_nil _ _) (List.cons_ne_nil _ _) (fun _ h => absurd h List.not_mem_nil) hh hj hR.1 hR.2.1 ⟨a1, a2, i32_b x3, trivial⟩ (pBd.cs (ty_86_1 hh hR).1 (ty_86_1 hh hR).2 (pBd.cs (ty_86_2 hh hR).1 (ty_86_2 hh hR).2 pBd.nl)) (fun e he => by cases he)
  exact ⟨r, r, h1, h2, q1, q2, q3, p1, p2, p3.1, p3.2, xj_fr hR.2.2 p4 (by decide +kernel)⟩
theorem lf_sheet2_1 (x1 x2 x3 : Int32) (hh : HI HT h) (hj : JT h) (hR : RJ h) (a1 : 2 ≤ x1.toInt ∧ x1.toInt ≤ 2) (a2 : (-1) ≤ x2.toInt ∧ x2.toInt ≤ (-1)) : ∃ (r1 r2 : Int32) (h1 h2 : List pC), Run prog E pV1 120 mX7_sheet [.ref 0, .int x1, .int x2, .int x3] h (some (.int r1), h1, 0, 0) ∧ Run prog E pV1 120 mX8_sheet [.ref 110, .int x1, .int x2, .int x3] h1 (some (.int r2), h2, 0, 0) ∧ (∃ o, pobj h1 110 = some o ∧ o.1 = 8) ∧ HI HT h2 ∧ JT h2 ∧ RJ h2 := by
  obtain ⟨r, h1, h2, q1, q2, q3, p1, p2, p3, p4⟩ := pr_ok3 (E := E) (x1 := x1) (x2 := x2) (x3 := x3) cp_sheet2_1 rfl rfl (List.cons_ne_nil _ _) (List.cons_ne_nil _ _) (fun _ h => absurd h List.not_mem_nil) hh hj hR.1 hR.2.1 ⟨a1, a2, i32_b x3, trivial⟩ (pBd.cs (ty_86_1 hh hR).1 (ty_86_1 hh hR).2 (pBd.cs (ty_86_2 hh hR).1 (ty_86_2 hh hR).2 pBd.nl)) (fun e he => by cases he)
  exact ⟨r, r, h1, h2, q1, q2, q3, p1, p2, p3.1, p3.2, xj_fr hR.2.2 p4 (by decide +kernel)⟩
theorem lf_sheet2_2 (x1 x2 x3 : Int32) (hh : HI HT h) (hj : JT h) (hR : RJ h) (a1 : 2 ≤ x1.toInt ∧ x1.toInt ≤ 2) (a2 : 0 ≤ x2.toInt ∧ x2.toInt ≤ 0) : ∃ (r1 r2 : Int32) (h1 h2 : List pC), Run prog E pV1 120 mX7_sheet [.ref 0, .int x1, .int x2, .int x3] h (some (.int r1), h1, 0, 0) ∧ Run prog E pV1 120 mX8_sheet [.ref 110, .int x1, .int x2, .int x3] h1 (some (.int r2), h2, 0, 0) ∧ (∃ o, pobj h1 110 = some o ∧ o.1 = 8) ∧ HI HT h2 ∧ JT h2 ∧ RJ h2 := by
  obtain ⟨r, h1, h2, q1, q2, q3, p1, p2, p3, p4⟩ := pr_ok3 (E := E) (x1 := x1) (x2 := x2) (x3 := x3) cp_sheet2_2 rfl rfl (List.cons_ne_nil _ _) (List.cons_ne_nil _ _) (fun _ h => absurd h List.not_mem_nil) hh hj hR.1 hR.2.1 ⟨a1, a2, i32_b x3, trivial⟩ (pBd.cs (ty_86_1 hh hR).1 (ty_86_1 hh hR).2 (pBd.cs (ty_86_2 hh hR).1 (ty_86_2 hh hR).2 pBd.nl)) (fun e he => by cases he)
  exact ⟨r, r, h1, h2, q1, q2, q3, p1, p2, p3.1, p3.2, xj_fr hR.2.2 p4 (by decide +kernel)⟩
theorem lf_sheet2_3 (x1 x2 x3 : Int32) (hh : HI HT h) (hj : JT h) (hR : RJ h) (a1 : 2 ≤ x1.toInt ∧ x1.toInt ≤ 2) (a2 : 1 ≤ x2.toInt ∧ x2.toInt ≤ 1) : ∃ (r1 r2 : Int32) (h1 h2 : List pC), Run prog E pV1 120 mX7_sheet [.ref 0, .int x1, .int x2, .int x3] h (some (.int r1), h1, 0, 0) ∧ Run prog E pV1 120 mX8_sheet [.ref 110, .int x1, .int x2, .int x3] h1 (some (.int r2), h2, 0, 0) ∧ (∃ o, pobj h1 110 = some o ∧ o.1 = 8) ∧ HI HT h2 ∧ JT h2 ∧ RJ h2 := by
  obtain ⟨r, h1, h2, q1, q2, q3, p1, p2, p3, p4⟩ := pr_ok3 (E := E) (x1 := x1) (x2 := x2) (x3 := x3) cp_sheet2_3 rfl rfl (List.cons_ne_nil _ _) (List.cons_ne_nil _ _) (fun _ h => absurd h List.not_mem_nil) hh hj hR.1 hR.2.1 ⟨a1, a2, i32_b x3, trivial⟩ (pBd.cs (ty_86_1 hh hR).1 (ty_86_1 hh hR).2 (pBd.cs (ty_86_2 hh hR).1 (ty_86_2 hh hR).2 pBd.nl)) (fun e he => by cases he)
  exact ⟨r, r, h1, h2, q1, q2, q3, p1, p2, p3.1, p3.2, xj_fr hR.2.2 p4 (by decide +kernel)⟩
theorem lf_sheet2_4 (x1 x2 x3 : Int32) (hh : HI HT h) (hj : JT h) (hR : RJ h) (a1 : 2 ≤ x1.toInt ∧ x1.toInt ≤ 2) (a2 : 2 ≤ x2.toInt ∧ x2.toInt ≤ 2147483647) : ∃ (r1 r2 : Int32) (h1 h2 : List pC), Run prog E pV1 120 mX7_sheet [.ref 0, .int x1, .int x2, .int x3] h (some (.int r1), h1, 0, 0) ∧ Run prog E pV1 120 mX8_sheet [.ref 110, .int x1, .int x2, .int x3] h1 (some (.int r2), h2, 0, 0) ∧ (∃ o, pobj h1 110 = some o ∧ o.1 = 8) ∧ HI HT h2 ∧ JT h2 ∧ RJ h2 := by
  obtain ⟨r, h1, h2, q1, q2, q3, p1, p2, p3, p4⟩ := pr_ok3 (E := E) (x1 := x1) (x2 := x2) (x3 := x3) cp_sheet2_4 rfl rfl (List.cons_ne_nil _ _) (List.cons_ne_nil _ _) (fun _ h => absurd h List.not_mem_nil) hh hj hR.1 hR.2.1 ⟨a1, a2, i32_b x3, trivial⟩ (pBd.cs (ty_86_1 hh hR).1 (ty_86_1 hh hR).2 (pBd.cs (ty_86_2 hh hR).1 (ty_86_2 hh hR).2 pBd.nl)) (fun e he => by cases he)
  exact ⟨r, r, h1, h2, q1, q2, q3, p1, p2, p3.1, p3.2, xj_fr hR.2.2 p4 (by decide +kernel)⟩
theorem lf_sheet3_0 (x1 x2 x3 : Int32) (hh : HI HT h) (hj : JT h) (hR : RJ h) (a1 : 3 ≤ x1.toInt ∧ x1.toInt ≤ 3) (a2 : (-2147483648) ≤ x2.toInt ∧ x2.toInt ≤ (-2)) : ∃ (r1 r2 : Int32) (h1 h2 : List pC), Run prog E pV1 120 mX7_sheet [.ref 0, .int x1, .int x2, .int x3] h (some (.int r1), h1, 0, 0) ∧ Run prog E pV1 120 mX8_sheet [.ref 110, .int x1, .int x2, .int x3] h1 (some (.int r2), h2, 0, 0) ∧ (∃ o, pobj h1 110 = some o ∧ o.1 = 8) ∧ HI HT h2 ∧ JT h2 ∧ RJ h2 := by
  obtain ⟨r, h1, h2, q1, q2, q3, p1, p2, p3, p4⟩ := pr_ok3 (E := E) (x1 := x1) (x2 := x2) (x3 := x3) cp_sheet3_0 rfl rfl (List.cons_ne_nil _ _) (List.cons_ne_nil _ _) (fun _ h => absurd h List.not_mem_nil) hh hj hR.1 hR.2.1 ⟨a1, a2, i32_b x3, trivial⟩ (pBd.cs (ty_88_1 hh hR).1 (ty_88_1 hh hR).2 (pBd.cs (ty_88_2 hh hR).1 (ty_88_2 hh hR).2 pBd.nl)) (fun e he => by cases he)
  exact ⟨r, r, h1, h2, q1, q2, q3, p1, p2, p3.1, p3.2, xj_fr hR.2.2 p4 (by decide +kernel)⟩
theorem lf_sheet3_1 (x1 x2 x3 : Int32) (hh : HI HT h) (hj : JT h) (hR : RJ h) (a1 : 3 ≤ x1.toInt ∧ x1.toInt ≤ 3) (a2 : (-1) ≤ x2.toInt ∧ x2.toInt ≤ (-1)) : ∃ (r1 r2 : Int32) (h1 h2 : List pC), Run prog E pV1 120 mX7_sheet [.ref 0, .int x1, .int x2, .int x3] h (some (.int r1), h1, 0, 0) ∧ Run prog E pV1 120 mX8_sheet [.ref 110, .int x1, .int x2, .int x3] h1 (some (.int r2), h2, 0, 0) ∧ (∃ o, pobj h1 110 = some o ∧ o.1 = 8) ∧ HI HT h2 ∧ JT h2 ∧ RJ h2 := by
  obtain ⟨r, h1, h2, q1, q2, q3, p1, p2, p3, p4⟩ := pr_ok3 (E := E) (x1 := x1) (x2 := x2) (x3 := x3) cp_sheet3_1 rfl rfl (List.cons_ne_nil _ _) (List.cons_ne_nil _ _) (fun _ h => absurd h List.not_mem_nil) hh hj hR.1 hR.2.1 ⟨a1, a2, i32_b x3, trivial⟩ (pBd.cs (ty_88_1 hh hR).1 (ty_88_1 hh hR).2 (pBd.cs (ty_88_2 hh hR).1 (ty_88_2 hh hR).2 pBd.nl)) (fun e he => by cases he)
  exact ⟨r, r, h1, h2, q1, q2, q3, p1, p2, p3.1, p3.2, xj_fr hR.2.2 p4 (by decide +kernel)⟩
theorem lf_sheet3_2 (x1 x2 x3 : Int32) (hh : HI HT h) (hj : JT h) (hR : RJ h) (a1 : 3 ≤ x1.toInt ∧ x1.toInt ≤ 3) (a2 : 0 ≤ x2.toInt ∧ x2.toInt ≤ 0) : ∃ (r1 r2 : Int32) (h1 h2 : List pC), Run prog E pV1 120 mX7_sheet [.ref 0, .int x1, .int x2, .int x3] h (some (.int r1), h1, 0, 0) ∧ Run prog E pV1 120 mX8_sheet [.ref 110, .int x1, .int x2, .int x3] h1 (some (.int r2), h2, 0, 0) ∧ (∃ o, pobj h1 110 = some o ∧ o.1 = 8) ∧ HI HT h2 ∧ JT h2 ∧ RJ h2 := by
  obtain ⟨r, h1, h2, q1, q2, q3, p1, p2, p3, p4⟩ := pr_ok3 (E := E) (x1 := x1) (x2 := x2) (x3 := x3) cp_sheet3_2 rfl rfl (List.cons_ne_nil _ _) (List.cons_ne_nil _ _) (fun _ h => absurd h List.not_mem_nil) hh hj hR.1 hR.2.1 ⟨a1, a2, i32_b x3, trivial⟩ (pBd.cs (ty_88_1 hh hR).1 (ty_88_1 hh hR).2 (pBd.cs (ty_88_2 hh hR).1 (ty_88_2 hh hR).2 pBd.nl)) (fun e he => by cases he)
  exact ⟨r, r, h1, h2, q1, q2, q3, p1, p2, p3.1, p3.2, xj_fr hR.2.2 p4 (by decide +kernel)⟩
theorem lf_sheet3_3 (x1 x2 x3 : Int32) (hh : HI HT h) (hj : JT h) (hR : RJ h) (a1 : 3 ≤ x1.toInt ∧ x1.toInt ≤ 3) (a2 : 1 ≤ x2.toInt ∧ x2.toInt ≤ 1) : ∃ (r1 r2 : Int32) (h1 h2 : List pC), Run prog E pV1 120 mX7_sheet [.ref 0, .int x1, .int x2, .int x3] h (some (.int r1), h1, 0, 0) ∧ Run prog E pV1 120 mX8_sheet [.ref 110, .int x1, .int x2, .int x3] h1 (some (.int r2), h2, 0, 0) ∧ (∃ o, pobj h1 110 = some o ∧ o.1 = 8) ∧ HI HT h2 ∧ JT h2 ∧ RJ h2 := by
  obtain ⟨r, h1, h2, q1, q2, q3, p1, p2, p3, p4⟩ := pr_ok3 (E := E) (x1 := x1) (x2 := x2) (x3 := x3) cp_sheet3_3 rfl rfl (List.cons_ne_nil _ _) (List.cons_ne_nil _ _) (fun _ h => absurd h List.not_mem_nil) hh hj hR.1 hR.2.1 ⟨a1, a2, i32_b x3, trivial⟩ (pBd.cs (ty_88_1 hh hR).1 (ty_88_1 hh hR).2 (pBd.cs (ty_88_2 hh hR).1 (ty_88_2 hh hR).2 pBd.nl)) (fun e he => by cases he)
  exact ⟨r, r, h1, h2, q1, q2, q3, p1, p2, p3.1, p3.2, xj_fr hR.2.2 p4 (by decide +kernel)⟩
theorem lf_sheet3_4 (x1 x2 x3 : Int32) (hh : HI HT h) (hj : JT h) (hR : RJ h) (a1 : 3 ≤ x1.toInt ∧ x1.toInt ≤ 3) (a2 : 2 ≤ x2.toInt ∧ x2.toInt ≤ 2147483647) : ∃ (r1 r2 : Int32) (h1 h2 : List pC), Run prog E pV1 120 mX7_sheet [.ref 0, .int x1, .int x2, .int x3] h (some (.int r1), h1, 0, 0) ∧ Run prog E pV1 120 mX8_sheet [.ref 110, .int x1, .int x2, .int x3] h1 (some (.int r2), h2, 0, 0) ∧ (∃ o, pobj h1 110 = some o ∧ o.1 = 8) ∧ HI HT h2 ∧ JT h2 ∧ RJ h2 := by
  obtain ⟨r, h1, h2, q1, q2, q3, p1, p2, p3, p4⟩ := pr_ok3 (E := E) (x1 := x1) (x2 := x2) (x3 := x3) cp_sheet3_4 rfl rfl (List.cons_ne_nil _ _) (List.cons_ne_nil _ _) (fun _ h => absurd h List.not_mem_nil) hh hj hR.1 hR.2.1 ⟨a1, a2, i32_b x3, trivial⟩ (pBd.cs (ty_88_1 hh hR).1 (ty_88_1 hh hR).2 (pBd.cs (ty_88_2 hh hR).1 (ty_88_2 hh hR).2 pBd.nl)) (fun e he => by cases he)
  exact ⟨r, r, h1, h2, q1, q2, q3, p1, p2, p3.1, p3.2, xj_fr hR.2.2 p4 (by decide +kernel)⟩
theorem lf_sheetl (x1 x2 x3 : Int32) (hh : HI HT h) (hj : JT h) (hR : RJ h) (a1 : (-2147483648) ≤ x1.toInt ∧ x1.toInt ≤ (-1)) : ∃ (r1 r2 : Int32) (h1 h2 : List pC), Run prog E pV1 120 mX7_sheet [.ref 0, .int x1, .int x2, .int x3] h (some (.int r1), h1, 0, 0) ∧ Run prog E pV1 120 mX8_sheet [.ref 110, .int x1, .int x2, .int x3] h1 (some (.int r2), h2, 0, 0) ∧ (∃ o, pobj h1 110 = some o ∧ o.1 = 8) ∧ HI HT h2 ∧ JT h2 ∧ RJ h2 := by
  obtain ⟨r, h1, h2, q1, q2, q3, p1, p2, p3, p4⟩ := pr_ok3 (E := E) (x1 := x1) (x2 := x2) (x3 := x3) cp_sheetl rfl rfl (List.cons_ne_nil _ _) (List.cons_ne_nil _ _) (fun _ h => absurd h List.not_mem_nil) hh hj hR.1 hR.2.1 ⟨a1, i32_b x2, i32_b x3, trivial⟩ pBd.nl (fun e he => by cases he)
  exact ⟨r, r, h1, h2, q1, q2, q3, p1, p2, p3.1, p3.2, xj_fr hR.2.2 p4 (by decide +kernel)⟩
theorem lf_sheeth (x1 x2 x3 : Int32) (hh : HI HT h) (hj : JT h) (hR : RJ h) (a1 : 4 ≤ x1.toInt ∧ x1.toInt ≤ 2147483647) : ∃ (r1 r2 : Int32) (h1 h2 : List pC), Run prog E pV1 120 mX7_sheet [.ref 0, .int x1, .int x2, .int x3] h (some (.int r1), h1, 0, 0) ∧ Run prog E pV1 120 mX8_sheet [.ref 110, .int x1, .int x2, .int x3] h1 (some (.int r2), h2, 0, 0) ∧ (∃ o, pobj h1 110 = some o ∧ o.1 = 8) ∧ HI HT h2 ∧ JT h2 ∧ RJ h2 := by
  obtain ⟨r, h1, h2, q1, q2, q3, p1, p2, p3, p4⟩ := pr_ok3 (E := E) (x1 := x1) (x2 := x2) (x3 := x3) cp_sheeth rfl rfl (List.cons_ne_nil _ _) (List.cons_ne_nil _ _) (fun _ h => absurd h List.not_mem_nil) hh hj hR.1 hR.2.1 ⟨a1, i32_b x2, i32_b x3, trivial⟩ pBd.nl (fun e he => by cases he)
  exact ⟨r, r, h1, h2, q1, q2, q3, p1, p2, p3.1, p3.2, xj_fr hR.2.2 p4 (by decide +kernel)⟩
theorem lw_sheet (x1 x2 x3 : Int32) (hh : HI HT h) (hj : JT h) (hR : RJ h) : ∃ (r1 r2 : Int32) (h1 h2 : List pC), Run prog E pV1 120 mX7_sheet [.ref 0, .int x1, .int x2, .int x3] h (some (.int r1), h1, 0, 0) ∧ Run prog E pV1 120 mX8_sheet [.ref 110, .int x1, .int x2, .int x3] h1 (some (.int r2), h2, 0, 0) ∧ (∃ o, pobj h1 110 = some o ∧ o.1 = 8) ∧ HI HT h2 ∧ JT h2 ∧ RJ h2 := by
  have ex1 := i32_b x1
  have ex2 := i32_b x2
  have ex3 := i32_b x3
  have t82_1 := ty_82_1 hh hR
  have t82_2 := ty_82_2 hh hR
  have t84_1 := ty_84_1 hh hR
  have t84_2 := ty_84_2 hh hR
  have t86_1 := ty_86_1 hh hR
  have t86_2 := ty_86_2 hh hR
  have t88_1 := ty_88_1 hh hR
  have t88_2 := ty_88_2 hh hR
  by_cases c1 : x1.toInt ≤ (-1)
  · exact lf_sheetl x1 x2 x3 hh hj hR ⟨by omega, by omega⟩
  by_cases c2 : x1.toInt ≤ 0
  · by_cases c3 : x2.toInt ≤ (-2)
    · exact lf_sheet0_0 x1 x2 x3 hh hj hR ⟨by omega, by omega⟩ ⟨by omega, by omega⟩
    by_cases c4 : x2.toInt ≤ (-1)
    · exact lf_sheet0_1 x1 x2 x3 hh hj hR ⟨by omega, by omega⟩ ⟨by omega, by omega⟩
    by_cases c5 : x2.toInt ≤ 0
    · exact lf_sheet0_2 x1 x2 x3 hh hj hR ⟨by omega, by omega⟩ ⟨by omega, by omega⟩
    by_cases c6 : x2.toInt ≤ 1
    · exact lf_sheet0_3 x1 x2 x3 hh hj hR ⟨by omega, by omega⟩ ⟨by omega, by omega⟩
    exact lf_sheet0_4 x1 x2 x3 hh hj hR ⟨by omega, by omega⟩ ⟨by omega, by omega⟩
  by_cases c7 : x1.toInt ≤ 1
  · by_cases c8 : x2.toInt ≤ (-2)
    · exact lf_sheet1_0 x1 x2 x3 hh hj hR ⟨by omega, by omega⟩ ⟨by omega, by omega⟩
    by_cases c9 : x2.toInt ≤ (-1)
    · exact lf_sheet1_1 x1 x2 x3 hh hj hR ⟨by omega, by omega⟩ ⟨by omega, by omega⟩
    by_cases c10 : x2.toInt ≤ 0
    · exact lf_sheet1_2 x1 x2 x3 hh hj hR ⟨by omega, by omega⟩ ⟨by omega, by omega⟩
    by_cases c11 : x2.toInt ≤ 1
    · exact lf_sheet1_3 x1 x2 x3 hh hj hR ⟨by omega, by omega⟩ ⟨by omega, by omega⟩
    exact lf_sheet1_4 x1 x2 x3 hh hj hR ⟨by omega, by omega⟩ ⟨by omega, by omega⟩
  by_cases c12 : x1.toInt ≤ 2
  · by_cases c13 : x2.toInt ≤ (-2)
    · exact lf_sheet2_0 x1 x2 x3 hh hj hR ⟨by omega, by omega⟩ ⟨by omega, by omega⟩
    by_cases c14 : x2.toInt ≤ (-1)
    · exact lf_sheet2_1 x1 x2 x3 hh hj hR ⟨by omega, by omega⟩ ⟨by omega, by omega⟩
    by_cases c15 : x2.toInt ≤ 0
    · exact lf_sheet2_2 x1 x2 x3 hh hj hR ⟨by omega, by omega⟩ ⟨by omega, by omega⟩
    by_cases c16 : x2.toInt ≤ 1
    · exact lf_sheet2_3 x1 x2 x3 hh hj hR ⟨by omega, by omega⟩ ⟨by omega, by omega⟩
    exact lf_sheet2_4 x1 x2 x3 hh hj hR ⟨by omega, by omega⟩ ⟨by omega, by omega⟩
  by_cases c17 : x1.toInt ≤ 3
  · by_cases c18 : x2.toInt ≤ (-2)
    · exact lf_sheet3_0 x1 x2 x3 hh hj hR ⟨by omega, by omega⟩ ⟨by omega, by omega⟩
    by_cases c19 : x2.toInt ≤ (-1)
    · exact lf_sheet3_1 x1 x2 x3 hh hj hR ⟨by omega, by omega⟩ ⟨by omega, by omega⟩
    by_cases c20 : x2.toInt ≤ 0
    · exact lf_sheet3_2 x1 x2 x3 hh hj hR ⟨by omega, by omega⟩ ⟨by omega, by omega⟩
    by_cases c21 : x2.toInt ≤ 1
    · exact lf_sheet3_3 x1 x2 x3 hh hj hR ⟨by omega, by omega⟩ ⟨by omega, by omega⟩
    exact lf_sheet3_4 x1 x2 x3 hh hj hR ⟨by omega, by omega⟩ ⟨by omega, by omega⟩
  exact lf_sheeth x1 x2 x3 hh hj hR ⟨by omega, by omega⟩
theorem lw_mark (x1 x2 x3 : Int32) (hh : HI HT h) (hj : JT h) (hR : RJ h) : ∃ (r1 r2 : Int32) (h1 h2 : List pC), Run prog E pV1 120 mX7_mark [.ref 0, .int x1, .int x2, .int x3] h (some (.int r1), h1, 0, 0) ∧ Run prog E pV1 120 mX8_mark [.ref 110, .int x1, .int x2, .int x3] h1 (some (.int r2), h2, 0, 0) ∧ (∃ o, pobj h1 110 = some o ∧ o.1 = 8) ∧ HI HT h2 ∧ JT h2 ∧ RJ h2 := by
  obtain ⟨r1, h1, q1, hh1, f1, hj1⟩ := pub_of (E := E) (a := 0) (kg_c_markF) (N := mX7_mark) rfl (List.cons_ne_nil _ _) [x1, x2, x3] rfl (fun q => by cases q) (Nat.le_of_ble_eq_true rfl) hh hj
  obtain ⟨r2, h2, q2, hh2, f2, hj2⟩ := pub_of (E := E) (a := 110) (kg_r_markF) (N := mX8_mark) rfl (List.cons_ne_nil _ _) [x1, x2, x3] rfl (fun q => by cases q) (Nat.le_of_ble_eq_true rfl) hh1 hj1
  exact ⟨r1, r2, h1, h2, q1, q2, mobj hh1, hh2, hj2, ⟨pRel_fr (pRel_fr hR.1 f1 (by decide +kernel)) f2 (by decide +kernel), cRel_fr (cRel_fr hR.2.1 f1 (by decide +kernel)) f2 (by decide +kernel), xj_fr (xj_fr hR.2.2 f1 (by decide +kernel)) f2 (by decide +kernel)⟩⟩
theorem lw_pour (x1 : Int32) (hh : HI HT h) (hj : JT h) (hR : RJ h) : ∃ (r1 r2 : Int32) (h1 h2 : List pC), Run prog E pV1 120 mX7_pour [.ref 0, .int x1] h (some (.int r1), h1, 0, 0) ∧ Run prog E pV1 120 mX8_pour [.ref 110, .int x1] h1 (some (.int r2), h2, 0, 0) ∧ (∃ o, pobj h1 110 = some o ∧ o.1 = 8) ∧ HI HT h2 ∧ JT h2 ∧ RJ h2 := by
  obtain ⟨r1, h1, q1, hh1, f1, hj1⟩ := pub_of (E := E) (a := 0) (kg_c_pourF) (N := mX7_pour) rfl (List.cons_ne_nil _ _) [x1] rfl (fun q => by cases q) (Nat.le_of_ble_eq_true rfl) hh hj
  obtain ⟨r2, h2, q2, hh2, f2, hj2⟩ := pub_of (E := E) (a := 110) (kg_r_pourF) (N := mX8_pour) rfl (List.cons_ne_nil _ _) [x1] rfl (fun q => by cases q) (Nat.le_of_ble_eq_true rfl) hh1 hj1
  exact ⟨r1, r2, h1, h2, q1, q2, mobj hh1, hh2, hj2, ⟨pRel_fr (pRel_fr hR.1 f1 (by decide +kernel)) f2 (by decide +kernel), cRel_fr (cRel_fr hR.2.1 f1 (by decide +kernel)) f2 (by decide +kernel), xj_fr (xj_fr hR.2.2 f1 (by decide +kernel)) f2 (by decide +kernel)⟩⟩
theorem lw_reads (x1 : Int32) (hh : HI HT h) (hj : JT h) (hR : RJ h) : ∃ (r1 r2 : Int32) (h1 h2 : List pC), Run prog E pV1 120 mX7_reads [.ref 0, .int x1] h (some (.int r1), h1, 0, 0) ∧ Run prog E pV1 120 mX8_reads [.ref 110, .int x1] h1 (some (.int r2), h2, 0, 0) ∧ (∃ o, pobj h1 110 = some o ∧ o.1 = 8) ∧ HI HT h2 ∧ JT h2 ∧ RJ h2 := by
  obtain ⟨r1, h1, q1, hh1, f1, hj1⟩ := pub_of (E := E) (a := 0) (kg_c_reads JT_P hands) (N := mX7_reads) rfl (List.cons_ne_nil _ _) [x1] rfl (fun q => by cases q) (Nat.le_of_ble_eq_true rfl) hh hj
  obtain ⟨r2, h2, q2, hh2, f2, hj2⟩ := pub_of (E := E) (a := 110) (kg_r_reads JT_P hands) (N := mX8_reads) rfl (List.cons_ne_nil _ _) [x1] rfl (fun q => by cases q) (Nat.le_of_ble_eq_true rfl) hh1 hj1
  exact ⟨r1, r2, h1, h2, q1, q2, mobj hh1, hh2, hj2, ⟨pRel_fr (pRel_fr hR.1 f1 (by decide +kernel)) f2 (by decide +kernel), cRel_fr (cRel_fr hR.2.1 f1 (by decide +kernel)) f2 (by decide +kernel), xj_fr (xj_fr hR.2.2 f1 (by decide +kernel)) f2 (by decide +kernel)⟩⟩
theorem lw_copy (x1 x2 x3 x4 x5 : Int32) (hh : HI HT h) (hj : JT h) (hR : RJ h) : ∃ (r1 r2 : Int32) (h1 h2 : List pC), Run prog E pV1 120 mX7_copy [.ref 0, .int x1, .int x2, .int x3, .int x4, .int x5] h (some (.int r1), h1, 0, 0) ∧ Run prog E pV1 120 mX8_copy [.ref 110, .int x1, .int x2, .int x3, .int x4, .int x5] h1 (some (.int r2), h2, 0, 0) ∧ (∃ o, pobj h1 110 = some o ∧ o.1 = 8) ∧ HI HT h2 ∧ JT h2 ∧ RJ h2 := by
  obtain ⟨r1, h1, q1, hh1, f1, hj1⟩ := pub_of (E := E) (a := 0) (kg_c_copyF) (N := mX7_copy) rfl (List.cons_ne_nil _ _) [x1, x2, x3, x4, x5] rfl (fun q => by cases q) (Nat.le_of_ble_eq_true rfl) hh hj
  obtain ⟨r2, h2, q2, hh2, f2, hj2⟩ := pub_of (E := E) (a := 110) hd_copy (N := mX8_copy) rfl (List.cons_ne_nil _ _) [x1, x2, x3, x4, x5] rfl (fun q => by cases q) (Nat.le_of_ble_eq_true rfl) hh1 hj1
  exact ⟨r1, r2, h1, h2, q1, q2, mobj hh1, hh2, hj2, ⟨pRel_fr (pRel_fr hR.1 f1 (by decide +kernel)) f2 (by decide +kernel), cRel_fr (cRel_fr hR.2.1 f1 (by decide +kernel)) f2 (by decide +kernel), xj_fr (xj_fr hR.2.2 f1 (by decide +kernel)) f2 (by decide +kernel)⟩⟩
theorem lf_lay0_0_0 (x1 x2 x3 : Int32) (hh : HI HT h) (hj : JT h) (hR : RJ h) (a1 : 0 ≤ x1.toInt ∧ x1.toInt ≤ 0) (a2 : (-2147483648) ≤ x2.toInt ∧ x2.toInt ≤ (-1)) (b90_2 : 0 ≤ (ri h 90 2).toInt ∧ (ri h 90 2).toInt ≤ 2) : ∃ (r1 r2 : Int32) (h1 h2 : List pC), Run prog E pV1 120 mX7_lay [.ref 0, .int x1, .int x2, .int x3] h (some (.int r1), h1, 0, 0) ∧ Run prog E pV1 120 mX8_lay [.ref 110, .int x1, .int x2, .int x3] h1 (some (.int r2), h2, 0, 0) ∧ (∃ o, pobj h1 110 = some o ∧ o.1 = 8) ∧ HI HT h2 ∧ JT h2 ∧ RJ h2 := by
  obtain ⟨r, h1, h2, q1, q2, q3, p1, p2, p3, p4⟩ := pr_ok3 (E := E) (x1 := x1) (x2 := x2) (x3 := x3) cp_lay0_0_0 rfl rfl (List.cons_ne_nil _ _) (List.cons_ne_nil _ _) (fun _ h => absurd h List.not_mem_nil) hh hj hR.1 hR.2.1 ⟨a1, a2, i32_b x3, trivial⟩ (pBd.cs b90_2.1 b90_2.2 pBd.nl) (fun e he => by cases he)
  exact ⟨r, r, h1, h2, q1, q2, q3, p1, p2, p3.1, p3.2, xj_fr hR.2.2 p4 (by decide +kernel)⟩
theorem lf_lay0_0_1 (x1 x2 x3 : Int32) (hh : HI HT h) (hj : JT h) (hR : RJ h) (a1 : 0 ≤ x1.toInt ∧ x1.toInt ≤ 0) (a2 : 0 ≤ x2.toInt ∧ x2.toInt ≤ 0) (b90_2 : 0 ≤ (ri h 90 2).toInt ∧ (ri h 90 2).toInt ≤ 2) : ∃ (r1 r2 : Int32) (h1 h2 : List pC), Run prog E pV1 120 mX7_lay [.ref 0, .int x1, .int x2, .int x3] h (some (.int r1), h1, 0, 0) ∧ Run prog E pV1 120 mX8_lay [.ref 110, .int x1, .int x2, .int x3] h1 (some (.int r2), h2, 0, 0) ∧ (∃ o, pobj h1 110 = some o ∧ o.1 = 8) ∧ HI HT h2 ∧ JT h2 ∧ RJ h2 := by
  obtain ⟨r, h1, h2, q1, q2, q3, p1, p2, p3, p4⟩ := pr_ok3 (E := E) (x1 := x1) (x2 := x2) (x3 := x3) cp_lay0_0_1 rfl rfl (List.cons_ne_nil _ _) (List.cons_ne_nil _ _) (fun _ h => absurd h List.not_mem_nil) hh hj hR.1 hR.2.1 ⟨a1, a2, i32_b x3, trivial⟩ (pBd.cs b90_2.1 b90_2.2 pBd.nl) (fun e he => by cases he)
  exact ⟨r, r, h1, h2, q1, q2, q3, p1, p2, p3.1, p3.2, xj_fr hR.2.2 p4 (by decide +kernel)⟩
theorem lf_lay0_0_2 (x1 x2 x3 : Int32) (hh : HI HT h) (hj : JT h) (hR : RJ h) (a1 : 0 ≤ x1.toInt ∧ x1.toInt ≤ 0) (a2 : 1 ≤ x2.toInt ∧ x2.toInt ≤ 1) (b90_2 : 0 ≤ (ri h 90 2).toInt ∧ (ri h 90 2).toInt ≤ 2) : ∃ (r1 r2 : Int32) (h1 h2 : List pC), Run prog E pV1 120 mX7_lay [.ref 0, .int x1, .int x2, .int x3] h (some (.int r1), h1, 0, 0) ∧ Run prog E pV1 120 mX8_lay [.ref 110, .int x1, .int x2, .int x3] h1 (some (.int r2), h2, 0, 0) ∧ (∃ o, pobj h1 110 = some o ∧ o.1 = 8) ∧ HI HT h2 ∧ JT h2 ∧ RJ h2 := by
  obtain ⟨r, h1, h2, q1, q2, q3, p1, p2, p3, p4⟩ := pr_ok3 (E := E) (x1 := x1) (x2 := x2) (x3 := x3) cp_lay0_0_2 rfl rfl (List.cons_ne_nil _ _) (List.cons_ne_nil _ _) (List.forall_mem_cons.mpr ⟨kg_m_worth JT_P hands, (fun _ h => absurd h List.not_mem_nil)⟩) hh hj hR.1 hR.2.1 ⟨a1, a2, i32_b x3, trivial⟩ (pBd.cs (ty_34_5 hh hR).1 (ty_34_5 hh hR).2 (pBd.cs b90_2.1 b90_2.2 pBd.nl)) (fun e he => by cases he)
  exact ⟨r, r, h1, h2, q1, q2, q3, p1, p2, p3.1, p3.2, xj_fr hR.2.2 p4 (by decide +kernel)⟩
theorem lf_lay0_0_3 (x1 x2 x3 : Int32) (hh : HI HT h) (hj : JT h) (hR : RJ h) (a1 : 0 ≤ x1.toInt ∧ x1.toInt ≤ 0) (a2 : 3 ≤ x2.toInt ∧ x2.toInt ≤ 3) (b90_2 : 0 ≤ (ri h 90 2).toInt ∧ (ri h 90 2).toInt ≤ 2) : ∃ (r1 r2 : Int32) (h1 h2 : List pC), Run prog E pV1 120 mX7_lay [.ref 0, .int x1, .int x2, .int x3] h (some (.int r1), h1, 0, 0) ∧ Run prog E pV1 120 mX8_lay [.ref 110, .int x1, .int x2, .int x3] h1 (some (.int r2), h2, 0, 0) ∧ (∃ o, pobj h1 110 = some o ∧ o.1 = 8) ∧ HI HT h2 ∧ JT h2 ∧ RJ h2 := by
  obtain ⟨r, h1, h2, q1, q2, q3, p1, p2, p3, p4⟩ := pr_ok3 (E := E) (x1 := x1) (x2 := x2) (x3 := x3) cp_lay0_0_3 rfl rfl (List.cons_ne_nil _ _) (List.cons_ne_nil _ _) (fun _ h => absurd h List.not_mem_nil) hh hj hR.1 hR.2.1 ⟨a1, a2, i32_b x3, trivial⟩ (pBd.cs b90_2.1 b90_2.2 pBd.nl) (fun e he => by cases he)
  exact ⟨r, r, h1, h2, q1, q2, q3, p1, p2, p3.1, p3.2, xj_fr hR.2.2 p4 (by decide +kernel)⟩
theorem lf_lay0_0_4 (x1 x2 x3 : Int32) (hh : HI HT h) (hj : JT h) (hR : RJ h) (a1 : 0 ≤ x1.toInt ∧ x1.toInt ≤ 0) (a2 : 4 ≤ x2.toInt ∧ x2.toInt ≤ 2147483647) (b90_2 : 0 ≤ (ri h 90 2).toInt ∧ (ri h 90 2).toInt ≤ 2) : ∃ (r1 r2 : Int32) (h1 h2 : List pC), Run prog E pV1 120 mX7_lay [.ref 0, .int x1, .int x2, .int x3] h (some (.int r1), h1, 0, 0) ∧ Run prog E pV1 120 mX8_lay [.ref 110, .int x1, .int x2, .int x3] h1 (some (.int r2), h2, 0, 0) ∧ (∃ o, pobj h1 110 = some o ∧ o.1 = 8) ∧ HI HT h2 ∧ JT h2 ∧ RJ h2 := by
  obtain ⟨r, h1, h2, q1, q2, q3, p1, p2, p3, p4⟩ := pr_ok3 (E := E) (x1 := x1) (x2 := x2) (x3 := x3) cp_lay0_0_4 rfl rfl (List.cons_ne_nil _ _) (List.cons_ne_nil _ _) (fun _ h => absurd h List.not_mem_nil) hh hj hR.1 hR.2.1 ⟨a1, a2, i32_b x3, trivial⟩ (pBd.cs b90_2.1 b90_2.2 pBd.nl) (fun e he => by cases he)
  exact ⟨r, r, h1, h2, q1, q2, q3, p1, p2, p3.1, p3.2, xj_fr hR.2.2 p4 (by decide +kernel)⟩
theorem lf_lay0_0s0 (x1 x2 x3 : Int32) (hh : HI HT h) (hj : JT h) (hR : RJ h) (a1 : 0 ≤ x1.toInt ∧ x1.toInt ≤ 0) (a2 : 2 ≤ x2.toInt ∧ x2.toInt ≤ 2) (a3 : (-2147483648) ≤ x3.toInt ∧ x3.toInt ≤ (-1)) (b90_2 : 0 ≤ (ri h 90 2).toInt ∧ (ri h 90 2).toInt ≤ 2) : ∃ (r1 r2 : Int32) (h1 h2 : List pC), Run prog E pV1 120 mX7_lay [.ref 0, .int x1, .int x2, .int x3] h (some (.int r1), h1, 0, 0) ∧ Run prog E pV1 120 mX8_lay [.ref 110, .int x1, .int x2, .int x3] h1 (some (.int r2), h2, 0, 0) ∧ (∃ o, pobj h1 110 = some o ∧ o.1 = 8) ∧ HI HT h2 ∧ JT h2 ∧ RJ h2 := by
  obtain ⟨r, h1, h2, q1, q2, q3, p1, p2, p3, p4⟩ := pr_ok3 (E := E) (x1 := x1) (x2 := x2) (x3 := x3) cp_lay0_0s0 rfl rfl (List.cons_ne_nil _ _) (List.cons_ne_nil _ _) (fun _ h => absurd h List.not_mem_nil) hh hj hR.1 hR.2.1 ⟨a1, a2, a3, trivial⟩ (pBd.cs b90_2.1 b90_2.2 pBd.nl) (fun e he => by cases he)
  exact ⟨r, r, h1, h2, q1, q2, q3, p1, p2, p3.1, p3.2, xj_fr hR.2.2 p4 (by decide +kernel)⟩
theorem lf_lay0_0s1 (x1 x2 x3 : Int32) (hh : HI HT h) (hj : JT h) (hR : RJ h) (a1 : 0 ≤ x1.toInt ∧ x1.toInt ≤ 0) (a2 : 2 ≤ x2.toInt ∧ x2.toInt ≤ 2) (a3 : 0 ≤ x3.toInt ∧ x3.toInt ≤ 0) (b90_2 : 0 ≤ (ri h 90 2).toInt ∧ (ri h 90 2).toInt ≤ 2) : ∃ (r1 r2 : Int32) (h1 h2 : List pC), Run prog E pV1 120 mX7_lay [.ref 0, .int x1, .int x2, .int x3] h (some (.int r1), h1, 0, 0) ∧ Run prog E pV1 120 mX8_lay [.ref 110, .int x1, .int x2, .int x3] h1 (some (.int r2), h2, 0, 0) ∧ (∃ o, pobj h1 110 = some o ∧ o.1 = 8) ∧ HI HT h2 ∧ JT h2 ∧ RJ h2 := by
  obtain ⟨r, h1, h2, q1, q2, q3, p1, p2, p3, p4⟩ := pr_ok3 (E := E) (x1 := x1) (x2 := x2) (x3 := x3) cp_lay0_0s1 rfl rfl (List.cons_ne_nil _ _) (List.cons_ne_nil _ _) (fun _ h => absurd h List.not_mem_nil) hh hj hR.1 hR.2.1 ⟨a1, a2, a3, trivial⟩ (pBd.cs b90_2.1 b90_2.2 (pBd.cs (ty_82_1 hh hR).1 (ty_82_1 hh hR).2 (pBd.cs (ty_82_2 hh hR).1 (ty_82_2 hh hR).2 pBd.nl))) (fun e he => by cases he)
  exact ⟨r, r, h1, h2, q1, q2, q3, p1, p2, p3.1, p3.2, xj_fr hR.2.2 p4 (by decide +kernel)⟩
theorem lf_lay0_0s2 (x1 x2 x3 : Int32) (hh : HI HT h) (hj : JT h) (hR : RJ h) (a1 : 0 ≤ x1.toInt ∧ x1.toInt ≤ 0) (a2 : 2 ≤ x2.toInt ∧ x2.toInt ≤ 2) (a3 : 1 ≤ x3.toInt ∧ x3.toInt ≤ 1) (b90_2 : 0 ≤ (ri h 90 2).toInt ∧ (ri h 90 2).toInt ≤ 2) : ∃ (r1 r2 : Int32) (h1 h2 : List pC), Run prog E pV1 120 mX7_lay [.ref 0, .int x1, .int x2, .int x3] h (some (.int r1), h1, 0, 0) ∧ Run prog E pV1 120 mX8_lay [.ref 110, .int x1, .int x2, .int x3] h1 (some (.int r2), h2, 0, 0) ∧ (∃ o, pobj h1 110 = some o ∧ o.1 = 8) ∧ HI HT h2 ∧ JT h2 ∧ RJ h2 := by
  obtain ⟨r, h1, h2, q1, q2, q3, p1, p2, p3, p4⟩ := pr_ok3 (E := E) (x1 := x1) (x2 := x2) (x3 := x3) cp_lay0_0s2 rfl rfl (List.cons_ne_nil _ _) (List.cons_ne_nil _ _) (fun _ h => absurd h List.not_mem_nil) hh hj hR.1 hR.2.1 ⟨a1, a2, a3, trivial⟩ (pBd.cs b90_2.1 b90_2.2 (pBd.cs (ty_84_1 hh hR).1 (ty_84_1 hh hR).2 (pBd.cs (ty_84_2 hh hR).1 (ty_84_2 hh hR).2 pBd.nl))) (fun e he => by cases he)
  exact ⟨r, r, h1, h2, q1, q2, q3, p1, p2, p3.1, p3.2, xj_fr hR.2.2 p4 (by decide +kernel)⟩
theorem lf_lay0_0s3 (x1 x2 x3 : Int32) (hh : HI HT h) (hj : JT h) (hR : RJ h) (a1 : 0 ≤ x1.toInt ∧ x1.toInt ≤ 0) (a2 : 2 ≤ x2.toInt ∧ x2.toInt ≤ 2) (a3 : 2 ≤ x3.toInt ∧ x3.toInt ≤ 2) (b90_2 : 0 ≤ (ri h 90 2).toInt ∧ (ri h 90 2).toInt ≤ 2) : ∃ (r1 r2 : Int32) (h1 h2 : List pC), Run prog E pV1 120 mX7_lay [.ref 0, .int x1, .int x2, .int x3] h (some (.int r1), h1, 0, 0) ∧ Run prog E pV1 120 mX8_lay [.ref 110, .int x1, .int x2, .int x3] h1 (some (.int r2), h2, 0, 0) ∧ (∃ o, pobj h1 110 = some o ∧ o.1 = 8) ∧ HI HT h2 ∧ JT h2 ∧ RJ h2 := by
  obtain ⟨r, h1, h2, q1, q2, q3, p1, p2, p3, p4⟩ := pr_ok3 (E := E) (x1 := x1) (x2 := x2) (x3 := x3) cp_lay0_0s3 rfl rfl (List.cons_ne_nil _ _) (List.cons_ne_nil _ _) (fun _ h => absurd h List.not_mem_nil) hh hj hR.1 hR.2.1 ⟨a1, a2, a3, trivial⟩ (pBd.cs b90_2.1 b90_2.2 (pBd.cs (ty_86_1 hh hR).1 (ty_86_1 hh hR).2 (pBd.cs (ty_86_2 hh hR).1 (ty_86_2 hh hR).2 pBd.nl))) (fun e he => by cases he)
  exact ⟨r, r, h1, h2, q1, q2, q3, p1, p2, p3.1, p3.2, xj_fr hR.2.2 p4 (by decide +kernel)⟩
theorem lf_lay0_0s4 (x1 x2 x3 : Int32) (hh : HI HT h) (hj : JT h) (hR : RJ h) (a1 : 0 ≤ x1.toInt ∧ x1.toInt ≤ 0) (a2 : 2 ≤ x2.toInt ∧ x2.toInt ≤ 2) (a3 : 3 ≤ x3.toInt ∧ x3.toInt ≤ 3) (b90_2 : 0 ≤ (ri h 90 2).toInt ∧ (ri h 90 2).toInt ≤ 2) : ∃ (r1 r2 : Int32) (h1 h2 : List pC), Run prog E pV1 120 mX7_lay [.ref 0, .int x1, .int x2, .int x3] h (some (.int r1), h1, 0, 0) ∧ Run prog E pV1 120 mX8_lay [.ref 110, .int x1, .int x2, .int x3] h1 (some (.int r2), h2, 0, 0) ∧ (∃ o, pobj h1 110 = some o ∧ o.1 = 8) ∧ HI HT h2 ∧ JT h2 ∧ RJ h2 := by
  obtain ⟨r, h1, h2, q1, q2, q3, p1, p2, p3, p4⟩ := pr_ok3 (E := E) (x1 := x1) (x2 := x2) (x3 := x3) cp_lay0_0s4 rfl rfl (List.cons_ne_nil _ _) (List.cons_ne_nil _ _) (fun _ h => absurd h List.not_mem_nil) hh hj hR.1 hR.2.1 ⟨a1, a2, a3, trivial⟩ (pBd.cs b90_2.1 b90_2.2 (pBd.cs (ty_88_1 hh hR).1 (ty_88_1 hh hR).2 (pBd.cs (ty_88_2 hh hR).1 (ty_88_2 hh hR).2 pBd.nl))) (fun e he => by cases he)
  exact ⟨r, r, h1, h2, q1, q2, q3, p1, p2, p3.1, p3.2, xj_fr hR.2.2 p4 (by decide +kernel)⟩
theorem lf_lay0_0s5 (x1 x2 x3 : Int32) (hh : HI HT h) (hj : JT h) (hR : RJ h) (a1 : 0 ≤ x1.toInt ∧ x1.toInt ≤ 0) (a2 : 2 ≤ x2.toInt ∧ x2.toInt ≤ 2) (a3 : 4 ≤ x3.toInt ∧ x3.toInt ≤ 2147483647) (b90_2 : 0 ≤ (ri h 90 2).toInt ∧ (ri h 90 2).toInt ≤ 2) : ∃ (r1 r2 : Int32) (h1 h2 : List pC), Run prog E pV1 120 mX7_lay [.ref 0, .int x1, .int x2, .int x3] h (some (.int r1), h1, 0, 0) ∧ Run prog E pV1 120 mX8_lay [.ref 110, .int x1, .int x2, .int x3] h1 (some (.int r2), h2, 0, 0) ∧ (∃ o, pobj h1 110 = some o ∧ o.1 = 8) ∧ HI HT h2 ∧ JT h2 ∧ RJ h2 := by
  obtain ⟨r, h1, h2, q1, q2, q3, p1, p2, p3, p4⟩ := pr_ok3 (E := E) (x1 := x1) (x2 := x2) (x3 := x3) cp_lay0_0s5 rfl rfl (List.cons_ne_nil _ _) (List.cons_ne_nil _ _) (fun _ h => absurd h List.not_mem_nil) hh hj hR.1 hR.2.1 ⟨a1, a2, a3, trivial⟩ (pBd.cs b90_2.1 b90_2.2 pBd.nl) (fun e he => by cases he)
  exact ⟨r, r, h1, h2, q1, q2, q3, p1, p2, p3.1, p3.2, xj_fr hR.2.2 p4 (by decide +kernel)⟩
theorem lf_lay0_3_0 (x1 x2 x3 : Int32) (hh : HI HT h) (hj : JT h) (hR : RJ h) (a1 : 0 ≤ x1.toInt ∧ x1.toInt ≤ 0) (a2 : (-2147483648) ≤ x2.toInt ∧ x2.toInt ≤ (-1)) (b90_2 : 3 ≤ (ri h 90 2).toInt ∧ (ri h 90 2).toInt ≤ 3) : ∃ (r1 r2 : Int32) (h1 h2 : List pC), Run prog E pV1 120 mX7_lay [.ref 0, .int x1, .int x2, .int x3] h (some (.int r1), h1, 0, 0) ∧ Run prog E pV1 120 mX8_lay [.ref 110, .int x1, .int x2, .int x3] h1 (some (.int r2), h2, 0, 0) ∧ (∃ o, pobj h1 110 = some o ∧ o.1 = 8) ∧ HI HT h2 ∧ JT h2 ∧ RJ h2 := by
  obtain ⟨r, h1, h2, q1, q2, q3, p1, p2, p3, p4⟩ := pr_ok3 (E := E) (x1 := x1) (x2 := x2) (x3 := x3) cp_lay0_3_0 rfl rfl (List.cons_ne_nil _ _) (List.cons_ne_nil _ _) (fun _ h => absurd h List.not_mem_nil) hh hj hR.1 hR.2.1 ⟨a1, a2, i32_b x3, trivial⟩ (pBd.cs b90_2.1 b90_2.2 (pBd.cs (i32_b (ri h 90 3)).1 (i32_b (ri h 90 3)).2 pBd.nl)) (fun e he => by cases he)
  exact ⟨r, r, h1, h2, q1, q2, q3, p1, p2, p3.1, p3.2, xj_fr hR.2.2 p4 (by decide +kernel)⟩
theorem lf_lay0_3_1 (x1 x2 x3 : Int32) (hh : HI HT h) (hj : JT h) (hR : RJ h) (a1 : 0 ≤ x1.toInt ∧ x1.toInt ≤ 0) (a2 : 0 ≤ x2.toInt ∧ x2.toInt ≤ 0) (b90_2 : 3 ≤ (ri h 90 2).toInt ∧ (ri h 90 2).toInt ≤ 3) : ∃ (r1 r2 : Int32) (h1 h2 : List pC), Run prog E pV1 120 mX7_lay [.ref 0, .int x1, .int x2, .int x3] h (some (.int r1), h1, 0, 0) ∧ Run prog E pV1 120 mX8_lay [.ref 110, .int x1, .int x2, .int x3] h1 (some (.int r2), h2, 0, 0) ∧ (∃ o, pobj h1 110 = some o ∧ o.1 = 8) ∧ HI HT h2 ∧ JT h2 ∧ RJ h2 := by
  obtain ⟨r, h1, h2, q1, q2, q3, p1, p2, p3, p4⟩ := pr_ok3 (E := E) (x1 := x1) (x2 := x2) (x3 := x3) cp_lay0_3_1 rfl rfl (List.cons_ne_nil _ _) (List.cons_ne_nil _ _) (fun _ h => absurd h List.not_mem_nil) hh hj hR.1 hR.2.1 ⟨a1, a2, i32_b x3, trivial⟩ (pBd.cs b90_2.1 b90_2.2 (pBd.cs (i32_b (ri h 90 3)).1 (i32_b (ri h 90 3)).2 pBd.nl)) (fun e he => by cases he)
  exact ⟨r, r, h1, h2, q1, q2, q3, p1, p2, p3.1, p3.2, xj_fr hR.2.2 p4 (by decide +kernel)⟩
theorem lf_lay0_3_2 (x1 x2 x3 : Int32) (hh : HI HT h) (hj : JT h) (hR : RJ h) (a1 : 0 ≤ x1.toInt ∧ x1.toInt ≤ 0) (a2 : 1 ≤ x2.toInt ∧ x2.toInt ≤ 1) (b90_2 : 3 ≤ (ri h 90 2).toInt ∧ (ri h 90 2).toInt ≤ 3) : ∃ (r1 r2 : Int32) (h1 h2 : List pC), Run prog E pV1 120 mX7_lay [.ref 0, .int x1, .int x2, .int x3] h (some (.int r1), h1, 0, 0) ∧ Run prog E pV1 120 mX8_lay [.ref 110, .int x1, .int x2, .int x3] h1 (some (.int r2), h2, 0, 0) ∧ (∃ o, pobj h1 110 = some o ∧ o.1 = 8) ∧ HI HT h2 ∧ JT h2 ∧ RJ h2 := by
  obtain ⟨r, h1, h2, q1, q2, q3, p1, p2, p3, p4⟩ := pr_ok3 (E := E) (x1 := x1) (x2 := x2) (x3 := x3) cp_lay0_3_2 rfl rfl (List.cons_ne_nil _ _) (List.cons_ne_nil _ _) (List.forall_mem_cons.mpr ⟨kg_m_worth JT_P hands, (fun _ h => absurd h List.not_mem_nil)⟩) hh hj hR.1 hR.2.1 ⟨a1, a2, i32_b x3, trivial⟩ (pBd.cs (ty_34_5 hh hR).1 (ty_34_5 hh hR).2 (pBd.cs b90_2.1 b90_2.2 (pBd.cs (i32_b (ri h 90 3)).1 (i32_b (ri h 90 3)).2 pBd.nl))) (fun e he => by cases he)
  exact ⟨r, r, h1, h2, q1, q2, q3, p1, p2, p3.1, p3.2, xj_fr hR.2.2 p4 (by decide +kernel)⟩
theorem lf_lay0_3_3 (x1 x2 x3 : Int32) (hh : HI HT h) (hj : JT h) (hR : RJ h) (a1 : 0 ≤ x1.toInt ∧ x1.toInt ≤ 0) (a2 : 3 ≤ x2.toInt ∧ x2.toInt ≤ 3) (b90_2 : 3 ≤ (ri h 90 2).toInt ∧ (ri h 90 2).toInt ≤ 3) : ∃ (r1 r2 : Int32) (h1 h2 : List pC), Run prog E pV1 120 mX7_lay [.ref 0, .int x1, .int x2, .int x3] h (some (.int r1), h1, 0, 0) ∧ Run prog E pV1 120 mX8_lay [.ref 110, .int x1, .int x2, .int x3] h1 (some (.int r2), h2, 0, 0) ∧ (∃ o, pobj h1 110 = some o ∧ o.1 = 8) ∧ HI HT h2 ∧ JT h2 ∧ RJ h2 := by
  obtain ⟨r, h1, h2, q1, q2, q3, p1, p2, p3, p4⟩ := pr_ok3 (E := E) (x1 := x1) (x2 := x2) (x3 := x3) cp_lay0_3_3 rfl rfl (List.cons_ne_nil _ _) (List.cons_ne_nil _ _) (fun _ h => absurd h List.not_mem_nil) hh hj hR.1 hR.2.1 ⟨a1, a2, i32_b x3, trivial⟩ (pBd.cs b90_2.1 b90_2.2 (pBd.cs (i32_b (ri h 90 3)).1 (i32_b (ri h 90 3)).2 pBd.nl)) (fun e he => by cases he)
  exact ⟨r, r, h1, h2, q1, q2, q3, p1, p2, p3.1, p3.2, xj_fr hR.2.2 p4 (by decide +kernel)⟩
theorem lf_lay0_3_4 (x1 x2 x3 : Int32) (hh : HI HT h) (hj : JT h) (hR : RJ h) (a1 : 0 ≤ x1.toInt ∧ x1.toInt ≤ 0) (a2 : 4 ≤ x2.toInt ∧ x2.toInt ≤ 2147483647) (b90_2 : 3 ≤ (ri h 90 2).toInt ∧ (ri h 90 2).toInt ≤ 3) : ∃ (r1 r2 : Int32) (h1 h2 : List pC), Run prog E pV1 120 mX7_lay [.ref 0, .int x1, .int x2, .int x3] h (some (.int r1), h1, 0, 0) ∧ Run prog E pV1 120 mX8_lay [.ref 110, .int x1, .int x2, .int x3] h1 (some (.int r2), h2, 0, 0) ∧ (∃ o, pobj h1 110 = some o ∧ o.1 = 8) ∧ HI HT h2 ∧ JT h2 ∧ RJ h2 := by
  obtain ⟨r, h1, h2, q1, q2, q3, p1, p2, p3, p4⟩ := pr_ok3 (E := E) (x1 := x1) (x2 := x2) (x3 := x3) cp_lay0_3_4 rfl rfl (List.cons_ne_nil _ _) (List.cons_ne_nil _ _) (fun _ h => absurd h List.not_mem_nil) hh hj hR.1 hR.2.1 ⟨a1, a2, i32_b x3, trivial⟩ (pBd.cs b90_2.1 b90_2.2 (pBd.cs (i32_b (ri h 90 3)).1 (i32_b (ri h 90 3)).2 pBd.nl)) (fun e he => by cases he)
  exact ⟨r, r, h1, h2, q1, q2, q3, p1, p2, p3.1, p3.2, xj_fr hR.2.2 p4 (by decide +kernel)⟩
theorem lf_lay0_3s0 (x1 x2 x3 : Int32) (hh : HI HT h) (hj : JT h) (hR : RJ h) (a1 : 0 ≤ x1.toInt ∧ x1.toInt ≤ 0) (a2 : 2 ≤ x2.toInt ∧ x2.toInt ≤ 2) (a3 : (-2147483648) ≤ x3.toInt ∧ x3.toInt ≤ (-1)) (b90_2 : 3 ≤ (ri h 90 2).toInt ∧ (ri h 90 2).toInt ≤ 3) : ∃ (r1 r2 : Int32) (h1 h2 : List pC), Run prog E pV1 120 mX7_lay [.ref 0, .int x1, .int x2, .int x3] h (some (.int r1), h1, 0, 0) ∧ Run prog E pV1 120 mX8_lay [.ref 110, .int x1, .int x2, .int x3] h1 (some (.int r2), h2, 0, 0) ∧ (∃ o, pobj h1 110 = some o ∧ o.1 = 8) ∧ HI HT h2 ∧ JT h2 ∧ RJ h2 := by
  obtain ⟨r, h1, h2, q1, q2, q3, p1, p2, p3, p4⟩ := pr_ok3 (E := E) (x1 := x1) (x2 := x2) (x3 := x3) cp_lay0_3s0 rfl rfl (List.cons_ne_nil _ _) (List.cons_ne_nil _ _) (fun _ h => absurd h List.not_mem_nil) hh hj hR.1 hR.2.1 ⟨a1, a2, a3, trivial⟩ (pBd.cs b90_2.1 b90_2.2 (pBd.cs (i32_b (ri h 90 3)).1 (i32_b (ri h 90 3)).2 pBd.nl)) (fun e he => by cases he)
  exact ⟨r, r, h1, h2, q1, q2, q3, p1, p2, p3.1, p3.2, xj_fr hR.2.2 p4 (by decide +kernel)⟩
theorem lf_lay0_3s1 (x1 x2 x3 : Int32) (hh : HI HT h) (hj : JT h) (hR : RJ h) (a1 : 0 ≤ x1.toInt ∧ x1.toInt ≤ 0) (a2 : 2 ≤ x2.toInt ∧ x2.toInt ≤ 2) (a3 : 0 ≤ x3.toInt ∧ x3.toInt ≤ 0) (b90_2 : 3 ≤ (ri h 90 2).toInt ∧ (ri h 90 2).toInt ≤ 3) : ∃ (r1 r2 : Int32) (h1 h2 : List pC), Run prog E pV1 120 mX7_lay [.ref 0, .int x1, .int x2, .int x3] h (some (.int r1), h1, 0, 0) ∧ Run prog E pV1 120 mX8_lay [.ref 110, .int x1, .int x2, .int x3] h1 (some (.int r2), h2, 0, 0) ∧ (∃ o, pobj h1 110 = some o ∧ o.1 = 8) ∧ HI HT h2 ∧ JT h2 ∧ RJ h2 := by
  obtain ⟨r, h1, h2, q1, q2, q3, p1, p2, p3, p4⟩ := pr_ok3 (E := E) (x1 := x1) (x2 := x2) (x3 := x3) cp_lay0_3s1 rfl rfl (List.cons_ne_nil _ _) (List.cons_ne_nil _ _) (fun _ h => absurd h List.not_mem_nil) hh hj hR.1 hR.2.1 ⟨a1, a2, a3, trivial⟩ (pBd.cs b90_2.1 b90_2.2 (pBd.cs (i32_b (ri h 90 3)).1 (i32_b (ri h 90 3)).2 (pBd.cs (ty_82_1 hh hR).1 (ty_82_1 hh hR).2 (pBd.cs (ty_82_2 hh hR).1 (ty_82_2 hh hR).2 pBd.nl)))) (fun e he => by cases he)
  exact ⟨r, r, h1, h2, q1, q2, q3, p1, p2, p3.1, p3.2, xj_fr hR.2.2 p4 (by decide +kernel)⟩
theorem lf_lay0_3s2 (x1 x2 x3 : Int32) (hh : HI HT h) (hj : JT h) (hR : RJ h) (a1 : 0 ≤ x1.toInt ∧ x1.toInt ≤ 0) (a2 : 2 ≤ x2.toInt ∧ x2.toInt ≤ 2) (a3 : 1 ≤ x3.toInt ∧ x3.toInt ≤ 1) (b90_2 : 3 ≤ (ri h 90 2).toInt ∧ (ri h 90 2).toInt ≤ 3) : ∃ (r1 r2 : Int32) (h1 h2 : List pC), Run prog E pV1 120 mX7_lay [.ref 0, .int x1, .int x2, .int x3] h (some (.int r1), h1, 0, 0) ∧ Run prog E pV1 120 mX8_lay [.ref 110, .int x1, .int x2, .int x3] h1 (some (.int r2), h2, 0, 0) ∧ (∃ o, pobj h1 110 = some o ∧ o.1 = 8) ∧ HI HT h2 ∧ JT h2 ∧ RJ h2 := by
  obtain ⟨r, h1, h2, q1, q2, q3, p1, p2, p3, p4⟩ := pr_ok3 (E := E) (x1 := x1) (x2 := x2) (x3 := x3) cp_lay0_3s2 rfl rfl (List.cons_ne_nil _ _) (List.cons_ne_nil _ _) (fun _ h => absurd h List.not_mem_nil) hh hj hR.1 hR.2.1 ⟨a1, a2, a3, trivial⟩ (pBd.cs b90_2.1 b90_2.2 (pBd.cs (i32_b (ri h 90 3)).1 (i32_b (ri h 90 3)).2 (pBd.cs (ty_84_1 hh hR).1 (ty_84_1 hh hR).2 (pBd.cs (ty_84_2 hh hR).1 (ty_84_2 hh hR).2 pBd.nl)))) (fun e he => by cases he)
  exact ⟨r, r, h1, h2, q1, q2, q3, p1, p2, p3.1, p3.2, xj_fr hR.2.2 p4 (by decide +kernel)⟩
theorem lf_lay0_3s3 (x1 x2 x3 : Int32) (hh : HI HT h) (hj : JT h) (hR : RJ h) (a1 : 0 ≤ x1.toInt ∧ x1.toInt ≤ 0) (a2 : 2 ≤ x2.toInt ∧ x2.toInt ≤ 2) (a3 : 2 ≤ x3.toInt ∧ x3.toInt ≤ 2) (b90_2 : 3 ≤ (ri h 90 2).toInt ∧ (ri h 90 2).toInt ≤ 3) : ∃ (r1 r2 : Int32) (h1 h2 : List pC), Run prog E pV1 120 mX7_lay [.ref 0, .int x1, .int x2, .int x3] h (some (.int r1), h1, 0, 0) ∧ Run prog E pV1 120 mX8_lay [.ref 110, .int x1, .int x2, .int x3] h1 (some (.int r2), h2, 0, 0) ∧ (∃ o, pobj h1 110 = some o ∧ o.1 = 8) ∧ HI HT h2 ∧ JT h2 ∧ RJ h2 := by
  obtain ⟨r, h1, h2, q1, q2, q3, p1, p2, p3, p4⟩ := pr_ok3 (E := E) (x1 := x1) (x2 := x2) (x3 := x3) cp_lay0_3s3 rfl rfl (List.cons_ne_nil _ _) (List.cons_ne_nil _ _) (fun _ h => absurd h List.not_mem_nil) hh hj hR.1 hR.2.1 ⟨a1, a2, a3, trivial⟩ (pBd.cs b90_2.1 b90_2.2 (pBd.cs (i32_b (ri h 90 3)).1 (i32_b (ri h 90 3)).2 (pBd.cs (ty_86_1 hh hR).1 (ty_86_1 hh hR).2 (pBd.cs (ty_86_2 hh hR).1 (ty_86_2 hh hR).2 pBd.nl)))) (fun e he => by cases he)
  exact ⟨r, r, h1, h2, q1, q2, q3, p1, p2, p3.1, p3.2, xj_fr hR.2.2 p4 (by decide +kernel)⟩
theorem lf_lay0_3s4 (x1 x2 x3 : Int32) (hh : HI HT h) (hj : JT h) (hR : RJ h) (a1 : 0 ≤ x1.toInt ∧ x1.toInt ≤ 0) (a2 : 2 ≤ x2.toInt ∧ x2.toInt ≤ 2) (a3 : 3 ≤ x3.toInt ∧ x3.toInt ≤ 3) (b90_2 : 3 ≤ (ri h 90 2).toInt ∧ (ri h 90 2).toInt ≤ 3) : ∃ (r1 r2 : Int32) (h1 h2 : List pC), Run prog E pV1 120 mX7_lay [.ref 0, .int x1, .int x2, .int x3] h (some (.int r1), h1, 0, 0) ∧ Run prog E pV1 120 mX8_lay [.ref 110, .int x1, .int x2, .int x3] h1 (some (.int r2), h2, 0, 0) ∧ (∃ o, pobj h1 110 = some o ∧ o.1 = 8) ∧ HI HT h2 ∧ JT h2 ∧ RJ h2 := by
  obtain ⟨r, h1, h2, q1, q2, q3, p1, p2, p3, p4⟩ := pr_ok3 (E := E) (x1 := x1) (x2 := x2) (x3 := x3) cp_lay0_3s4 rfl rfl (List.cons_ne_nil _ _) (List.cons_ne_nil _ _) (fun _ h => absurd h List.not_mem_nil) hh hj hR.1 hR.2.1 ⟨a1, a2, a3, trivial⟩ (pBd.cs b90_2.1 b90_2.2 (pBd.cs (i32_b (ri h 90 3)).1 (i32_b (ri h 90 3)).2 (pBd.cs (ty_88_1 hh hR).1 (ty_88_1 hh hR).2 (pBd.cs (ty_88_2 hh hR).1 (ty_88_2 hh hR).2 pBd.nl)))) (fun e he => by cases he)
  exact ⟨r, r, h1, h2, q1, q2, q3, p1, p2, p3.1, p3.2, xj_fr hR.2.2 p4 (by decide +kernel)⟩
theorem lf_lay0_3s5 (x1 x2 x3 : Int32) (hh : HI HT h) (hj : JT h) (hR : RJ h) (a1 : 0 ≤ x1.toInt ∧ x1.toInt ≤ 0) (a2 : 2 ≤ x2.toInt ∧ x2.toInt ≤ 2) (a3 : 4 ≤ x3.toInt ∧ x3.toInt ≤ 2147483647) (b90_2 : 3 ≤ (ri h 90 2).toInt ∧ (ri h 90 2).toInt ≤ 3) : ∃ (r1 r2 : Int32) (h1 h2 : List pC), Run prog E pV1 120 mX7_lay [.ref 0, .int x1, .int x2, .int x3] h (some (.int r1), h1, 0, 0) ∧ Run prog E pV1 120 mX8_lay [.ref 110, .int x1, .int x2, .int x3] h1 (some (.int r2), h2, 0, 0) ∧ (∃ o, pobj h1 110 = some o ∧ o.1 = 8) ∧ HI HT h2 ∧ JT h2 ∧ RJ h2 := by
  obtain ⟨r, h1, h2, q1, q2, q3, p1, p2, p3, p4⟩ := pr_ok3 (E := E) (x1 := x1) (x2 := x2) (x3 := x3) cp_lay0_3s5 rfl rfl (List.cons_ne_nil _ _) (List.cons_ne_nil _ _) (fun _ h => absurd h List.not_mem_nil) hh hj hR.1 hR.2.1 ⟨a1, a2, a3, trivial⟩ (pBd.cs b90_2.1 b90_2.2 (pBd.cs (i32_b (ri h 90 3)).1 (i32_b (ri h 90 3)).2 pBd.nl)) (fun e he => by cases he)
  exact ⟨r, r, h1, h2, q1, q2, q3, p1, p2, p3.1, p3.2, xj_fr hR.2.2 p4 (by decide +kernel)⟩
theorem lf_lay1_0_0 (x1 x2 x3 : Int32) (hh : HI HT h) (hj : JT h) (hR : RJ h) (a1 : 1 ≤ x1.toInt ∧ x1.toInt ≤ 1) (a2 : (-2147483648) ≤ x2.toInt ∧ x2.toInt ≤ (-1)) (b94_2 : 0 ≤ (ri h 94 2).toInt ∧ (ri h 94 2).toInt ≤ 2) : ∃ (r1 r2 : Int32) (h1 h2 : List pC), Run prog E pV1 120 mX7_lay [.ref 0, .int x1, .int x2, .int x3] h (some (.int r1), h1, 0, 0) ∧ Run prog E pV1 120 mX8_lay [.ref 110, .int x1, .int x2, .int x3] h1 (some (.int r2), h2, 0, 0) ∧ (∃ o, pobj h1 110 = some o ∧ o.1 = 8) ∧ HI HT h2 ∧ JT h2 ∧ RJ h2 := by
  obtain ⟨r, h1, h2, q1, q2, q3, p1, p2, p3, p4⟩ := pr_ok3 (E := E) (x1 := x1) (x2 := x2) (x3 := x3) cp_lay1_0_0 rfl rfl (List.cons_ne_nil _ _) (List.cons_ne_nil _ _) (fun _ h => absurd h List.not_mem_nil) hh hj hR.1 hR.2.1 ⟨a1, a2, i32_b x3, trivial⟩ (pBd.cs b94_2.1 b94_2.2 pBd.nl) (fun e he => by cases he)
  exact ⟨r, r, h1, h2, q1, q2, q3, p1, p2, p3.1, p3.2, xj_fr hR.2.2 p4 (by decide +kernel)⟩
theorem lf_lay1_0_1 (x1 x2 x3 : Int32) (hh : HI HT h) (hj : JT h) (hR : RJ h) (a1 : 1 ≤ x1.toInt ∧ x1.toInt ≤ 1) (a2 : 0 ≤ x2.toInt ∧ x2.toInt ≤ 0) (b94_2 : 0 ≤ (ri h 94 2).toInt ∧ (ri h 94 2).toInt ≤ 2) : ∃ (r1 r2 : Int32) (h1 h2 : List pC), Run prog E pV1 120 mX7_lay [.ref 0, .int x1, .int x2, .int x3] h (some (.int r1), h1, 0, 0) ∧ Run prog E pV1 120 mX8_lay [.ref 110, .int x1, .int x2, .int x3] h1 (some (.int r2), h2, 0, 0) ∧ (∃ o, pobj h1 110 = some o ∧ o.1 = 8) ∧ HI HT h2 ∧ JT h2 ∧ RJ h2 := by
  obtain ⟨r, h1, h2, q1, q2, q3, p1, p2, p3, p4⟩ := pr_ok3 (E := E) (x1 := x1) (x2 := x2) (x3 := x3) cp_lay1_0_1 rfl rfl (List.cons_ne_nil _ _) (List.cons_ne_nil _ _) (fun _ h => absurd h List.not_mem_nil) hh hj hR.1 hR.2.1 ⟨a1, a2, i32_b x3, trivial⟩ (pBd.cs b94_2.1 b94_2.2 pBd.nl) (fun e he => by cases he)
  exact ⟨r, r, h1, h2, q1, q2, q3, p1, p2, p3.1, p3.2, xj_fr hR.2.2 p4 (by decide +kernel)⟩
theorem lf_lay1_0_2 (x1 x2 x3 : Int32) (hh : HI HT h) (hj : JT h) (hR : RJ h) (a1 : 1 ≤ x1.toInt ∧ x1.toInt ≤ 1) (a2 : 1 ≤ x2.toInt ∧ x2.toInt ≤ 1) (b94_2 : 0 ≤ (ri h 94 2).toInt ∧ (ri h 94 2).toInt ≤ 2) : ∃ (r1 r2 : Int32) (h1 h2 : List pC), Run prog E pV1 120 mX7_lay [.ref 0, .int x1, .int x2, .int x3] h (some (.int r1), h1, 0, 0) ∧ Run prog E pV1 120 mX8_lay [.ref 110, .int x1, .int x2, .int x3] h1 (some (.int r2), h2, 0, 0) ∧ (∃ o, pobj h1 110 = some o ∧ o.1 = 8) ∧ HI HT h2 ∧ JT h2 ∧ RJ h2 := by
  obtain ⟨r, h1, h2, q1, q2, q3, p1, p2, p3, p4⟩ := pr_ok3 (E := E) (x1 := x1) (x2 := x2) (x3 := x3) cp_lay1_0_2 rfl rfl (List.cons_ne_nil _ _) (List.cons_ne_nil _ _) (List.forall_mem_cons.mpr ⟨kg_m_worth JT_P hands, (fun _ h => absurd h List.not_mem_nil)⟩) hh hj hR.1 hR.2.1 ⟨a1, a2, i32_b x3, trivial⟩ (pBd.cs (ty_34_5 hh hR).1 (ty_34_5 hh hR).2 (pBd.cs b94_2.1 b94_2.2 pBd.nl)) (fun e he => by cases he)
  exact ⟨r, r, h1, h2, q1, q2, q3, p1, p2, p3.1, p3.2, xj_fr hR.2.2 p4 (by decide +kernel)⟩
theorem lf_lay1_0_3 (x1 x2 x3 : Int32) (hh : HI HT h) (hj : JT h) (hR : RJ h) (a1 : 1 ≤ x1.toInt ∧ x1.toInt ≤ 1) (a2 : 3 ≤ x2.toInt ∧ x2.toInt ≤ 3) (b94_2 : 0 ≤ (ri h 94 2).toInt ∧ (ri h 94 2).toInt ≤ 2) : ∃ (r1 r2 : Int32) (h1 h2 : List pC), Run prog E pV1 120 mX7_lay [.ref 0, .int x1, .int x2, .int x3] h (some (.int r1), h1, 0, 0) ∧ Run prog E pV1 120 mX8_lay [.ref 110, .int x1, .int x2, .int x3] h1 (some (.int r2), h2, 0, 0) ∧ (∃ o, pobj h1 110 = some o ∧ o.1 = 8) ∧ HI HT h2 ∧ JT h2 ∧ RJ h2 := by
  obtain ⟨r, h1, h2, q1, q2, q3, p1, p2, p3, p4⟩ := pr_ok3 (E := E) (x1 := x1) (x2 := x2) (x3 := x3) cp_lay1_0_3 rfl rfl (List.cons_ne_nil _ _) (List.cons_ne_nil _ _) (fun _ h => absurd h List.not_mem_nil) hh hj hR.1 hR.2.1 ⟨a1, a2, i32_b x3, trivial⟩ (pBd.cs b94_2.1 b94_2.2 pBd.nl) (fun e he => by cases he)
  exact ⟨r, r, h1, h2, q1, q2, q3, p1, p2, p3.1, p3.2, xj_fr hR.2.2 p4 (by decide +kernel)⟩
theorem lf_lay1_0_4 (x1 x2 x3 : Int32) (hh : HI HT h) (hj : JT h) (hR : RJ h) (a1 : 1 ≤ x1.toInt ∧ x1.toInt ≤ 1) (a2 : 4 ≤ x2.toInt ∧ x2.toInt ≤ 2147483647) (b94_2 : 0 ≤ (ri h 94 2).toInt ∧ (ri h 94 2).toInt ≤ 2) : ∃ (r1 r2 : Int32) (h1 h2 : List pC), Run prog E pV1 120 mX7_lay [.ref 0, .int x1, .int x2, .int x3] h (some (.int r1), h1, 0, 0) ∧ Run prog E pV1 120 mX8_lay [.ref 110, .int x1, .int x2, .int x3] h1 (some (.int r2), h2, 0, 0) ∧ (∃ o, pobj h1 110 = some o ∧ o.1 = 8) ∧ HI HT h2 ∧ JT h2 ∧ RJ h2 := by
  obtain ⟨r, h1, h2, q1, q2, q3, p1, p2, p3, p4⟩ := pr_ok3 (E := E) (x1 := x1) (x2 := x2) (x3 := x3) cp_lay1_0_4 rfl rfl (List.cons_ne_nil _ _) (List.cons_ne_nil _ _) (fun _ h => absurd h List.not_mem_nil) hh hj hR.1 hR.2.1 ⟨a1, a2, i32_b x3, trivial⟩ (pBd.cs b94_2.1 b94_2.2 pBd.nl) (fun e he => by cases he)
  exact ⟨r, r, h1, h2, q1, q2, q3, p1, p2, p3.1, p3.2, xj_fr hR.2.2 p4 (by decide +kernel)⟩
theorem lf_lay1_0s0 (x1 x2 x3 : Int32) (hh : HI HT h) (hj : JT h) (hR : RJ h) (a1 : 1 ≤ x1.toInt ∧ x1.toInt ≤ 1) (a2 : 2 ≤ x2.toInt ∧ x2.toInt ≤ 2) (a3 : (-2147483648) ≤ x3.toInt ∧ x3.toInt ≤ (-1)) (b94_2 : 0 ≤ (ri h 94 2).toInt ∧ (ri h 94 2).toInt ≤ 2) : ∃ (r1 r2 : Int32) (h1 h2 : List pC), Run prog E pV1 120 mX7_lay [.ref 0, .int x1, .int x2, .int x3] h (some (.int r1), h1, 0, 0) ∧ Run prog E pV1 120 mX8_lay [.ref 110, .int x1, .int x2, .int x3] h1 (some (.int r2), h2, 0, 0) ∧ (∃ o, pobj h1 110 = some o ∧ o.1 = 8) ∧ HI HT h2 ∧ JT h2 ∧ RJ h2 := by
  obtain ⟨r, h1, h2, q1, q2, q3, p1, p2, p3, p4⟩ := pr_ok3 (E := E) (x1 := x1) (x2 := x2) (x3 := x3) cp_lay1_0s0 rfl rfl (List.cons_ne_nil _ _) (List.cons_ne_nil _ _) (fun _ h => absurd h List.not_mem_nil) hh hj hR.1 hR.2.1 ⟨a1, a2, a3, trivial⟩ (pBd.cs b94_2.1 b94_2.2 pBd.nl) (fun e he => by cases he)
  exact ⟨r, r, h1, h2, q1, q2, q3, p1, p2, p3.1, p3.2, xj_fr hR.2.2 p4 (by decide +kernel)⟩
theorem lf_lay1_0s1 (x1 x2 x3 : Int32) (hh : HI HT h) (hj : JT h) (hR : RJ h) (a1 : 1 ≤ x1.toInt ∧ x1.toInt ≤ 1) (a2 : 2 ≤ x2.toInt ∧ x2.toInt ≤ 2) (a3 : 0 ≤ x3.toInt ∧ x3.toInt ≤ 0) (b94_2 : 0 ≤ (ri h 94 2).toInt ∧ (ri h 94 2).toInt ≤ 2) : ∃ (r1 r2 : Int32) (h1 h2 : List pC), Run prog E pV1 120 mX7_lay [.ref 0, .int x1, .int x2, .int x3] h (some (.int r1), h1, 0, 0) ∧ Run prog E pV1 120 mX8_lay [.ref 110, .int x1, .int x2, .int x3] h1 (some (.int r2), h2, 0, 0) ∧ (∃ o, pobj h1 110 = some o ∧ o.1 = 8) ∧ HI HT h2 ∧ JT h2 ∧ RJ h2 := by
  obtain ⟨r, h1, h2, q1, q2, q3, p1, p2, p3, p4⟩ := pr_ok3 (E := E) (x1 := x1) (x2 := x2) (x3 := x3) cp_lay1_0s1 rfl rfl (List.cons_ne_nil _ _) (List.cons_ne_nil _ _) (fun _ h => absurd h List.not_mem_nil) hh hj hR.1 hR.2.1 ⟨a1, a2, a3, trivial⟩ (pBd.cs b94_2.1 b94_2.2 (pBd.cs (ty_82_1 hh hR).1 (ty_82_1 hh hR).2 (pBd.cs (ty_82_2 hh hR).1 (ty_82_2 hh hR).2 pBd.nl))) (fun e he => by cases he)
  exact ⟨r, r, h1, h2, q1, q2, q3, p1, p2, p3.1, p3.2, xj_fr hR.2.2 p4 (by decide +kernel)⟩
theorem lf_lay1_0s2 (x1 x2 x3 : Int32) (hh : HI HT h) (hj : JT h) (hR : RJ h) (a1 : 1 ≤ x1.toInt ∧ x1.toInt ≤ 1) (a2 : 2 ≤ x2.toInt ∧ x2.toInt ≤ 2) (a3 : 1 ≤ x3.toInt ∧ x3.toInt ≤ 1) (b94_2 : 0 ≤ (ri h 94 2).toInt ∧ (ri h 94 2).toInt ≤ 2) : ∃ (r1 r2 : Int32) (h1 h2 : List pC), Run prog E pV1 120 mX7_lay [.ref 0, .int x1, .int x2, .int x3] h (some (.int r1), h1, 0, 0) ∧ Run prog E pV1 120 mX8_lay [.ref 110, .int x1, .int x2, .int x3] h1 (some (.int r2), h2, 0, 0) ∧ (∃ o, pobj h1 110 = some o ∧ o.1 = 8) ∧ HI HT h2 ∧ JT h2 ∧ RJ h2 := by
  obtain ⟨r, h1, h2, q1, q2, q3, p1, p2, p3, p4⟩ := pr_ok3 (E := E) (x1 := x1) (x2 := x2) (x3 := x3) cp_lay1_0s2 rfl rfl (List.cons_ne_nil _ _) (List.cons_ne_nil _ _) (fun _ h => absurd h List.not_mem_nil) hh hj hR.1 hR.2.1 ⟨a1, a2, a3, trivial⟩ (pBd.cs b94_2.1 b94_2.2 (pBd.cs (ty_84_1 hh hR).1 (ty_84_1 hh hR).2 (pBd.cs (ty_84_2 hh hR).1 (ty_84_2 hh hR).2 pBd.nl))) (fun e he => by cases he)
  exact ⟨r, r, h1, h2, q1, q2, q3, p1, p2, p3.1, p3.2, xj_fr hR.2.2 p4 (by decide +kernel)⟩
theorem lf_lay1_0s3 (x1 x2 x3 : Int32) (hh : HI HT h) (hj : JT h) (hR : RJ h) (a1 : 1 ≤ x1.toInt ∧ x1.toInt ≤ 1) (a2 : 2 ≤ x2.toInt ∧ x2.toInt ≤ 2) (a3 : 2 ≤ x3.toInt ∧ x3.toInt ≤ 2) (b94_2 : 0 ≤ (ri h 94 2).toInt ∧ (ri h 94 2).toInt ≤ 2) : ∃ (r1 r2 : Int32) (h1 h2 : List pC), Run prog E pV1 120 mX7_lay [.ref 0, .int x1, .int x2, .int x3] h (some (.int r1), h1, 0, 0) ∧ Run prog E pV1 120 mX8_lay [.ref 110, .int x1, .int x2, .int x3] h1 (some (.int r2), h2, 0, 0) ∧ (∃ o, pobj h1 110 = some o ∧ o.1 = 8) ∧ HI HT h2 ∧ JT h2 ∧ RJ h2 := by
  obtain ⟨r, h1, h2, q1, q2, q3, p1, p2, p3, p4⟩ := pr_ok3 (E := E) (x1 := x1) (x2 := x2) (x3 := x3) cp_lay1_0s3 rfl rfl (List.cons_ne_nil _ _) (List.cons_ne_nil _ _) (fun _ h => absurd h List.not_mem_nil) hh hj hR.1 hR.2.1 ⟨a1, a2, a3, trivial⟩ (pBd.cs b94_2.1 b94_2.2 (pBd.cs (ty_86_1 hh hR).1 (ty_86_1 hh hR).2 (pBd.cs (ty_86_2 hh hR).1 (ty_86_2 hh hR).2 pBd.nl))) (fun e he => by cases he)
  exact ⟨r, r, h1, h2, q1, q2, q3, p1, p2, p3.1, p3.2, xj_fr hR.2.2 p4 (by decide +kernel)⟩
theorem lf_lay1_0s4 (x1 x2 x3 : Int32) (hh : HI HT h) (hj : JT h) (hR : RJ h) (a1 : 1 ≤ x1.toInt ∧ x1.toInt ≤ 1) (a2 : 2 ≤ x2.toInt ∧ x2.toInt ≤ 2) (a3 : 3 ≤ x3.toInt ∧ x3.toInt ≤ 3) (b94_2 : 0 ≤ (ri h 94 2).toInt ∧ (ri h 94 2).toInt ≤ 2) : ∃ (r1 r2 : Int32) (h1 h2 : List pC), Run prog E pV1 120 mX7_lay [.ref 0, .int x1, .int x2, .int x3] h (some (.int r1), h1, 0, 0) ∧ Run prog E pV1 120 mX8_lay [.ref 110, .int x1, .int x2, .int x3] h1 (some (.int r2), h2, 0, 0) ∧ (∃ o, pobj h1 110 = some o ∧ o.1 = 8) ∧ HI HT h2 ∧ JT h2 ∧ RJ h2 := by
  obtain ⟨r, h1, h2, q1, q2, q3, p1, p2, p3, p4⟩ := pr_ok3 (E := E) (x1 := x1) (x2 := x2) (x3 := x3) cp_lay1_0s4 rfl rfl (List.cons_ne_nil _ _) (List.cons_ne_nil _ _) (fun _ h => absurd h List.not_mem_nil) hh hj hR.1 hR.2.1 ⟨a1, a2, a3, trivial⟩ (pBd.cs b94_2.1 b94_2.2 (pBd.cs (ty_88_1 hh hR).1 (ty_88_1 hh hR).2 (pBd.cs (ty_88_2 hh hR).1 (ty_88_2 hh hR).2 pBd.nl))) (fun e he => by cases he)
  exact ⟨r, r, h1, h2, q1, q2, q3, p1, p2, p3.1, p3.2, xj_fr hR.2.2 p4 (by decide +kernel)⟩
theorem lf_lay1_0s5 (x1 x2 x3 : Int32) (hh : HI HT h) (hj : JT h) (hR : RJ h) (a1 : 1 ≤ x1.toInt ∧ x1.toInt ≤ 1) (a2 : 2 ≤ x2.toInt ∧ x2.toInt ≤ 2) (a3 : 4 ≤ x3.toInt ∧ x3.toInt ≤ 2147483647) (b94_2 : 0 ≤ (ri h 94 2).toInt ∧ (ri h 94 2).toInt ≤ 2) : ∃ (r1 r2 : Int32) (h1 h2 : List pC), Run prog E pV1 120 mX7_lay [.ref 0, .int x1, .int x2, .int x3] h (some (.int r1), h1, 0, 0) ∧ Run prog E pV1 120 mX8_lay [.ref 110, .int x1, .int x2, .int x3] h1 (some (.int r2), h2, 0, 0) ∧ (∃ o, pobj h1 110 = some o ∧ o.1 = 8) ∧ HI HT h2 ∧ JT h2 ∧ RJ h2 := by
  obtain ⟨r, h1, h2, q1, q2, q3, p1, p2, p3, p4⟩ := pr_ok3 (E := E) (x1 := x1) (x2 := x2) (x3 := x3) cp_lay1_0s5 rfl rfl (List.cons_ne_nil _ _) (List.cons_ne_nil _ _) (fun _ h => absurd h List.not_mem_nil) hh hj hR.1 hR.2.1 ⟨a1, a2, a3, trivial⟩ (pBd.cs b94_2.1 b94_2.2 pBd.nl) (fun e he => by cases he)
  exact ⟨r, r, h1, h2, q1, q2, q3, p1, p2, p3.1, p3.2, xj_fr hR.2.2 p4 (by decide +kernel)⟩
theorem lf_lay1_3_0 (x1 x2 x3 : Int32) (hh : HI HT h) (hj : JT h) (hR : RJ h) (a1 : 1 ≤ x1.toInt ∧ x1.toInt ≤ 1) (a2 : (-2147483648) ≤ x2.toInt ∧ x2.toInt ≤ (-1)) (b94_2 : 3 ≤ (ri h 94 2).toInt ∧ (ri h 94 2).toInt ≤ 3) : ∃ (r1 r2 : Int32) (h1 h2 : List pC), Run prog E pV1 120 mX7_lay [.ref 0, .int x1, .int x2, .int x3] h (some (.int r1), h1, 0, 0) ∧ Run prog E pV1 120 mX8_lay [.ref 110, .int x1, .int x2, .int x3] h1 (some (.int r2), h2, 0, 0) ∧ (∃ o, pobj h1 110 = some o ∧ o.1 = 8) ∧ HI HT h2 ∧ JT h2 ∧ RJ h2 := by
  obtain ⟨r, h1, h2, q1, q2, q3, p1, p2, p3, p4⟩ := pr_ok3 (E := E) (x1 := x1) (x2 := x2) (x3 := x3) cp_lay1_3_0 rfl rfl (List.cons_ne_nil _ _) (List.cons_ne_nil _ _) (fun _ h => absurd h List.not_mem_nil) hh hj hR.1 hR.2.1 ⟨a1, a2, i32_b x3, trivial⟩ (pBd.cs b94_2.1 b94_2.2 (pBd.cs (i32_b (ri h 94 3)).1 (i32_b (ri h 94 3)).2 pBd.nl)) (fun e he => by cases he)
  exact ⟨r, r, h1, h2, q1, q2, q3, p1, p2, p3.1, p3.2, xj_fr hR.2.2 p4 (by decide +kernel)⟩
theorem lf_lay1_3_1 (x1 x2 x3 : Int32) (hh : HI HT h) (hj : JT h) (hR : RJ h) (a1 : 1 ≤ x1.toInt ∧ x1.toInt ≤ 1) (a2 : 0 ≤ x2.toInt ∧ x2.toInt ≤ 0) (b94_2 : 3 ≤ (ri h 94 2).toInt ∧ (ri h 94 2).toInt ≤ 3) : ∃ (r1 r2 : Int32) (h1 h2 : List pC), Run prog E pV1 120 mX7_lay [.ref 0, .int x1, .int x2, .int x3] h (some (.int r1), h1, 0, 0) ∧ Run prog E pV1 120 mX8_lay [.ref 110, .int x1, .int x2, .int x3] h1 (some (.int r2), h2, 0, 0) ∧ (∃ o, pobj h1 110 = some o ∧ o.1 = 8) ∧ HI HT h2 ∧ JT h2 ∧ RJ h2 := by
  obtain ⟨r, h1, h2, q1, q2, q3, p1, p2, p3, p4⟩ := pr_ok3 (E := E) (x1 := x1) (x2 := x2) (x3 := x3) cp_lay1_3_1 rfl rfl (List.cons_ne_nil _ _) (List.cons_ne_nil _ _) (fun _ h => absurd h List.not_mem_nil) hh hj hR.1 hR.2.1 ⟨a1, a2, i32_b x3, trivial⟩ (pBd.cs b94_2.1 b94_2.2 (pBd.cs (i32_b (ri h 94 3)).1 (i32_b (ri h 94 3)).2 pBd.nl)) (fun e he => by cases he)
  exact ⟨r, r, h1, h2, q1, q2, q3, p1, p2, p3.1, p3.2, xj_fr hR.2.2 p4 (by decide +kernel)⟩
theorem lf_lay1_3_2 (x1 x2 x3 : Int32) (hh : HI HT h) (hj : JT h) (hR : RJ h) (a1 : 1 ≤ x1.toInt ∧ x1.toInt ≤ 1) (a2 : 1 ≤ x2.toInt ∧ x2.toInt ≤ 1) (b94_2 : 3 ≤ (ri h 94 2).toInt ∧ (ri h 94 2).toInt ≤ 3) : ∃ (r1 r2 : Int32) (h1 h2 : List pC), Run prog E pV1 120 mX7_lay [.ref 0, .int x1, .int x2, .int x3] h (some (.int r1), h1, 0, 0) ∧ Run prog E pV1 120 mX8_lay [.ref 110, .int x1, .int x2, .int x3] h1 (some (.int r2), h2, 0, 0) ∧ (∃ o, pobj h1 110 = some o ∧ o.1 = 8) ∧ HI HT h2 ∧ JT h2 ∧ RJ h2 := by
  obtain ⟨r, h1, h2, q1, q2, q3, p1, p2, p3, p4⟩ := pr_ok3 (E := E) (x1 := x1) (x2 := x2) (x3 := x3) cp_lay1_3_2 rfl rfl (List.cons_ne_nil _ _) (List.cons_ne_nil _ _) (List.forall_mem_cons.mpr ⟨kg_m_worth JT_P hands, (fun _ h => absurd h List.not_mem_nil)⟩) hh hj hR.1 hR.2.1 ⟨a1, a2, i32_b x3, trivial⟩ (pBd.cs (ty_34_5 hh hR).1 (ty_34_5 hh hR).2 (pBd.cs b94_2.1 b94_2.2 (pBd.cs (i32_b (ri h 94 3)).1 (i32_b (ri h 94 3)).2 pBd.nl))) (fun e he => by cases he)
  exact ⟨r, r, h1, h2, q1, q2, q3, p1, p2, p3.1, p3.2, xj_fr hR.2.2 p4 (by decide +kernel)⟩
theorem lf_lay1_3_3 (x1 x2 x3 : Int32) (hh : HI HT h) (hj : JT h) (hR : RJ h) (a1 : 1 ≤ x1.toInt ∧ x1.toInt ≤ 1) (a2 : 3 ≤ x2.toInt ∧ x2.toInt ≤ 3) (b94_2 : 3 ≤ (ri h 94 2).toInt ∧ (ri h 94 2).toInt ≤ 3) : ∃ (r1 r2 : Int32) (h1 h2 : List pC), Run prog E pV1 120 mX7_lay [.ref 0, .int x1, .int x2, .int x3] h (some (.int r1), h1, 0, 0) ∧ Run prog E pV1 120 mX8_lay [.ref 110, .int x1, .int x2, .int x3] h1 (some (.int r2), h2, 0, 0) ∧ (∃ o, pobj h1 110 = some o ∧ o.1 = 8) ∧ HI HT h2 ∧ JT h2 ∧ RJ h2 := by
  obtain ⟨r, h1, h2, q1, q2, q3, p1, p2, p3, p4⟩ := pr_ok3 (E := E) (x1 := x1) (x2 := x2) (x3 := x3) cp_lay1_3_3 rfl rfl (List.cons_ne_nil _ _) (List.cons_ne_nil _ _) (fun _ h => absurd h List.not_mem_nil) hh hj hR.1 hR.2.1 ⟨a1, a2, i32_b x3, trivial⟩ (pBd.cs b94_2.1 b94_2.2 (pBd.cs (i32_b (ri h 94 3)).1 (i32_b (ri h 94 3)).2 pBd.nl)) (fun e he => by cases he)
  exact ⟨r, r, h1, h2, q1, q2, q3, p1, p2, p3.1, p3.2, xj_fr hR.2.2 p4 (by decide +kernel)⟩
theorem lf_lay1_3_4 (x1 x2 x3 : Int32) (hh : HI HT h) (hj : JT h) (hR : RJ h) (a1 : 1 ≤ x1.toInt ∧ x1.toInt ≤ 1) (a2 : 4 ≤ x2.toInt ∧ x2.toInt ≤ 2147483647) (b94_2 : 3 ≤ (ri h 94 2).toInt ∧ (ri h 94 2).toInt ≤ 3) : ∃ (r1 r2 : Int32) (h1 h2 : List pC), Run prog E pV1 120 mX7_lay [.ref 0, .int x1, .int x2, .int x3] h (some (.int r1), h1, 0, 0) ∧ Run prog E pV1 120 mX8_lay [.ref 110, .int x1, .int x2, .int x3] h1 (some (.int r2), h2, 0, 0) ∧ (∃ o, pobj h1 110 = some o ∧ o.1 = 8) ∧ HI HT h2 ∧ JT h2 ∧ RJ h2 := by
  obtain ⟨r, h1, h2, q1, q2, q3, p1, p2, p3, p4⟩ := pr_ok3 (E := E) (x1 := x1) (x2 := x2) (x3 := x3) cp_lay1_3_4 rfl rfl (List.cons_ne_nil _ _) (List.cons_ne_nil _ _) (fun _ h => absurd h List.not_mem_nil) hh hj hR.1 hR.2.1 ⟨a1, a2, i32_b x3, trivial⟩ (pBd.cs b94_2.1 b94_2.2 (pBd.cs (i32_b (ri h 94 3)).1 (i32_b (ri h 94 3)).2 pBd.nl)) (fun e he => by cases he)
  exact ⟨r, r, h1, h2, q1, q2, q3, p1, p2, p3.1, p3.2, xj_fr hR.2.2 p4 (by decide +kernel)⟩
theorem lf_lay1_3s0 (x1 x2 x3 : Int32) (hh : HI HT h) (hj : JT h) (hR : RJ h) (a1 : 1 ≤ x1.toInt ∧ x1.toInt ≤ 1) (a2 : 2 ≤ x2.toInt ∧ x2.toInt ≤ 2) (a3 : (-2147483648) ≤ x3.toInt ∧ x3.toInt ≤ (-1)) (b94_2 : 3 ≤ (ri h 94 2).toInt ∧ (ri h 94 2).toInt ≤ 3) : ∃ (r1 r2 : Int32) (h1 h2 : List pC), Run prog E pV1 120 mX7_lay [.ref 0, .int x1, .int x2, .int x3] h (some (.int r1), h1, 0, 0) ∧ Run prog E pV1 120 mX8_lay [.ref 110, .int x1, .int x2, .int x3] h1 (some (.int r2), h2, 0, 0) ∧ (∃ o, pobj h1 110 = some o ∧ o.1 = 8) ∧ HI HT h2 ∧ JT h2 ∧ RJ h2 := by
  obtain ⟨r, h1, h2, q1, q2, q3, p1, p2, p3, p4⟩ := pr_ok3 (E := E) (x1 := x1) (x2 := x2) (x3 := x3) cp_lay1_3s0 rfl rfl (List.cons_ne_nil _ _) (List.cons_ne_nil _ _) (fun _ h => absurd h List.not_mem_nil) hh hj hR.1 hR.2.1 ⟨a1, a2, a3, trivial⟩ (pBd.cs b94_2.1 b94_2.2 (pBd.cs (i32_b (ri h 94 3)).1 (i32_b (ri h 94 3)).2 pBd.nl)) (fun e he => by cases he)
  exact ⟨r, r, h1, h2, q1, q2, q3, p1, p2, p3.1, p3.2, xj_fr hR.2.2 p4 (by decide +kernel)⟩
theorem lf_lay1_3s1 (x1 x2 x3 : Int32) (hh : HI HT h) (hj : JT h) (hR : RJ h) (a1 : 1 ≤ x1.toInt ∧ x1.toInt ≤ 1) (a2 : 2 ≤ x2.toInt ∧ x2.toInt ≤ 2) (a3 : 0 ≤ x3.toInt ∧ x3.toInt ≤ 0) (b94_2 : 3 ≤ (ri h 94 2).toInt ∧ (ri h 94 2).toInt ≤ 3) : ∃ (r1 r2 : Int32) (h1 h2 : List pC), Run prog E pV1 120 mX7_lay [.ref 0, .int x1, .int x2, .int x3] h (some (.int r1), h1, 0, 0) ∧ Run prog E pV1 120 mX8_lay [.ref 110, .int x1, .int x2, .int x3] h1 (some (.int r2), h2, 0, 0) ∧ (∃ o, pobj h1 110 = some o ∧ o.1 = 8) ∧ HI HT h2 ∧ JT h2 ∧ RJ h2 := by
  obtain ⟨r, h1, h2, q1, q2, q3, p1, p2, p3, p4⟩ := pr_ok3 (E := E) (x1 := x1) (x2 := x2) (x3 := x3) cp_lay1_3s1 rfl rfl (List.cons_ne_nil _ _) (List.cons_ne_nil _ _) (fun _ h => absurd h List.not_mem_nil) hh hj hR.1 hR.2.1 ⟨a1, a2, a3, trivial⟩ (pBd.cs b94_2.1 b94_2.2 (pBd.cs (i32_b (ri h 94 3)).1 (i32_b (ri h 94 3)).2 (pBd.cs (ty_82_1 hh hR).1 (ty_82_1 hh hR).2 (pBd.cs (ty_82_2 hh hR).1 (ty_82_2 hh hR).2 pBd.nl)))) (fun e he => by cases he)
  exact ⟨r, r, h1, h2, q1, q2, q3, p1, p2, p3.1, p3.2, xj_fr hR.2.2 p4 (by decide +kernel)⟩
theorem lf_lay1_3s2 (x1 x2 x3 : Int32) (hh : HI HT h) (hj : JT h) (hR : RJ h) (a1 : 1 ≤ x1.toInt ∧ x1.toInt ≤ 1) (a2 : 2 ≤ x2.toInt ∧ x2.toInt ≤ 2) (a3 : 1 ≤ x3.toInt ∧ x3.toInt ≤ 1) (b94_2 : 3 ≤ (ri h 94 2).toInt ∧ (ri h 94 2).toInt ≤ 3) : ∃ (r1 r2 : Int32) (h1 h2 : List pC), Run prog E pV1 120 mX7_lay [.ref 0, .int x1, .int x2, .int x3] h (some (.int r1), h1, 0, 0) ∧ Run prog E pV1 120 mX8_lay [.ref 110, .int x1, .int x2, .int x3] h1 (some (.int r2), h2, 0, 0) ∧ (∃ o, pobj h1 110 = some o ∧ o.1 = 8) ∧ HI HT h2 ∧ JT h2 ∧ RJ h2 := by
  obtain ⟨r, h1, h2, q1, q2, q3, p1, p2, p3, p4⟩ := pr_ok3 (E := E) (x1 := x1) (x2 := x2) (x3 := x3) cp_lay1_3s2 rfl rfl (List.cons_ne_nil _ _) (List.cons_ne_nil _ _) (fun _ h => absurd h List.not_mem_nil) hh hj hR.1 hR.2.1 ⟨a1, a2, a3, trivial⟩ (pBd.cs b94_2.1 b94_2.2 (pBd.cs (i32_b (ri h 94 3)).1 (i32_b (ri h 94 3)).2 (pBd.cs (ty_84_1 hh hR).1 (ty_84_1 hh hR).2 (pBd.cs (ty_84_2 hh hR).1 (ty_84_2 hh hR).2 pBd.nl)))) (fun e he => by cases he)
  exact ⟨r, r, h1, h2, q1, q2, q3, p1, p2, p3.1, p3.2, xj_fr hR.2.2 p4 (by decide +kernel)⟩
theorem lf_lay1_3s3 (x1 x2 x3 : Int32) (hh : HI HT h) (hj : JT h) (hR : RJ h) (a1 : 1 ≤ x1.toInt ∧ x1.toInt ≤ 1) (a2 : 2 ≤ x2.toInt ∧ x2.toInt ≤ 2) (a3 : 2 ≤ x3.toInt ∧ x3.toInt ≤ 2) (b94_2 : 3 ≤ (ri h 94 2).toInt ∧ (ri h 94 2).toInt ≤ 3) : ∃ (r1 r2 : Int32) (h1 h2 : List pC), Run prog E pV1 120 mX7_lay [.ref 0, .int x1, .int x2, .int x3] h (some (.int r1), h1, 0, 0) ∧ Run prog E pV1 120 mX8_lay [.ref 110, .int x1, .int x2, .int x3] h1 (some (.int r2), h2, 0, 0) ∧ (∃ o, pobj h1 110 = some o ∧ o.1 = 8) ∧ HI HT h2 ∧ JT h2 ∧ RJ h2 := by
  obtain ⟨r, h1, h2, q1, q2, q3, p1, p2, p3, p4⟩ := pr_ok3 (E := E) (x1 := x1) (x2 := x2) (x3 := x3) cp_lay1_3s3 rfl rfl (List.cons_ne_nil _ _) (List.cons_ne_nil _ _) (fun _ h => absurd h List.not_mem_nil) hh hj hR.1 hR.2.1 ⟨a1, a2, a3, trivial⟩ (pBd.cs b94_2.1 b94_2.2 (pBd.cs (i32_b (ri h 94 3)).1 (i32_b (ri h 94 3)).2 (pBd.cs (ty_86_1 hh hR).1 (ty_86_1 hh hR).2 (pBd.cs (ty_86_2 hh hR).1 (ty_86_2 hh hR).2 pBd.nl)))) (fun e he => by cases he)
  exact ⟨r, r, h1, h2, q1, q2, q3, p1, p2, p3.1, p3.2, xj_fr hR.2.2 p4 (by decide +kernel)⟩
theorem lf_lay1_3s4 (x1 x2 x3 : Int32) (hh : HI HT h) (hj : JT h) (hR : RJ h) (a1 : 1 ≤ x1.toInt ∧ x1.toInt ≤ 1) (a2 : 2 ≤ x2.toInt ∧ x2.toInt ≤ 2) (a3 : 3 ≤ x3.toInt ∧ x3.toInt ≤ 3) (b94_2 : 3 ≤ (ri h 94 2).toInt ∧ (ri h 94 2).toInt ≤ 3) : ∃ (r1 r2 : Int32) (h1 h2 : List pC), Run prog E pV1 120 mX7_lay [.ref 0, .int x1, .int x2, .int x3] h (some (.int r1), h1, 0, 0) ∧ Run prog E pV1 120 mX8_lay [.ref 110, .int x1, .int x2, .int x3] h1 (some (.int r2), h2, 0, 0) ∧ (∃ o, pobj h1 110 = some o ∧ o.1 = 8) ∧ HI HT h2 ∧ JT h2 ∧ RJ h2 := by
  obtain ⟨r, h1, h2, q1, q2, q3, p1, p2, p3, p4⟩ := pr_ok3 (E := E) (x1 := x1) (x2 := x2) (x3 := x3) cp_lay1_3s4 rfl rfl (List.cons_ne_nil _ _) (List.cons_ne_nil _ _) (fun _ h => absurd h List.not_mem_nil) hh hj hR.1 hR.2.1 ⟨a1, a2, a3, trivial⟩ (pBd.cs b94_2.1 b94_2.2 (pBd.cs (i32_b (ri h 94 3)).1 (i32_b (ri h 94 3)).2 (pBd.cs (ty_88_1 hh hR).1 (ty_88_1 hh hR).2 (pBd.cs (ty_88_2 hh hR).1 (ty_88_2 hh hR).2 pBd.nl)))) (fun e he => by cases he)
  exact ⟨r, r, h1, h2, q1, q2, q3, p1, p2, p3.1, p3.2, xj_fr hR.2.2 p4 (by decide +kernel)⟩
theorem lf_lay1_3s5 (x1 x2 x3 : Int32) (hh : HI HT h) (hj : JT h) (hR : RJ h) (a1 : 1 ≤ x1.toInt ∧ x1.toInt ≤ 1) (a2 : 2 ≤ x2.toInt ∧ x2.toInt ≤ 2) (a3 : 4 ≤ x3.toInt ∧ x3.toInt ≤ 2147483647) (b94_2 : 3 ≤ (ri h 94 2).toInt ∧ (ri h 94 2).toInt ≤ 3) : ∃ (r1 r2 : Int32) (h1 h2 : List pC), Run prog E pV1 120 mX7_lay [.ref 0, .int x1, .int x2, .int x3] h (some (.int r1), h1, 0, 0) ∧ Run prog E pV1 120 mX8_lay [.ref 110, .int x1, .int x2, .int x3] h1 (some (.int r2), h2, 0, 0) ∧ (∃ o, pobj h1 110 = some o ∧ o.1 = 8) ∧ HI HT h2 ∧ JT h2 ∧ RJ h2 := by
  obtain ⟨r, h1, h2, q1, q2, q3, p1, p2, p3, p4⟩ := pr_ok3 (E := E) (x1 := x1) (x2 := x2) (x3 := x3) cp_lay1_3s5 rfl rfl (List.cons_ne_nil _ _) (List.cons_ne_nil _ _) (fun _ h => absurd h List.not_mem_nil) hh hj hR.1 hR.2.1 ⟨a1, a2, a3, trivial⟩ (pBd.cs b94_2.1 b94_2.2 (pBd.cs (i32_b (ri h 94 3)).1 (i32_b (ri h 94 3)).2 pBd.nl)) (fun e he => by cases he)
  exact ⟨r, r, h1, h2, q1, q2, q3, p1, p2, p3.1, p3.2, xj_fr hR.2.2 p4 (by decide +kernel)⟩
theorem lf_lay2_0_0 (x1 x2 x3 : Int32) (hh : HI HT h) (hj : JT h) (hR : RJ h) (a1 : 2 ≤ x1.toInt ∧ x1.toInt ≤ 2) (a2 : (-2147483648) ≤ x2.toInt ∧ x2.toInt ≤ (-1)) (b98_2 : 0 ≤ (ri h 98 2).toInt ∧ (ri h 98 2).toInt ≤ 2) : ∃ (r1 r2 : Int32) (h1 h2 : List pC), Run prog E pV1 120 mX7_lay [.ref 0, .int x1, .int x2, .int x3] h (some (.int r1), h1, 0, 0) ∧ Run prog E pV1 120 mX8_lay [.ref 110, .int x1, .int x2, .int x3] h1 (some (.int r2), h2, 0, 0) ∧ (∃ o, pobj h1 110 = some o ∧ o.1 = 8) ∧ HI HT h2 ∧ JT h2 ∧ RJ h2 := by
  obtain ⟨r, h1, h2, q1, q2, q3, p1, p2, p3, p4⟩ := pr_ok3 (E := E) (x1 := x1) (x2 := x2) (x3 := x3) cp_lay2_0_0 rfl rfl (List.cons_ne_nil _ _) (List.cons_ne_nil _ _) (fun _ h => absurd h List.not_mem_nil) hh hj hR.1 hR.2.1 ⟨a1, a2, i32_b x3, trivial⟩ (pBd.cs b98_2.1 b98_2.2 pBd.nl) (fun e he => by cases he)
  exact ⟨r, r, h1, h2, q1, q2, q3, p1, p2, p3.1, p3.2, xj_fr hR.2.2 p4 (by decide +kernel)⟩
theorem lf_lay2_0_1 (x1 x2 x3 : Int32) (hh : HI HT h) (hj : JT h) (hR : RJ h) (a1 : 2 ≤ x1.toInt ∧ x1.toInt ≤ 2) (a2 : 0 ≤ x2.toInt ∧ x2.toInt ≤ 0) (b98_2 : 0 ≤ (ri h 98 2).toInt ∧ (ri h 98 2).toInt ≤ 2) : ∃ (r1 r2 : Int32) (h1 h2 : List pC), Run prog E pV1 120 mX7_lay [.ref 0, .int x1, .int x2, .int x3] h (some (.int r1), h1, 0, 0) ∧ Run prog E pV1 120 mX8_lay [.ref 110, .int x1, .int x2, .int x3] h1 (some (.int r2), h2, 0, 0) ∧ (∃ o, pobj h1 110 = some o ∧ o.1 = 8) ∧ HI HT h2 ∧ JT h2 ∧ RJ h2 := by
  obtain ⟨r, h1, h2, q1, q2, q3, p1, p2, p3, p4⟩ := pr_ok3 (E := E) (x1 := x1) (x2 := x2) (x3 := x3) cp_lay2_0_1 rfl rfl (List.cons_ne_nil _ _) (List.cons_ne_nil _ _) (fun _ h => absurd h List.not_mem_nil) hh hj hR.1 hR.2.1 ⟨a1, a2, i32_b x3, trivial⟩ (pBd.cs b98_2.1 b98_2.2 pBd.nl) (fun e he => by cases he)
  exact ⟨r, r, h1, h2, q1, q2, q3, p1, p2, p3.1, p3.2, xj_fr hR.2.2 p4 (by decide +kernel)⟩
theorem lf_lay2_0_2 (x1 x2 x3 : Int32) (hh : HI HT h) (hj : JT h) (hR : RJ h) (a1 : 2 ≤ x1.toInt ∧ x1.toInt ≤ 2) (a2 : 1 ≤ x2.toInt ∧ x2.toInt ≤ 1) (b98_2 : 0 ≤ (ri h 98 2).toInt ∧ (ri h 98 2).toInt ≤ 2) : ∃ (r1 r2 : Int32) (h1 h2 : List pC), Run prog E pV1 120 mX7_lay [.ref 0, .int x1, .int x2, .int x3] h (some (.int r1), h1, 0, 0) ∧ Run prog E pV1 120 mX8_lay [.ref 110, .int x1, .int x2, .int x3] h1 (some (.int r2), h2, 0, 0) ∧ (∃ o, pobj h1 110 = some o ∧ o.1 = 8) ∧ HI HT h2 ∧ JT h2 ∧ RJ h2 := by
  obtain ⟨r, h1, h2, q1, q2, q3, p1, p2, p3, p4⟩ := pr_ok3 (E := E) (x1 := x1) (x2 := x2) (x3 := x3) cp_lay2_0_2 rfl rfl (List.cons_ne_nil _ _) (List.cons_ne_nil _ _) (List.forall_mem_cons.mpr ⟨kg_m_worth JT_P hands, (fun _ h => absurd h List.not_mem_nil)⟩) hh hj hR.1 hR.2.1 ⟨a1, a2, i32_b x3, trivial⟩ (pBd.cs (ty_34_5 hh hR).1 (ty_34_5 hh hR).2 (pBd.cs b98_2.1 b98_2.2 pBd.nl)) (fun e he => by cases he)
  exact ⟨r, r, h1, h2, q1, q2, q3, p1, p2, p3.1, p3.2, xj_fr hR.2.2 p4 (by decide +kernel)⟩
theorem lf_lay2_0_3 (x1 x2 x3 : Int32) (hh : HI HT h) (hj : JT h) (hR : RJ h) (a1 : 2 ≤ x1.toInt ∧ x1.toInt ≤ 2) (a2 : 3 ≤ x2.toInt ∧ x2.toInt ≤ 3) (b98_2 : 0 ≤ (ri h 98 2).toInt ∧ (ri h 98 2).toInt ≤ 2) : ∃ (r1 r2 : Int32) (h1 h2 : List pC), Run prog E pV1 120 mX7_lay [.ref 0, .int x1, .int x2, .int x3] h (some (.int r1), h1, 0, 0) ∧ Run prog E pV1 120 mX8_lay [.ref 110, .int x1, .int x2, .int x3] h1 (some (.int r2), h2, 0, 0) ∧ (∃ o, pobj h1 110 = some o ∧ o.1 = 8) ∧ HI HT h2 ∧ JT h2 ∧ RJ h2 := by
  obtain ⟨r, h1, h2, q1, q2, q3, p1, p2, p3, p4⟩ := pr_ok3 (E := E) (x1 := x1) (x2 := x2) (x3 := x3) cp_lay2_0_3 rfl rfl (List.cons_ne_nil _ _) (List.cons_ne_nil _ _) (fun _ h => absurd h List.not_mem_nil) hh hj hR.1 hR.2.1 ⟨a1, a2, i32_b x3, trivial⟩ (pBd.cs b98_2.1 b98_2.2 pBd.nl) (fun e he => by cases he)
  exact ⟨r, r, h1, h2, q1, q2, q3, p1, p2, p3.1, p3.2, xj_fr hR.2.2 p4 (by decide +kernel)⟩
theorem lf_lay2_0_4 (x1 x2 x3 : Int32) (hh : HI HT h) (hj : JT h) (hR : RJ h) (a1 : 2 ≤ x1.toInt ∧ x1.toInt ≤ 2) (a2 : 4 ≤ x2.toInt ∧ x2.toInt ≤ 2147483647) (b98_2 : 0 ≤ (ri h 98 2).toInt ∧ (ri h 98 2).toInt ≤ 2) : ∃ (r1 r2 : Int32) (h1 h2 : List pC), Run prog E pV1 120 mX7_lay [.ref 0, .int x1, .int x2, .int x3] h (some (.int r1), h1, 0, 0) ∧ Run prog E pV1 120 mX8_lay [.ref 110, .int x1, .int x2, .int x3] h1 (some (.int r2), h2, 0, 0) ∧ (∃ o, pobj h1 110 = some o ∧ o.1 = 8) ∧ HI HT h2 ∧ JT h2 ∧ RJ h2 := by
  obtain ⟨r, h1, h2, q1, q2, q3, p1, p2, p3, p4⟩ := pr_ok3 (E := E) (x1 := x1) (x2 := x2) (x3 := x3) cp_lay2_0_4 rfl rfl (List.cons_ne_nil _ _) (List.cons_ne_nil _ _) (fun _ h => absurd h List.not_mem_nil) hh hj hR.1 hR.2.1 ⟨a1, a2, i32_b x3, trivial⟩ (pBd.cs b98_2.1 b98_2.2 pBd.nl) (fun e he => by cases he)
  exact ⟨r, r, h1, h2, q1, q2, q3, p1, p2, p3.1, p3.2, xj_fr hR.2.2 p4 (by decide +kernel)⟩
theorem lf_lay2_0s0 (x1 x2 x3 : Int32) (hh : HI HT h) (hj : JT h) (hR : RJ h) (a1 : 2 ≤ x1.toInt ∧ x1.toInt ≤ 2) (a2 : 2 ≤ x2.toInt ∧ x2.toInt ≤ 2) (a3 : (-2147483648) ≤ x3.toInt ∧ x3.toInt ≤ (-1)) (b98_2 : 0 ≤ (ri h 98 2).toInt ∧ (ri h 98 2).toInt ≤ 2) : ∃ (r1 r2 : Int32) (h1 h2 : List pC), Run prog E pV1 120 mX7_lay [.ref 0, .int x1, .int x2, .int x3] h (some (.int r1), h1, 0, 0) ∧ Run prog E pV1 120 mX8_lay [.ref 110, .int x1, .int x2, .int x3] h1 (some (.int r2), h2, 0, 0) ∧ (∃ o, pobj h1 110 = some o ∧ o.1 = 8) ∧ HI HT h2 ∧ JT h2 ∧ RJ h2 := by
  obtain ⟨r, h1, h2, q1, q2, q3, p1, p2, p3, p4⟩ := pr_ok3 (E := E) (x1 := x1) (x2 := x2) (x3 := x3) cp_lay2_0s0 rfl rfl (List.cons_ne_nil _ _) (List.cons_ne_nil _ _) (fun _ h => absurd h List.not_mem_nil) hh hj hR.1 hR.2.1 ⟨a1, a2, a3, trivial⟩ (pBd.cs b98_2.1 b98_2.2 pBd.nl) (fun e he => by cases he)
  exact ⟨r, r, h1, h2, q1, q2, q3, p1, p2, p3.1, p3.2, xj_fr hR.2.2 p4 (by decide +kernel)⟩
theorem lf_lay2_0s1 (x1 x2 x3 : Int32) (hh : HI HT h) (hj : JT h) (hR : RJ h) (a1 : 2 ≤ x1.toInt ∧ x1.toInt ≤ 2) (a2 : 2 ≤ x2.toInt ∧ x2.toInt ≤ 2) (a3 : 0 ≤ x3.toInt ∧ x3.toInt ≤ 0) (b98_2 : 0 ≤ (ri h 98 2).toInt ∧ (ri h 98 2).toInt ≤ 2) : ∃ (r1 r2 : Int32) (h1 h2 : List pC), Run prog E pV1 120 mX7_lay [.ref 0, .int x1, .int x2, .int x3] h (some (.int r1), h1, 0, 0) ∧ Run prog E pV1 120 mX8_lay [.ref 110, .int x1, .int x2, .int x3] h1 (some (.int r2), h2, 0, 0) ∧ (∃ o, pobj h1 110 = some o ∧ o.1 = 8) ∧ HI HT h2 ∧ JT h2 ∧ RJ h2 := by
  obtain ⟨r, h1, h2, q1, q2, q3, p1, p2, p3, p4⟩ := pr_ok3 (E := E) (x1 := x1) (x2 := x2) (x3 := x3) cp_lay2_0s1 rfl rfl (List.cons_ne_nil _ _) (List.cons_ne_nil _ _) (fun _ h => absurd h List.not_mem_nil) hh hj hR.1 hR.2.1 ⟨a1, a2, a3, trivial⟩ (pBd.cs b98_2.1 b98_2.2 (pBd.cs (ty_82_1 hh hR).1 (ty_82_1 hh hR).2 (pBd.cs (ty_82_2 hh hR).1 (ty_82_2 hh hR).2 pBd.nl))) (fun e he => by cases he)
  exact ⟨r, r, h1, h2, q1, q2, q3, p1, p2, p3.1, p3.2, xj_fr hR.2.2 p4 (by decide +kernel)⟩
theorem lf_lay2_0s2 (x1 x2 x3 : Int32) (hh : HI HT h) (hj : JT h) (hR : RJ h) (a1 : 2 ≤ x1.toInt ∧ x1.toInt ≤ 2) (a2 : 2 ≤ x2.toInt ∧ x2.toInt ≤ 2) (a3 : 1 ≤ x3.toInt ∧ x3.toInt ≤ 1) (b98_2 : 0 ≤ (ri h 98 2).toInt ∧ (ri h 98 2).toInt ≤ 2) : ∃ (r1 r2 : Int32) (h1 h2 : List pC), Run prog E pV1 120 mX7_lay [.ref 0, .int x1, .int x2, .int x3] h (some (.int r1), h1, 0, 0) ∧ Run prog E pV1 120 mX8_lay [.ref 110, .int x1, .int x2, .int x3] h1 (some (.int r2), h2, 0, 0) ∧ (∃ o, pobj h1 110 = some o ∧ o.1 = 8) ∧ HI HT h2 ∧ JT h2 ∧ RJ h2 := by
  obtain ⟨r, h1, h2, q1, q2, q3, p1, p2, p3, p4⟩ := pr_ok3 (E := E) (x1 := x1) (x2 := x2) (x3 := x3) cp_lay2_0s2 rfl rfl (List.cons_ne_nil _ _) (List.cons_ne_nil _ _) (fun _ h => absurd h List.not_mem_nil) hh hj hR.1 hR.2.1 ⟨a1, a2, a3, trivial⟩ (pBd.cs b98_2.1 b98_2.2 (pBd.cs (ty_84_1 hh hR).1 (ty_84_1 hh hR).2 (pBd.cs (ty_84_2 hh hR).1 (ty_84_2 hh hR).2 pBd.nl))) (fun e he => by cases he)
  exact ⟨r, r, h1, h2, q1, q2, q3, p1, p2, p3.1, p3.2, xj_fr hR.2.2 p4 (by decide +kernel)⟩
theorem lf_lay2_0s3 (x1 x2 x3 : Int32) (hh : HI HT h) (hj : JT h) (hR : RJ h) (a1 : 2 ≤ x1.toInt ∧ x1.toInt ≤ 2) (a2 : 2 ≤ x2.toInt ∧ x2.toInt ≤ 2) (a3 : 2 ≤ x3.toInt ∧ x3.toInt ≤ 2) (b98_2 : 0 ≤ (ri h 98 2).toInt ∧ (ri h 98 2).toInt ≤ 2) : ∃ (r1 r2 : Int32) (h1 h2 : List pC), Run prog E pV1 120 mX7_lay [.ref 0, .int x1, .int x2, .int x3] h (some (.int r1), h1, 0, 0) ∧ Run prog E pV1 120 mX8_lay [.ref 110, .int x1, .int x2, .int x3] h1 (some (.int r2), h2, 0, 0) ∧ (∃ o, pobj h1 110 = some o ∧ o.1 = 8) ∧ HI HT h2 ∧ JT h2 ∧ RJ h2 := by
  obtain ⟨r, h1, h2, q1, q2, q3, p1, p2, p3, p4⟩ := pr_ok3 (E := E) (x1 := x1) (x2 := x2) (x3 := x3) cp_lay2_0s3 rfl rfl (List.cons_ne_nil _ _) (List.cons_ne_nil _ _) (fun _ h => absurd h List.not_mem_nil) hh hj hR.1 hR.2.1 ⟨a1, a2, a3, trivial⟩ (pBd.cs b98_2.1 b98_2.2 (pBd.cs (ty_86_1 hh hR).1 (ty_86_1 hh hR).2 (pBd.cs (ty_86_2 hh hR).1 (ty_86_2 hh hR).2 pBd.nl))) (fun e he => by cases he)
  exact ⟨r, r, h1, h2, q1, q2, q3, p1, p2, p3.1, p3.2, xj_fr hR.2.2 p4 (by decide +kernel)⟩
theorem lf_lay2_0s4 (x1 x2 x3 : Int32) (hh : HI HT h) (hj : JT h) (hR : RJ h) (a1 : 2 ≤ x1.toInt ∧ x1.toInt ≤ 2) (a2 : 2 ≤ x2.toInt ∧ x2.toInt ≤ 2) (a3 : 3 ≤ x3.toInt ∧ x3.toInt ≤ 3) (b98_2 : 0 ≤ (ri h 98 2).toInt ∧ (ri h 98 2).toInt ≤ 2) : ∃ (r1 r2 : Int32) (h1 h2 : List pC), Run prog E pV1 120 mX7_lay [.ref 0, .int x1, .int x2, .int x3] h (some (.int r1), h1, 0, 0) ∧ Run prog E pV1 120 mX8_lay [.ref 110, .int x1, .int x2, .int x3] h1 (some (.int r2), h2, 0, 0) ∧ (∃ o, pobj h1 110 = some o ∧ o.1 = 8) ∧ HI HT h2 ∧ JT h2 ∧ RJ h2 := by
  obtain ⟨r, h1, h2, q1, q2, q3, p1, p2, p3, p4⟩ := pr_ok3 (E := E) (x1 := x1) (x2 := x2) (x3 := x3) cp_lay2_0s4 rfl rfl (List.cons_ne_nil _ _) (List.cons_ne_nil _ _) (fun _ h => absurd h List.not_mem_nil) hh hj hR.1 hR.2.1 ⟨a1, a2, a3, trivial⟩ (pBd.cs b98_2.1 b98_2.2 (pBd.cs (ty_88_1 hh hR).1 (ty_88_1 hh hR).2 (pBd.cs (ty_88_2 hh hR).1 (ty_88_2 hh hR).2 pBd.nl))) (fun e he => by cases he)
  exact ⟨r, r, h1, h2, q1, q2, q3, p1, p2, p3.1, p3.2, xj_fr hR.2.2 p4 (by decide +kernel)⟩
theorem lf_lay2_0s5 (x1 x2 x3 : Int32) (hh : HI HT h) (hj : JT h) (hR : RJ h) (a1 : 2 ≤ x1.toInt ∧ x1.toInt ≤ 2) (a2 : 2 ≤ x2.toInt ∧ x2.toInt ≤ 2) (a3 : 4 ≤ x3.toInt ∧ x3.toInt ≤ 2147483647) (b98_2 : 0 ≤ (ri h 98 2).toInt ∧ (ri h 98 2).toInt ≤ 2) : ∃ (r1 r2 : Int32) (h1 h2 : List pC), Run prog E pV1 120 mX7_lay [.ref 0, .int x1, .int x2, .int x3] h (some (.int r1), h1, 0, 0) ∧ Run prog E pV1 120 mX8_lay [.ref 110, .int x1, .int x2, .int x3] h1 (some (.int r2), h2, 0, 0) ∧ (∃ o, pobj h1 110 = some o ∧ o.1 = 8) ∧ HI HT h2 ∧ JT h2 ∧ RJ h2 := by
  obtain ⟨r, h1, h2, q1, q2, q3, p1, p2, p3, p4⟩ := pr_ok3 (E := E) (x1 := x1) (x2 := x2) (x3 := x3) cp_lay2_0s5 rfl rfl (List.cons_ne_nil _ _) (List.cons_ne_nil _ _) (fun _ h => absurd h List.not_mem_nil) hh hj hR.1 hR.2.1 ⟨a1, a2, a3, trivial⟩ (pBd.cs b98_2.1 b98_2.2 pBd.nl) (fun e he => by cases he)
  exact ⟨r, r, h1, h2, q1, q2, q3, p1, p2, p3.1, p3.2, xj_fr hR.2.2 p4 (by decide +kernel)⟩
theorem lf_lay2_3_0 (x1 x2 x3 : Int32) (hh : HI HT h) (hj : JT h) (hR : RJ h) (a1 : 2 ≤ x1.toInt ∧ x1.toInt ≤ 2) (a2 : (-2147483648) ≤ x2.toInt ∧ x2.toInt ≤ (-1)) (b98_2 : 3 ≤ (ri h 98 2).toInt ∧ (ri h 98 2).toInt ≤ 3) : ∃ (r1 r2 : Int32) (h1 h2 : List pC), Run prog E pV1 120 mX7_lay [.ref 0, .int x1, .int x2, .int x3] h (some (.int r1), h1, 0, 0) ∧ Run prog E pV1 120 mX8_lay [.ref 110, .int x1, .int x2, .int x3] h1 (some (.int r2), h2, 0, 0) ∧ (∃ o, pobj h1 110 = some o ∧ o.1 = 8) ∧ HI HT h2 ∧ JT h2 ∧ RJ h2 := by
  obtain ⟨r, h1, h2, q1, q2, q3, p1, p2, p3, p4⟩ := pr_ok3 (E := E) (x1 := x1) (x2 := x2) (x3 := x3) cp_lay2_3_0 rfl rfl (List.cons_ne_nil _ _) (List.cons_ne_nil _ _) (fun _ h => absurd h List.not_mem_nil) hh hj hR.1 hR.2.1 ⟨a1, a2, i32_b x3, trivial⟩ (pBd.cs b98_2.1 b98_2.2 (pBd.cs (i32_b (ri h 98 3)).1 (i32_b (ri h 98 3)).2 pBd.nl)) (fun e he => by cases he)
  exact ⟨r, r, h1, h2, q1, q2, q3, p1, p2, p3.1, p3.2, xj_fr hR.2.2 p4 (by decide +kernel)⟩
theorem lf_lay2_3_1 (x1 x2 x3 : Int32) (hh : HI HT h) (hj : JT h) (hR : RJ h) (a1 : 2 ≤ x1.toInt ∧ x1.toInt ≤ 2) (a2 : 0 ≤ x2.toInt ∧ x2.toInt ≤ 0) (b98_2 : 3 ≤ (ri h 98 2).toInt ∧ (ri h 98 2).toInt ≤ 3) : ∃ (r1 r2 : Int32) (h1 h2 : List pC), Run prog E pV1 120 mX7_lay [.ref 0, .int x1, .int x2, .int x3] h (some (.int r1), h1, 0, 0) ∧ Run prog E pV1 120 mX8_lay [.ref 110, .int x1, .int x2, .int x3] h1 (some (.int r2), h2, 0, 0) ∧ (∃ o, pobj h1 110 = some o ∧ o.1 = 8) ∧ HI HT h2 ∧ JT h2 ∧ RJ h2 := by
  obtain ⟨r, h1, h2, q1, q2, q3, p1, p2, p3, p4⟩ := pr_ok3 (E := E) (x1 := x1) (x2 := x2) (x3 := x3) cp_lay2_3_1 rfl rfl (List.cons_ne_nil _ _) (List.cons_ne_nil _ _) (fun _ h => absurd h List.not_mem_nil) hh hj hR.1 hR.2.1 ⟨a1, a2, i32_b x3, trivial⟩ (pBd.cs b98_2.1 b98_2.2 (pBd.cs (i32_b (ri h 98 3)).1 (i32_b (ri h 98 3)).2 pBd.nl)) (fun e he => by cases he)
  exact ⟨r, r, h1, h2, q1, q2, q3, p1, p2, p3.1, p3.2, xj_fr hR.2.2 p4 (by decide +kernel)⟩
theorem lf_lay2_3_2 (x1 x2 x3 : Int32) (hh : HI HT h) (hj : JT h) (hR : RJ h) (a1 : 2 ≤ x1.toInt ∧ x1.toInt ≤ 2) (a2 : 1 ≤ x2.toInt ∧ x2.toInt ≤ 1) (b98_2 : 3 ≤ (ri h 98 2).toInt ∧ (ri h 98 2).toInt ≤ 3) : ∃ (r1 r2 : Int32) (h1 h2 : List pC), Run prog E pV1 120 mX7_lay [.ref 0, .int x1, .int x2, .int x3] h (some (.int r1), h1, 0, 0) ∧ Run prog E pV1 120 mX8_lay [.ref 110, .int x1, .int x2, .int x3] h1 (some (.int r2), h2, 0, 0) ∧ (∃ o, pobj h1 110 = some o ∧ o.1 = 8) ∧ HI HT h2 ∧ JT h2 ∧ RJ h2 := by
  obtain ⟨r, h1, h2, q1, q2, q3, p1, p2, p3, p4⟩ := pr_ok3 (E := E) (x1 := x1) (x2 := x2) (x3 := x3) cp_lay2_3_2 rfl rfl (List.cons_ne_nil _ _) (List.cons_ne_nil _ _) (List.forall_mem_cons.mpr ⟨kg_m_worth JT_P hands, (fun _ h => absurd h List.not_mem_nil)⟩) hh hj hR.1 hR.2.1 ⟨a1, a2, i32_b x3, trivial⟩ (pBd.cs (ty_34_5 hh hR).1 (ty_34_5 hh hR).2 (pBd.cs b98_2.1 b98_2.2 (pBd.cs (i32_b (ri h 98 3)).1 (i32_b (ri h 98 3)).2 pBd.nl))) (fun e he => by cases he)
  exact ⟨r, r, h1, h2, q1, q2, q3, p1, p2, p3.1, p3.2, xj_fr hR.2.2 p4 (by decide +kernel)⟩
theorem lf_lay2_3_3 (x1 x2 x3 : Int32) (hh : HI HT h) (hj : JT h) (hR : RJ h) (a1 : 2 ≤ x1.toInt ∧ x1.toInt ≤ 2) (a2 : 3 ≤ x2.toInt ∧ x2.toInt ≤ 3) (b98_2 : 3 ≤ (ri h 98 2).toInt ∧ (ri h 98 2).toInt ≤ 3) : ∃ (r1 r2 : Int32) (h1 h2 : List pC), Run prog E pV1 120 mX7_lay [.ref 0, .int x1, .int x2, .int x3] h (some (.int r1), h1, 0, 0) ∧ Run prog E pV1 120 mX8_lay [.ref 110, .int x1, .int x2, .int x3] h1 (some (.int r2), h2, 0, 0) ∧ (∃ o, pobj h1 110 = some o ∧ o.1 = 8) ∧ HI HT h2 ∧ JT h2 ∧ RJ h2 := by
  obtain ⟨r, h1, h2, q1, q2, q3, p1, p2, p3, p4⟩ := pr_ok3 (E := E) (x1 := x1) (x2 := x2) (x3 := x3) cp_lay2_3_3 rfl rfl (List.cons_ne_nil _ _) (List.cons_ne_nil _ _) (fun _ h => absurd h List.not_mem_nil) hh hj hR.1 hR.2.1 ⟨a1, a2, i32_b x3, trivial⟩ (pBd.cs b98_2.1 b98_2.2 (pBd.cs (i32_b (ri h 98 3)).1 (i32_b (ri h 98 3)).2 pBd.nl)) (fun e he => by cases he)
  exact ⟨r, r, h1, h2, q1, q2, q3, p1, p2, p3.1, p3.2, xj_fr hR.2.2 p4 (by decide +kernel)⟩
theorem lf_lay2_3_4 (x1 x2 x3 : Int32) (hh : HI HT h) (hj : JT h) (hR : RJ h) (a1 : 2 ≤ x1.toInt ∧ x1.toInt ≤ 2) (a2 : 4 ≤ x2.toInt ∧ x2.toInt ≤ 2147483647) (b98_2 : 3 ≤ (ri h 98 2).toInt ∧ (ri h 98 2).toInt ≤ 3) : ∃ (r1 r2 : Int32) (h1 h2 : List pC), Run prog E pV1 120 mX7_lay [.ref 0, .int x1, .int x2, .int x3] h (some (.int r1), h1, 0, 0) ∧ Run prog E pV1 120 mX8_lay [.ref 110, .int x1, .int x2, .int x3] h1 (some (.int r2), h2, 0, 0) ∧ (∃ o, pobj h1 110 = some o ∧ o.1 = 8) ∧ HI HT h2 ∧ JT h2 ∧ RJ h2 := by
  obtain ⟨r, h1, h2, q1, q2, q3, p1, p2, p3, p4⟩ := pr_ok3 (E := E) (x1 := x1) (x2 := x2) (x3 := x3) cp_lay2_3_4 rfl rfl (List.cons_ne_nil _ _) (List.cons_ne_nil _ _) (fun _ h => absurd h List.not_mem_nil) hh hj hR.1 hR.2.1 ⟨a1, a2, i32_b x3, trivial⟩ (pBd.cs b98_2.1 b98_2.2 (pBd.cs (i32_b (ri h 98 3)).1 (i32_b (ri h 98 3)).2 pBd.nl)) (fun e he => by cases he)
  exact ⟨r, r, h1, h2, q1, q2, q3, p1, p2, p3.1, p3.2, xj_fr hR.2.2 p4 (by decide +kernel)⟩
theorem lf_lay2_3s0 (x1 x2 x3 : Int32) (hh : HI HT h) (hj : JT h) (hR : RJ h) (a1 : 2 ≤ x1.toInt ∧ x1.toInt ≤ 2) (a2 : 2 ≤ x2.toInt ∧ x2.toInt ≤ 2) (a3 : (-2147483648) ≤ x3.toInt ∧ x3.toInt ≤ (-1)) (b98_2 : 3 ≤ (ri h 98 2).toInt ∧ (ri h 98 2).toInt ≤ 3) : ∃ (r1 r2 : Int32) (h1 h2 : List pC), Run prog E pV1 120 mX7_lay [.ref 0, .int x1, .int x2, .int x3] h (some (.int r1), h1, 0, 0) ∧ Run prog E pV1 120 mX8_lay [.ref 110, .int x1, .int x2, .int x3] h1 (some (.int r2), h2, 0, 0) ∧ (∃ o, pobj h1 110 = some o ∧ o.1 = 8) ∧ HI HT h2 ∧ JT h2 ∧ RJ h2 := by
  obtain ⟨r, h1, h2, q1, q2, q3, p1, p2, p3, p4⟩ := pr_ok3 (E := E) (x1 := x1) (x2 := x2) (x3 := x3) cp_lay2_3s0 rfl rfl (List.cons_ne_nil _ _) (List.cons_ne_nil _ _) (fun _ h => absurd h List.not_mem_nil) hh hj hR.1 hR.2.1 ⟨a1, a2, a3, trivial⟩ (pBd.cs b98_2.1 b98_2.2 (pBd.cs (i32_b (ri h 98 3)).1 (i32_b (ri h 98 3)).2 pBd.nl)) (fun e he => by cases he)
  exact ⟨r, r, h1, h2, q1, q2, q3, p1, p2, p3.1, p3.2, xj_fr hR.2.2 p4 (by decide +kernel)⟩
theorem lf_lay2_3s1 (x1 x2 x3 : Int32) (hh : HI HT h) (hj : JT h) (hR : RJ h) (a1 : 2 ≤ x1.toInt ∧ x1.toInt ≤ 2) (a2 : 2 ≤ x2.toInt ∧ x2.toInt ≤ 2) (a3 : 0 ≤ x3.toInt ∧ x3.toInt ≤ 0) (b98_2 : 3 ≤ (ri h 98 2).toInt ∧ (ri h 98 2).toInt ≤ 3) : ∃ (r1 r2 : Int32) (h1 h2 : List pC), Run prog E pV1 120 mX7_lay [.ref 0, .int x1, .int x2, .int x3] h (some (.int r1), h1, 0, 0) ∧ Run prog E pV1 120 mX8_lay [.ref 110, .int x1, .int x2, .int x3] h1 (some (.int r2), h2, 0, 0) ∧ (∃ o, pobj h1 110 = some o ∧ o.1 = 8) ∧ HI HT h2 ∧ JT h2 ∧ RJ h2 := by
  obtain ⟨r, h1, h2, q1, q2, q3, p1, p2, p3, p4⟩ := pr_ok3 (E := E) (x1 := x1) (x2 := x2) (x3 := x3) cp_lay2_3s1 rfl rfl (List.cons_ne_nil _ _) (List.cons_ne_nil _ _) (fun _ h => absurd h List.not_mem_nil) hh hj hR.1 hR.2.1 ⟨a1, a2, a3, trivial⟩ (pBd.cs b98_2.1 b98_2.2 (pBd.cs (i32_b (ri h 98 3)).1 (i32_b (ri h 98 3)).2 (pBd.cs (ty_82_1 hh hR).1 (ty_82_1 hh hR).2 (pBd.cs (ty_82_2 hh hR).1 (ty_82_2 hh hR).2 pBd.nl)))) (fun e he => by cases he)
  exact ⟨r, r, h1, h2, q1, q2, q3, p1, p2, p3.1, p3.2, xj_fr hR.2.2 p4 (by decide +kernel)⟩
theorem lf_lay2_3s2 (x1 x2 x3 : Int32) (hh : HI HT h) (hj : JT h) (hR : RJ h) (a1 : 2 ≤ x1.toInt ∧ x1.toInt ≤ 2) (a2 : 2 ≤ x2.toInt ∧ x2.toInt ≤ 2) (a3 : 1 ≤ x3.toInt ∧ x3.toInt ≤ 1) (b98_2 : 3 ≤ (ri h 98 2).toInt ∧ (ri h 98 2).toInt ≤ 3) : ∃ (r1 r2 : Int32) (h1 h2 : List pC), Run prog E pV1 120 mX7_lay [.ref 0, .int x1, .int x2, .int x3] h (some (.int r1), h1, 0, 0) ∧ Run prog E pV1 120 mX8_lay [.ref 110, .int x1, .int x2, .int x3] h1 (some (.int r2), h2, 0, 0) ∧ (∃ o, pobj h1 110 = some o ∧ o.1 = 8) ∧ HI HT h2 ∧ JT h2 ∧ RJ h2 := by
  obtain ⟨r, h1, h2, q1, q2, q3, p1, p2, p3, p4⟩ := pr_ok3 (E := E) (x1 := x1) (x2 := x2) (x3 := x3) cp_lay2_3s2 rfl rfl (List.cons_ne_nil _ _) (List.cons_ne_nil _ _) (fun _ h => absurd h List.not_mem_nil) hh hj hR.1 hR.2.1 ⟨a1, a2, a3, trivial⟩ (pBd.cs b98_2.1 b98_2.2 (pBd.cs (i32_b (ri h 98 3)).1 (i32_b (ri h 98 3)).2 (pBd.cs (ty_84_1 hh hR).1 (ty_84_1 hh hR).2 (pBd.cs (ty_84_2 hh hR).1 (ty_84_2 hh hR).2 pBd.nl)))) (fun e he => by cases he)
  exact ⟨r, r, h1, h2, q1, q2, q3, p1, p2, p3.1, p3.2, xj_fr hR.2.2 p4 (by decide +kernel)⟩
theorem lf_lay2_3s3 (x1 x2 x3 : Int32) (hh : HI HT h) (hj : JT h) (hR : RJ h) (a1 : 2 ≤ x1.toInt ∧ x1.toInt ≤ 2) (a2 : 2 ≤ x2.toInt ∧ x2.toInt ≤ 2) (a3 : 2 ≤ x3.toInt ∧ x3.toInt ≤ 2) (b98_2 : 3 ≤ (ri h 98 2).toInt ∧ (ri h 98 2).toInt ≤ 3) : ∃ (r1 r2 : Int32) (h1 h2 : List pC), Run prog E pV1 120 mX7_lay [.ref 0, .int x1, .int x2, .int x3] h (some (.int r1), h1, 0, 0) ∧ Run prog E pV1 120 mX8_lay [.ref 110, .int x1, .int x2, .int x3] h1 (some (.int r2), h2, 0, 0) ∧ (∃ o, pobj h1 110 = some o ∧ o.1 = 8) ∧ HI HT h2 ∧ JT h2 ∧ RJ h2 := by
  obtain ⟨r, h1, h2, q1, q2, q3, p1, p2, p3, p4⟩ := pr_ok3 (E := E) (x1 := x1) (x2 := x2) (x3 := x3) cp_lay2_3s3 rfl rfl (List.cons_ne_nil _ _) (List.cons_ne_nil _ _) (fun _ h => absurd h List.not_mem_nil) hh hj hR.1 hR.2.1 ⟨a1, a2, a3, trivial⟩ (pBd.cs b98_2.1 b98_2.2 (pBd.cs (i32_b (ri h 98 3)).1 (i32_b (ri h 98 3)).2 (pBd.cs (ty_86_1 hh hR).1 (ty_86_1 hh hR).2 (pBd.cs (ty_86_2 hh hR).1 (ty_86_2 hh hR).2 pBd.nl)))) (fun e he => by cases he)
  exact ⟨r, r, h1, h2, q1, q2, q3, p1, p2, p3.1, p3.2, xj_fr hR.2.2 p4 (by decide +kernel)⟩
theorem lf_lay2_3s4 (x1 x2 x3 : Int32) (hh : HI HT h) (hj : JT h) (hR : RJ h) (a1 : 2 ≤ x1.toInt ∧ x1.toInt ≤ 2) (a2 : 2 ≤ x2.toInt ∧ x2.toInt ≤ 2) (a3 : 3 ≤ x3.toInt ∧ x3.toInt ≤ 3) (b98_2 : 3 ≤ (ri h 98 2).toInt ∧ (ri h 98 2).toInt ≤ 3) : ∃ (r1 r2 : Int32) (h1 h2 : List pC), Run prog E pV1 120 mX7_lay [.ref 0, .int x1, .int x2, .int x3] h (some (.int r1), h1, 0, 0) ∧ Run prog E pV1 120 mX8_lay [.ref 110, .int x1, .int x2, .int x3] h1 (some (.int r2), h2, 0, 0) ∧ (∃ o, pobj h1 110 = some o ∧ o.1 = 8) ∧ HI HT h2 ∧ JT h2 ∧ RJ h2 := by
  obtain ⟨r, h1, h2, q1, q2, q3, p1, p2, p3, p4⟩ := pr_ok3 (E := E) (x1 := x1) (x2 := x2) (x3 := x3) cp_lay2_3s4 rfl rfl (List.cons_ne_nil _ _) (List.cons_ne_nil _ _) (fun _ h => absurd h List.not_mem_nil) hh hj hR.1 hR.2.1 ⟨a1, a2, a3, trivial⟩ (pBd.cs b98_2.1 b98_2.2 (pBd.cs (i32_b (ri h 98 3)).1 (i32_b (ri h 98 3)).2 (pBd.cs (ty_88_1 hh hR).1 (ty_88_1 hh hR).2 (pBd.cs (ty_88_2 hh hR).1 (ty_88_2 hh hR).2 pBd.nl)))) (fun e he => by cases he)
  exact ⟨r, r, h1, h2, q1, q2, q3, p1, p2, p3.1, p3.2, xj_fr hR.2.2 p4 (by decide +kernel)⟩
theorem lf_lay2_3s5 (x1 x2 x3 : Int32) (hh : HI HT h) (hj : JT h) (hR : RJ h) (a1 : 2 ≤ x1.toInt ∧ x1.toInt ≤ 2) (a2 : 2 ≤ x2.toInt ∧ x2.toInt ≤ 2) (a3 : 4 ≤ x3.toInt ∧ x3.toInt ≤ 2147483647) (b98_2 : 3 ≤ (ri h 98 2).toInt ∧ (ri h 98 2).toInt ≤ 3) : ∃ (r1 r2 : Int32) (h1 h2 : List pC), Run prog E pV1 120 mX7_lay [.ref 0, .int x1, .int x2, .int x3] h (some (.int r1), h1, 0, 0) ∧ Run prog E pV1 120 mX8_lay [.ref 110, .int x1, .int x2, .int x3] h1 (some (.int r2), h2, 0, 0) ∧ (∃ o, pobj h1 110 = some o ∧ o.1 = 8) ∧ HI HT h2 ∧ JT h2 ∧ RJ h2 := by
  obtain ⟨r, h1, h2, q1, q2, q3, p1, p2, p3, p4⟩ := pr_ok3 (E := E) (x1 := x1) (x2 := x2) (x3 := x3) cp_lay2_3s5 rfl rfl (List.cons_ne_nil _ _) (List.cons_ne_nil _ _) (fun _ h => absurd h List.not_mem_nil) hh hj hR.1 hR.2.1 ⟨a1, a2, a3, trivial⟩ (pBd.cs b98_2.1 b98_2.2 (pBd.cs (i32_b (ri h 98 3)).1 (i32_b (ri h 98 3)).2 pBd.nl)) (fun e he => by cases he)
  exact ⟨r, r, h1, h2, q1, q2, q3, p1, p2, p3.1, p3.2, xj_fr hR.2.2 p4 (by decide +kernel)⟩
theorem lf_lay3_0_0 (x1 x2 x3 : Int32) (hh : HI HT h) (hj : JT h) (hR : RJ h) (a1 : 3 ≤ x1.toInt ∧ x1.toInt ≤ 3) (a2 : (-2147483648) ≤ x2.toInt ∧ x2.toInt ≤ (-1)) (b102_2 : 0 ≤ (ri h 102 2).toInt ∧ (ri h 102 2).toInt ≤ 2) : ∃ (r1 r2 : Int32) (h1 h2 : List pC), Run prog E pV1 120 mX7_lay [.ref 0, .int x1, .int x2, .int x3] h (some (.int r1), h1, 0, 0) ∧ Run prog E pV1 120 mX8_lay [.ref 110, .int x1, .int x2, .int x3] h1 (some (.int r2), h2, 0, 0) ∧ (∃ o, pobj h1 110 = some o ∧ o.1 = 8) ∧ HI HT h2 ∧ JT h2 ∧ RJ h2 := by
  obtain ⟨r, h1, h2, q1, q2, q3, p1, p2, p3, p4⟩ := pr_ok3 (E := E) (x1 := x1) (x2 := x2) (x3 := x3) cp_lay3_0_0 rfl rfl (List.cons_ne_nil _ _) (List.cons_ne_nil _ _) (fun _ h => absurd h List.not_mem_nil) hh hj hR.1 hR.2.1 ⟨a1, a2, i32_b x3, trivial⟩ (pBd.cs b102_2.1 b102_2.2 pBd.nl) (fun e he => by cases he)
  exact ⟨r, r, h1, h2, q1, q2, q3, p1, p2, p3.1, p3.2, xj_fr hR.2.2 p4 (by decide +kernel)⟩
theorem lf_lay3_0_1 (x1 x2 x3 : Int32) (hh : HI HT h) (hj : JT h) (hR : RJ h) (a1 : 3 ≤ x1.toInt ∧ x1.toInt ≤ 3) (a2 : 0 ≤ x2.toInt ∧ x2.toInt ≤ 0) (b102_2 : 0 ≤ (ri h 102 2).toInt ∧ (ri h 102 2).toInt ≤ 2) : ∃ (r1 r2 : Int32) (h1 h2 : List pC), Run prog E pV1 120 mX7_lay [.ref 0, .int x1, .int x2, .int x3] h (some (.int r1), h1, 0, 0) ∧ Run prog E pV1 120 mX8_lay [.ref 110, .int x1, .int x2, .int x3] h1 (some (.int r2), h2, 0, 0) ∧ (∃ o, pobj h1 110 = some o ∧ o.1 = 8) ∧ HI HT h2 ∧ JT h2 ∧ RJ h2 := by
  obtain ⟨r, h1, h2, q1, q2, q3, p1, p2, p3, p4⟩ := pr_ok3 (E := E) (x1 := x1) (x2 := x2) (x3 := x3) cp_lay3_0_1 rfl rfl (List.cons_ne_nil _ _) (List.cons_ne_nil _ _) (fun _ h => absurd h List.not_mem_nil) hh hj hR.1 hR.2.1 ⟨a1, a2, i32_b x3, trivial⟩ (pBd.cs b102_2.1 b102_2.2 pBd.nl) (fun e he => by cases he)
  exact ⟨r, r, h1, h2, q1, q2, q3, p1, p2, p3.1, p3.2, xj_fr hR.2.2 p4 (by decide +kernel)⟩
theorem lf_lay3_0_2 (x1 x2 x3 : Int32) (hh : HI HT h) (hj : JT h) (hR : RJ h) (a1 : 3 ≤ x1.toInt ∧ x1.toInt ≤ 3) (a2 : 1 ≤ x2.toInt ∧ x2.toInt ≤ 1) (b102_2 : 0 ≤ (ri h 102 2).toInt ∧ (ri h 102 2).toInt ≤ 2) : ∃ (r1 r2 : Int32) (h1 h2 : List pC), Run prog E pV1 120 mX7_lay [.ref 0, .int x1, .int x2, .int x3] h (some (.int r1), h1, 0, 0) ∧ Run prog E pV1 120 mX8_lay [.ref 110, .int x1, .int x2, .int x3] h1 (some (.int r2), h2, 0, 0) ∧ (∃ o, pobj h1 110 = some o ∧ o.1 = 8) ∧ HI HT h2 ∧ JT h2 ∧ RJ h2 := by
  obtain ⟨r, h1, h2, q1, q2, q3, p1, p2, p3, p4⟩ := pr_ok3 (E := E) (x1 := x1) (x2 := x2) (x3 := x3) cp_lay3_0_2 rfl rfl (List.cons_ne_nil _ _) (List.cons_ne_nil _ _) (List.forall_mem_cons.mpr ⟨kg_m_worth JT_P hands, (fun _ h => absurd h List.not_mem_nil)⟩) hh hj hR.1 hR.2.1 ⟨a1, a2, i32_b x3, trivial⟩ (pBd.cs (ty_34_5 hh hR).1 (ty_34_5 hh hR).2 (pBd.cs b102_2.1 b102_2.2 pBd.nl)) (fun e he => by cases he)
  exact ⟨r, r, h1, h2, q1, q2, q3, p1, p2, p3.1, p3.2, xj_fr hR.2.2 p4 (by decide +kernel)⟩
theorem lf_lay3_0_3 (x1 x2 x3 : Int32) (hh : HI HT h) (hj : JT h) (hR : RJ h) (a1 : 3 ≤ x1.toInt ∧ x1.toInt ≤ 3) (a2 : 3 ≤ x2.toInt ∧ x2.toInt ≤ 3) (b102_2 : 0 ≤ (ri h 102 2).toInt ∧ (ri h 102 2).toInt ≤ 2) : ∃ (r1 r2 : Int32) (h1 h2 : List pC), Run prog E pV1 120 mX7_lay [.ref 0, .int x1, .int x2, .int x3] h (some (.int r1), h1, 0, 0) ∧ Run prog E pV1 120 mX8_lay [.ref 110, .int x1, .int x2, .int x3] h1 (some (.int r2), h2, 0, 0) ∧ (∃ o, pobj h1 110 = some o ∧ o.1 = 8) ∧ HI HT h2 ∧ JT h2 ∧ RJ h2 := by
  obtain ⟨r, h1, h2, q1, q2, q3, p1, p2, p3, p4⟩ := pr_ok3 (E := E) (x1 := x1) (x2 := x2) (x3 := x3) cp_lay3_0_3 rfl rfl (List.cons_ne_nil _ _) (List.cons_ne_nil _ _) (fun _ h => absurd h List.not_mem_nil) hh hj hR.1 hR.2.1 ⟨a1, a2, i32_b x3, trivial⟩ (pBd.cs b102_2.1 b102_2.2 pBd.nl) (fun e he => by cases he)
  exact ⟨r, r, h1, h2, q1, q2, q3, p1, p2, p3.1, p3.2, xj_fr hR.2.2 p4 (by decide +kernel)⟩
theorem lf_lay3_0_4 (x1 x2 x3 : Int32) (hh : HI HT h) (hj : JT h) (hR : RJ h) (a1 : 3 ≤ x1.toInt ∧ x1.toInt ≤ 3) (a2 : 4 ≤ x2.toInt ∧ x2.toInt ≤ 2147483647) (b102_2 : 0 ≤ (ri h 102 2).toInt ∧ (ri h 102 2).toInt ≤ 2) : ∃ (r1 r2 : Int32) (h1 h2 : List pC), Run prog E pV1 120 mX7_lay [.ref 0, .int x1, .int x2, .int x3] h (some (.int r1), h1, 0, 0) ∧ Run prog E pV1 120 mX8_lay [.ref 110, .int x1, .int x2, .int x3] h1 (some (.int r2), h2, 0, 0) ∧ (∃ o, pobj h1 110 = some o ∧ o.1 = 8) ∧ HI HT h2 ∧ JT h2 ∧ RJ h2 := by
  obtain ⟨r, h1, h2, q1, q2, q3, p1, p2, p3, p4⟩ := pr_ok3 (E := E) (x1 := x1) (x2 := x2) (x3 := x3) cp_lay3_0_4 rfl rfl (List.cons_ne_nil _ _) (List.cons_ne_nil _ _) (fun _ h => absurd h List.not_mem_nil) hh hj hR.1 hR.2.1 ⟨a1, a2, i32_b x3, trivial⟩ (pBd.cs b102_2.1 b102_2.2 pBd.nl) (fun e he => by cases he)
  exact ⟨r, r, h1, h2, q1, q2, q3, p1, p2, p3.1, p3.2, xj_fr hR.2.2 p4 (by decide +kernel)⟩
theorem lf_lay3_0s0 (x1 x2 x3 : Int32) (hh : HI HT h) (hj : JT h) (hR : RJ h) (a1 : 3 ≤ x1.toInt ∧ x1.toInt ≤ 3) (a2 : 2 ≤ x2.toInt ∧ x2.toInt ≤ 2) (a3 : (-2147483648) ≤ x3.toInt ∧ x3.toInt ≤ (-1)) (b102_2 : 0 ≤ (ri h 102 2).toInt ∧ (ri h 102 2).toInt ≤ 2) : ∃ (r1 r2 : Int32) (h1 h2 : List pC), Run prog E pV1 120 mX7_lay [.ref 0, .int x1, .int x2, .int x3] h (some (.int r1), h1, 0, 0) ∧ Run prog E pV1 120 mX8_lay [.ref 110, .int x1, .int x2, .int x3] h1 (some (.int r2), h2, 0, 0) ∧ (∃ o, pobj h1 110 = some o ∧ o.1 = 8) ∧ HI HT h2 ∧ JT h2 ∧ RJ h2 := by
  obtain ⟨r, h1, h2, q1, q2, q3, p1, p2, p3, p4⟩ := pr_ok3 (E := E) (x1 := x1) (x2 := x2) (x3 := x3) cp_lay3_0s0 rfl rfl (List.cons_ne_nil _ _) (List.cons_ne_nil _ _) (fun _ h => absurd h List.not_mem_nil) hh hj hR.1 hR.2.1 ⟨a1, a2, a3, trivial⟩ (pBd.cs b102_2.1 b102_2.2 pBd.nl) (fun e he => by cases he)
  exact ⟨r, r, h1, h2, q1, q2, q3, p1, p2, p3.1, p3.2, xj_fr hR.2.2 p4 (by decide +kernel)⟩
theorem lf_lay3_0s1 (x1 x2 x3 : Int32) (hh : HI HT h) (hj : JT h) (hR : RJ h) (a1 : 3 ≤ x1.toInt ∧ x1.toInt ≤ 3) (a2 : 2 ≤ x2.toInt ∧ x2.toInt ≤ 2) (a3 : 0 ≤ x3.toInt ∧ x3.toInt ≤ 0) (b102_2 : 0 ≤ (ri h 102 2).toInt ∧ (ri h 102 2).toInt ≤ 2) : ∃ (r1 r2 : Int32) (h1 h2 : List pC), Run prog E pV1 120 mX7_lay [.ref 0, .int x1, .int x2, .int x3] h (some (.int r1), h1, 0, 0) ∧ Run prog E pV1 120 mX8_lay [.ref 110, .int x1, .int x2, .int x3] h1 (some (.int r2), h2, 0, 0) ∧ (∃ o, pobj h1 110 = some o ∧ o.1 = 8) ∧ HI HT h2 ∧ JT h2 ∧ RJ h2 := by
  obtain ⟨r, h1, h2, q1, q2, q3, p1, p2, p3, p4⟩ := pr_ok3 (E := E) (x1 := x1) (x2 := x2) (x3 := x3) cp_lay3_0s1 rfl rfl (List.cons_ne_nil _ _) (List.cons_ne_nil _ _) (fun _ h => absurd h List.not_mem_nil) hh hj hR.1 hR.2.1 ⟨a1, a2, a3, trivial⟩ (pBd.cs b102_2.1 b102_2.2 (pBd.cs (ty_82_1 hh hR).1 (ty_82_1 hh hR).2 (pBd.cs (ty_82_2 hh hR).1 (ty_82_2 hh hR).2 pBd.nl))) (fun e he => by cases he)
  exact ⟨r, r, h1, h2, q1, q2, q3, p1, p2, p3.1, p3.2, xj_fr hR.2.2 p4 (by decide +kernel)⟩
theorem lf_lay3_0s2 (x1 x2 x3 : Int32) (hh : HI HT h) (hj : JT h) (hR : RJ h) (a1 : 3 ≤ x1.toInt ∧ x1.toInt ≤ 3) (a2 : 2 ≤ x2.toInt ∧ x2.toInt ≤ 2) (a3 : 1 ≤ x3.toInt ∧ x3.toInt ≤ 1) (b102_2 : 0 ≤ (ri h 102 2).toInt ∧ (ri h 102 2).toInt ≤ 2) : ∃ (r1 r2 : Int32) (h1 h2 : List pC), Run prog E pV1 120 mX7_lay [.ref 0, .int x1, .int x2, .int x3] h (some (.int r1), h1, 0, 0) ∧ Run prog E pV1 120 mX8_lay [.ref 110, .int x1, .int x2, .int x3] h1 (some (.int r2), h2, 0, 0) ∧ (∃ o, pobj h1 110 = some o ∧ o.1 = 8) ∧ HI HT h2 ∧ JT h2 ∧ RJ h2 := by
  obtain ⟨r, h1, h2, q1, q2, q3, p1, p2, p3, p4⟩ := pr_ok3 (E := E) (x1 := x1) (x2 := x2) (x3 := x3) cp_lay3_0s2 rfl rfl (List.cons_ne_nil _ _) (List.cons_ne_nil _ _) (fun _ h => absurd h List.not_mem_nil) hh hj hR.1 hR.2.1 ⟨a1, a2, a3, trivial⟩ (pBd.cs b102_2.1 b102_2.2 (pBd.cs (ty_84_1 hh hR).1 (ty_84_1 hh hR).2 (pBd.cs (ty_84_2 hh hR).1 (ty_84_2 hh hR).2 pBd.nl))) (fun e he => by cases he)
  exact ⟨r, r, h1, h2, q1, q2, q3, p1, p2, p3.1, p3.2, xj_fr hR.2.2 p4 (by decide +kernel)⟩
theorem lf_lay3_0s3 (x1 x2 x3 : Int32) (hh : HI HT h) (hj : JT h) (hR : RJ h) (a1 : 3 ≤ x1.toInt ∧ x1.toInt ≤ 3) (a2 : 2 ≤ x2.toInt ∧ x2.toInt ≤ 2) (a3 : 2 ≤ x3.toInt ∧ x3.toInt ≤ 2) (b102_2 : 0 ≤ (ri h 102 2).toInt ∧ (ri h 102 2).toInt ≤ 2) : ∃ (r1 r2 : Int32) (h1 h2 : List pC), Run prog E pV1 120 mX7_lay [.ref 0, .int x1, .int x2, .int x3] h (some (.int r1), h1, 0, 0) ∧ Run prog E pV1 120 mX8_lay [.ref 110, .int x1, .int x2, .int x3] h1 (some (.int r2), h2, 0, 0) ∧ (∃ o, pobj h1 110 = some o ∧ o.1 = 8) ∧ HI HT h2 ∧ JT h2 ∧ RJ h2 := by
  obtain ⟨r, h1, h2, q1, q2, q3, p1, p2, p3, p4⟩ := pr_ok3 (E := E) (x1 := x1) (x2 := x2) (x3 := x3) cp_lay3_0s3 rfl rfl (List.cons_ne_nil _ _) (List.cons_ne_nil _ _) (fun _ h => absurd h List.not_mem_nil) hh hj hR.1 hR.2.1 ⟨a1, a2, a3, trivial⟩ (pBd.cs b102_2.1 b102_2.2 (pBd.cs (ty_86_1 hh hR).1 (ty_86_1 hh hR).2 (pBd.cs (ty_86_2 hh hR).1 (ty_86_2 hh hR).2 pBd.nl))) (fun e he => by cases he)
  exact ⟨r, r, h1, h2, q1, q2, q3, p1, p2, p3.1, p3.2, xj_fr hR.2.2 p4 (by decide +kernel)⟩
theorem lf_lay3_0s4 (x1 x2 x3 : Int32) (hh : HI HT h) (hj : JT h) (hR : RJ h) (a1 : 3 ≤ x1.toInt ∧ x1.toInt ≤ 3) (a2 : 2 ≤ x2.toInt ∧ x2.toInt ≤ 2) (a3 : 3 ≤ x3.toInt ∧ x3.toInt ≤ 3) (b102_2 : 0 ≤ (ri h 102 2).toInt ∧ (ri h 102 2).toInt ≤ 2) : ∃ (r1 r2 : Int32) (h1 h2 : List pC), Run prog E pV1 120 mX7_lay [.ref 0, .int x1, .int x2, .int x3] h (some (.int r1), h1, 0, 0) ∧ Run prog E pV1 120 mX8_lay [.ref 110, .int x1, .int x2, .int x3] h1 (some (.int r2), h2, 0, 0) ∧ (∃ o, pobj h1 110 = some o ∧ o.1 = 8) ∧ HI HT h2 ∧ JT h2 ∧ RJ h2 := by
  obtain ⟨r, h1, h2, q1, q2, q3, p1, p2, p3, p4⟩ := pr_ok3 (E := E) (x1 := x1) (x2 := x2) (x3 := x3) cp_lay3_0s4 rfl rfl (List.cons_ne_nil _ _) (List.cons_ne_nil _ _) (fun _ h => absurd h List.not_mem_nil) hh hj hR.1 hR.2.1 ⟨a1, a2, a3, trivial⟩ (pBd.cs b102_2.1 b102_2.2 (pBd.cs (ty_88_1 hh hR).1 (ty_88_1 hh hR).2 (pBd.cs (ty_88_2 hh hR).1 (ty_88_2 hh hR).2 pBd.nl))) (fun e he => by cases he)
  exact ⟨r, r, h1, h2, q1, q2, q3, p1, p2, p3.1, p3.2, xj_fr hR.2.2 p4 (by decide +kernel)⟩
theorem lf_lay3_0s5 (x1 x2 x3 : Int32) (hh : HI HT h) (hj : JT h) (hR : RJ h) (a1 : 3 ≤ x1.toInt ∧ x1.toInt ≤ 3) (a2 : 2 ≤ x2.toInt ∧ x2.toInt ≤ 2) (a3 : 4 ≤ x3.toInt ∧ x3.toInt ≤ 2147483647) (b102_2 : 0 ≤ (ri h 102 2).toInt ∧ (ri h 102 2).toInt ≤ 2) : ∃ (r1 r2 : Int32) (h1 h2 : List pC), Run prog E pV1 120 mX7_lay [.ref 0, .int x1, .int x2, .int x3] h (some (.int r1), h1, 0, 0) ∧ Run prog E pV1 120 mX8_lay [.ref 110, .int x1, .int x2, .int x3] h1 (some (.int r2), h2, 0, 0) ∧ (∃ o, pobj h1 110 = some o ∧ o.1 = 8) ∧ HI HT h2 ∧ JT h2 ∧ RJ h2 := by
  obtain ⟨r, h1, h2, q1, q2, q3, p1, p2, p3, p4⟩ := pr_ok3 (E := E) (x1 := x1) (x2 := x2) (x3 := x3) cp_lay3_0s5 rfl rfl (List.cons_ne_nil _ _) (List.cons_ne_nil _ _) (fun _ h => absurd h List.not_mem_nil) hh hj hR.1 hR.2.1 ⟨a1, a2, a3, trivial⟩ (pBd.cs b102_2.1 b102_2.2 pBd.nl) (fun e he => by cases he)
  exact ⟨r, r, h1, h2, q1, q2, q3, p1, p2, p3.1, p3.2, xj_fr hR.2.2 p4 (by decide +kernel)⟩
theorem lf_lay3_3_0 (x1 x2 x3 : Int32) (hh : HI HT h) (hj : JT h) (hR : RJ h) (a1 : 3 ≤ x1.toInt ∧ x1.toInt ≤ 3) (a2 : (-2147483648) ≤ x2.toInt ∧ x2.toInt ≤ (-1)) (b102_2 : 3 ≤ (ri h 102 2).toInt ∧ (ri h 102 2).toInt ≤ 3) : ∃ (r1 r2 : Int32) (h1 h2 : List pC), Run prog E pV1 120 mX7_lay [.ref 0, .int x1, .int x2, .int x3] h (some (.int r1), h1, 0, 0) ∧ Run prog E pV1 120 mX8_lay [.ref 110, .int x1, .int x2, .int x3] h1 (some (.int r2), h2, 0, 0) ∧ (∃ o, pobj h1 110 = some o ∧ o.1 = 8) ∧ HI HT h2 ∧ JT h2 ∧ RJ h2 := by
  obtain ⟨r, h1, h2, q1, q2, q3, p1, p2, p3, p4⟩ := pr_ok3 (E := E) (x1 := x1) (x2 := x2) (x3 := x3) cp_lay3_3_0 rfl rfl (List.cons_ne_nil _ _) (List.cons_ne_nil _ _) (fun _ h => absurd h List.not_mem_nil) hh hj hR.1 hR.2.1 ⟨a1, a2, i32_b x3, trivial⟩ (pBd.cs b102_2.1 b102_2.2 (pBd.cs (i32_b (ri h 102 3)).1 (i32_b (ri h 102 3)).2 pBd.nl)) (fun e he => by cases he)
  exact ⟨r, r, h1, h2, q1, q2, q3, p1, p2, p3.1, p3.2, xj_fr hR.2.2 p4 (by decide +kernel)⟩
theorem lf_lay3_3_1 (x1 x2 x3 : Int32) (hh : HI HT h) (hj : JT h) (hR : RJ h) (a1 : 3 ≤ x1.toInt ∧ x1.toInt ≤ 3) (a2 : 0 ≤ x2.toInt ∧ x2.toInt ≤ 0) (b102_2 : 3 ≤ (ri h 102 2).toInt ∧ (ri h 102 2).toInt ≤ 3) : ∃ (r1 r2 : Int32) (h1 h2 : List pC), Run prog E pV1 120 mX7_lay [.ref 0, .int x1, .int x2, .int x3] h (some (.int r1), h1, 0, 0) ∧ Run prog E pV1 120 mX8_lay [.ref 110, .int x1, .int x2, .int x3] h1 (some (.int r2), h2, 0, 0) ∧ (∃ o, pobj h1 110 = some o ∧ o.1 = 8) ∧ HI HT h2 ∧ JT h2 ∧ RJ h2 := by
  obtain ⟨r, h1, h2, q1, q2, q3, p1, p2, p3, p4⟩ := pr_ok3 (E := E) (x1 := x1) (x2 := x2) (x3 := x3) cp_lay3_3_1 rfl rfl (List.cons_ne_nil _ _) (List.cons_ne_nil _ _) (fun _ h => absurd h List.not_mem_nil) hh hj hR.1 hR.2.1 ⟨a1, a2, i32_b x3, trivial⟩ (pBd.cs b102_2.1 b102_2.2 (pBd.cs (i32_b (ri h 102 3)).1 (i32_b (ri h 102 3)).2 pBd.nl)) (fun e he => by cases he)
  exact ⟨r, r, h1, h2, q1, q2, q3, p1, p2, p3.1, p3.2, xj_fr hR.2.2 p4 (by decide +kernel)⟩
theorem lf_lay3_3_2 (x1 x2 x3 : Int32) (hh : HI HT h) (hj : JT h) (hR : RJ h) (a1 : 3 ≤ x1.toInt ∧ x1.toInt ≤ 3) (a2 : 1 ≤ x2.toInt ∧ x2.toInt ≤ 1) (b102_2 : 3 ≤ (ri h 102 2).toInt ∧ (ri h 102 2).toInt ≤ 3) : ∃ (r1 r2 : Int32) (h1 h2 : List pC), Run prog E pV1 120 mX7_lay [.ref 0, .int x1, .int x2, .int x3] h (some (.int r1), h1, 0, 0) ∧ Run prog E pV1 120 mX8_lay [.ref 110, .int x1, .int x2, .int x3] h1 (some (.int r2), h2, 0, 0) ∧ (∃ o, pobj h1 110 = some o ∧ o.1 = 8) ∧ HI HT h2 ∧ JT h2 ∧ RJ h2 := by
  obtain ⟨r, h1, h2, q1, q2, q3, p1, p2, p3, p4⟩ := pr_ok3 (E := E) (x1 := x1) (x2 := x2) (x3 := x3) cp_lay3_3_2 rfl rfl (List.cons_ne_nil _ _) (List.cons_ne_nil _ _) (List.forall_mem_cons.mpr ⟨kg_m_worth JT_P hands, (fun _ h => absurd h List.not_mem_nil)⟩) hh hj hR.1 hR.2.1 ⟨a1, a2, i32_b x3, trivial⟩ (pBd.cs (ty_34_5 hh hR).1 (ty_34_5 hh hR).2 (pBd.cs b102_2.1 b102_2.2 (pBd.cs (i32_b (ri h 102 3)).1 (i32_b (ri h 102 3)).2 pBd.nl))) (fun e he => by cases he)
  exact ⟨r, r, h1, h2, q1, q2, q3, p1, p2, p3.1, p3.2, xj_fr hR.2.2 p4 (by decide +kernel)⟩
theorem lf_lay3_3_3 (x1 x2 x3 : Int32) (hh : HI HT h) (hj : JT h) (hR : RJ h) (a1 : 3 ≤ x1.toInt ∧ x1.toInt ≤ 3) (a2 : 3 ≤ x2.toInt ∧ x2.toInt ≤ 3) (b102_2 : 3 ≤ (ri h 102 2).toInt ∧ (ri h 102 2).toInt ≤ 3) : ∃ (r1 r2 : Int32) (h1 h2 : List pC), Run prog E pV1 120 mX7_lay [.ref 0, .int x1, .int x2, .int x3] h (some (.int r1), h1, 0, 0) ∧ Run prog E pV1 120 mX8_lay [.ref 110, .int x1, .int x2, .int x3] h1 (some (.int r2), h2, 0, 0) ∧ (∃ o, pobj h1 110 = some o ∧ o.1 = 8) ∧ HI HT h2 ∧ JT h2 ∧ RJ h2 := by
  obtain ⟨r, h1, h2, q1, q2, q3, p1, p2, p3, p4⟩ := pr_ok3 (E := E) (x1 := x1) (x2 := x2) (x3 := x3) cp_lay3_3_3 rfl rfl (List.cons_ne_nil _ _) (List.cons_ne_nil _ _) (fun _ h => absurd h List.not_mem_nil) hh hj hR.1 hR.2.1 ⟨a1, a2, i32_b x3, trivial⟩ (pBd.cs b102_2.1 b102_2.2 (pBd.cs (i32_b (ri h 102 3)).1 (i32_b (ri h 102 3)).2 pBd.nl)) (fun e he => by cases he)
  exact ⟨r, r, h1, h2, q1, q2, q3, p1, p2, p3.1, p3.2, xj_fr hR.2.2 p4 (by decide +kernel)⟩
theorem lf_lay3_3_4 (x1 x2 x3 : Int32) (hh : HI HT h) (hj : JT h) (hR : RJ h) (a1 : 3 ≤ x1.toInt ∧ x1.toInt ≤ 3) (a2 : 4 ≤ x2.toInt ∧ x2.toInt ≤ 2147483647) (b102_2 : 3 ≤ (ri h 102 2).toInt ∧ (ri h 102 2).toInt ≤ 3) : ∃ (r1 r2 : Int32) (h1 h2 : List pC), Run prog E pV1 120 mX7_lay [.ref 0, .int x1, .int x2, .int x3] h (some (.int r1), h1, 0, 0) ∧ Run prog E pV1 120 mX8_lay [.ref 110, .int x1, .int x2, .int x3] h1 (some (.int r2), h2, 0, 0) ∧ (∃ o, pobj h1 110 = some o ∧ o.1 = 8) ∧ HI HT h2 ∧ JT h2 ∧ RJ h2 := by
  obtain ⟨r, h1, h2, q1, q2, q3, p1, p2, p3, p4⟩ := pr_ok3 (E := E) (x1 := x1) (x2 := x2) (x3 := x3) cp_lay3_3_4 rfl rfl (List.cons_ne_nil _ _) (List.cons_ne_nil _ _) (fun _ h => absurd h List.not_mem_nil) hh hj hR.1 hR.2.1 ⟨a1, a2, i32_b x3, trivial⟩ (pBd.cs b102_2.1 b102_2.2 (pBd.cs (i32_b (ri h 102 3)).1 (i32_b (ri h 102 3)).2 pBd.nl)) (fun e he => by cases he)
  exact ⟨r, r, h1, h2, q1, q2, q3, p1, p2, p3.1, p3.2, xj_fr hR.2.2 p4 (by decide +kernel)⟩
theorem lf_lay3_3s0 (x1 x2 x3 : Int32) (hh : HI HT h) (hj : JT h) (hR : RJ h) (a1 : 3 ≤ x1.toInt ∧ x1.toInt ≤ 3) (a2 : 2 ≤ x2.toInt ∧ x2.toInt ≤ 2) (a3 : (-2147483648) ≤ x3.toInt ∧ x3.toInt ≤ (-1)) (b102_2 : 3 ≤ (ri h 102 2).toInt ∧ (ri h 102 2).toInt ≤ 3) : ∃ (r1 r2 : Int32) (h1 h2 : List pC), Run prog E pV1 120 mX7_lay [.ref 0, .int x1, .int x2, .int x3] h (some (.int r1), h1, 0, 0) ∧ Run prog E pV1 120 mX8_lay [.ref 110, .int x1, .int x2, .int x3] h1 (some (.int r2), h2, 0, 0) ∧ (∃ o, pobj h1 110 = some o ∧ o.1 = 8) ∧ HI HT h2 ∧ JT h2 ∧ RJ h2 := by
  obtain ⟨r, h1, h2, q1, q2, q3, p1, p2, p3, p4⟩ := pr_ok3 (E := E) (x1 := x1) (x2 := x2) (x3 := x3) cp_lay3_3s0 rfl rfl (List.cons_ne_nil _ _) (List.cons_ne_nil _ _) (fun _ h => absurd h List.not_mem_nil) hh hj hR.1 hR.2.1 ⟨a1, a2, a3, trivial⟩ (pBd.cs b102_2.1 b102_2.2 (pBd.cs (i32_b (ri h 102 3)).1 (i32_b (ri h 102 3)).2 pBd.nl)) (fun e he => by cases he)
  exact ⟨r, r, h1, h2, q1, q2, q3, p1, p2, p3.1, p3.2, xj_fr hR.2.2 p4 (by decide +kernel)⟩
theorem lf_lay3_3s1 (x1 x2 x3 : Int32) (hh : HI HT h) (hj : JT h) (hR : RJ h) (a1 : 3 ≤ x1.toInt ∧ x1.toInt ≤ 3) (a2 : 2 ≤ x2.toInt ∧ x2.toInt ≤ 2) (a3 : 0 ≤ x3.toInt ∧ x3.toInt ≤ 0) (b102_2 : 3 ≤ (ri h 102 2).toInt ∧ (ri h 102 2).toInt ≤ 3) : ∃ (r1 r2 : Int32) (h1 h2 : List pC), Run prog E pV1 120 mX7_lay [.ref 0, .int x1, .int x2, .int x3] h (some (.int r1), h1, 0, 0) ∧ Run prog E pV1 120 mX8_lay [.ref 110, .int x1, .int x2, .int x3] h1 (some (.int r2), h2, 0, 0) ∧ (∃ o, pobj h1 110 = some o ∧ o.1 = 8) ∧ HI HT h2 ∧ JT h2 ∧ RJ h2 := by
  obtain ⟨r, h1, h2, q1, q2, q3, p1, p2, p3, p4⟩ := pr_ok3 (E := E) (x1 := x1) (x2 := x2) (x3 := x3) cp_lay3_3s1 rfl rfl (List.cons_ne_nil _ _) (List.cons_ne_nil _ _) (fun _ h => absurd h List.not_mem_nil) hh hj hR.1 hR.2.1 ⟨a1, a2, a3, trivial⟩ (pBd.cs b102_2.1 b102_2.2 (pBd.cs (i32_b (ri h 102 3)).1 (i32_b (ri h 102 3)).2 (pBd.cs (ty_82_1 hh hR).1 (ty_82_1 hh hR).2 (pBd.cs (ty_82_2 hh hR).1 (ty_82_2 hh hR).2 pBd.nl)))) (fun e he => by cases he)
  exact ⟨r, r, h1, h2, q1, q2, q3, p1, p2, p3.1, p3.2, xj_fr hR.2.2 p4 (by decide +kernel)⟩
theorem lf_lay3_3s2 (x1 x2 x3 : Int32) (hh : HI HT h) (hj : JT h) (hR : RJ h) (a1 : 3 ≤ x1.toInt ∧ x1.toInt ≤ 3) (a2 : 2 ≤ x2.toInt ∧ x2.toInt ≤ 2) (a3 : 1 ≤ x3.toInt ∧ x3.toInt ≤ 1) (b102_2 : 3 ≤ (ri h 102 2).toInt ∧ (ri h 102 2).toInt ≤ 3) : ∃ (r1 r2 : Int32) (h1 h2 : List pC), Run prog E pV1 120 mX7_lay [.ref 0, .int x1, .int x2, .int x3] h (some (.int r1), h1, 0, 0) ∧ Run prog E pV1 120 mX8_lay [.ref 110, .int x1, .int x2, .int x3] h1 (some (.int r2), h2, 0, 0) ∧ (∃ o, pobj h1 110 = some o ∧ o.1 = 8) ∧ HI HT h2 ∧ JT h2 ∧ RJ h2 := by
  obtain ⟨r, h1, h2, q1, q2, q3, p1, p2, p3, p4⟩ := pr_ok3 (E := E) (x1 := x1) (x2 := x2) (x3 := x3) cp_lay3_3s2 rfl rfl (List.cons_ne_nil _ _) (List.cons_ne_nil _ _) (fun _ h => absurd h List.not_mem_nil) hh hj hR.1 hR.2.1 ⟨a1, a2, a3, trivial⟩ (pBd.cs b102_2.1 b102_2.2 (pBd.cs (i32_b (ri h 102 3)).1 (i32_b (ri h 102 3)).2 (pBd.cs (ty_84_1 hh hR).1 (ty_84_1 hh hR).2 (pBd.cs (ty_84_2 hh hR).1 (ty_84_2 hh hR).2 pBd.nl)))) (fun e he => by cases he)
  exact ⟨r, r, h1, h2, q1, q2, q3, p1, p2, p3.1, p3.2, xj_fr hR.2.2 p4 (by decide +kernel)⟩
theorem lf_lay3_3s3 (x1 x2 x3 : Int32) (hh : HI HT h) (hj : JT h) (hR : RJ h) (a1 : 3 ≤ x1.toInt ∧ x1.toInt ≤ 3) (a2 : 2 ≤ x2.toInt ∧ x2.toInt ≤ 2) (a3 : 2 ≤ x3.toInt ∧ x3.toInt ≤ 2) (b102_2 : 3 ≤ (ri h 102 2).toInt ∧ (ri h 102 2).toInt ≤ 3) : ∃ (r1 r2 : Int32) (h1 h2 : List pC), Run prog E pV1 120 mX7_lay [.ref 0, .int x1, .int x2, .int x3] h (some (.int r1), h1, 0, 0) ∧ Run prog E pV1 120 mX8_lay [.ref 110, .int x1, .int x2, .int x3] h1 (some (.int r2), h2, 0, 0) ∧ (∃ o, pobj h1 110 = some o ∧ o.1 = 8) ∧ HI HT h2 ∧ JT h2 ∧ RJ h2 := by
  obtain ⟨r, h1, h2, q1, q2, q3, p1, p2, p3, p4⟩ := pr_ok3 (E := E) (x1 := x1) (x2 := x2) (x3 := x3) cp_lay3_3s3 rfl rfl (List.cons_ne_nil _ _) (List.cons_ne_nil _ _) (fun _ h => absurd h List.not_mem_nil) hh hj hR.1 hR.2.1 ⟨a1, a2, a3, trivial⟩ (pBd.cs b102_2.1 b102_2.2 (pBd.cs (i32_b (ri h 102 3)).1 (i32_b (ri h 102 3)).2 (pBd.cs (ty_86_1 hh hR).1 (ty_86_1 hh hR).2 (pBd.cs (ty_86_2 hh hR).1 (ty_86_2 hh hR).2 pBd.nl)))) (fun e he => by cases he)
  exact ⟨r, r, h1, h2, q1, q2, q3, p1, p2, p3.1, p3.2, xj_fr hR.2.2 p4 (by decide +kernel)⟩
theorem lf_lay3_3s4 (x1 x2 x3 : Int32) (hh : HI HT h) (hj : JT h) (hR : RJ h) (a1 : 3 ≤ x1.toInt ∧ x1.toInt ≤ 3) (a2 : 2 ≤ x2.toInt ∧ x2.toInt ≤ 2) (a3 : 3 ≤ x3.toInt ∧ x3.toInt ≤ 3) (b102_2 : 3 ≤ (ri h 102 2).toInt ∧ (ri h 102 2).toInt ≤ 3) : ∃ (r1 r2 : Int32) (h1 h2 : List pC), Run prog E pV1 120 mX7_lay [.ref 0, .int x1, .int x2, .int x3] h (some (.int r1), h1, 0, 0) ∧ Run prog E pV1 120 mX8_lay [.ref 110, .int x1, .int x2, .int x3] h1 (some (.int r2), h2, 0, 0) ∧ (∃ o, pobj h1 110 = some o ∧ o.1 = 8) ∧ HI HT h2 ∧ JT h2 ∧ RJ h2 := by
  obtain ⟨r, h1, h2, q1, q2, q3, p1, p2, p3, p4⟩ := pr_ok3 (E := E) (x1 := x1) (x2 := x2) (x3 := x3) cp_lay3_3s4 rfl rfl (List.cons_ne_nil _ _) (List.cons_ne_nil _ _) (fun _ h => absurd h List.not_mem_nil) hh hj hR.1 hR.2.1 ⟨a1, a2, a3, trivial⟩ (pBd.cs b102_2.1 b102_2.2 (pBd.cs (i32_b (ri h 102 3)).1 (i32_b (ri h 102 3)).2 (pBd.cs (ty_88_1 hh hR).1 (ty_88_1 hh hR).2 (pBd.cs (ty_88_2 hh hR).1 (ty_88_2 hh hR).2 pBd.nl)))) (fun e he => by cases he)
  exact ⟨r, r, h1, h2, q1, q2, q3, p1, p2, p3.1, p3.2, xj_fr hR.2.2 p4 (by decide +kernel)⟩
theorem lf_lay3_3s5 (x1 x2 x3 : Int32) (hh : HI HT h) (hj : JT h) (hR : RJ h) (a1 : 3 ≤ x1.toInt ∧ x1.toInt ≤ 3) (a2 : 2 ≤ x2.toInt ∧ x2.toInt ≤ 2) (a3 : 4 ≤ x3.toInt ∧ x3.toInt ≤ 2147483647) (b102_2 : 3 ≤ (ri h 102 2).toInt ∧ (ri h 102 2).toInt ≤ 3) : ∃ (r1 r2 : Int32) (h1 h2 : List pC), Run prog E pV1 120 mX7_lay [.ref 0, .int x1, .int x2, .int x3] h (some (.int r1), h1, 0, 0) ∧ Run prog E pV1 120 mX8_lay [.ref 110, .int x1, .int x2, .int x3] h1 (some (.int r2), h2, 0, 0) ∧ (∃ o, pobj h1 110 = some o ∧ o.1 = 8) ∧ HI HT h2 ∧ JT h2 ∧ RJ h2 := by
  obtain ⟨r, h1, h2, q1, q2, q3, p1, p2, p3, p4⟩ := pr_ok3 (E := E) (x1 := x1) (x2 := x2) (x3 := x3) cp_lay3_3s5 rfl rfl (List.cons_ne_nil _ _) (List.cons_ne_nil _ _) (fun _ h => absurd h List.not_mem_nil) hh hj hR.1 hR.2.1 ⟨a1, a2, a3, trivial⟩ (pBd.cs b102_2.1 b102_2.2 (pBd.cs (i32_b (ri h 102 3)).1 (i32_b (ri h 102 3)).2 pBd.nl)) (fun e he => by cases he)
  exact ⟨r, r, h1, h2, q1, q2, q3, p1, p2, p3.1, p3.2, xj_fr hR.2.2 p4 (by decide +kernel)⟩
theorem lf_lay4_0_0 (x1 x2 x3 : Int32) (hh : HI HT h) (hj : JT h) (hR : RJ h) (a1 : 4 ≤ x1.toInt ∧ x1.toInt ≤ 4) (a2 : (-2147483648) ≤ x2.toInt ∧ x2.toInt ≤ (-1)) (b106_2 : 0 ≤ (ri h 106 2).toInt ∧ (ri h 106 2).toInt ≤ 2) : ∃ (r1 r2 : Int32) (h1 h2 : List pC), Run prog E pV1 120 mX7_lay [.ref 0, .int x1, .int x2, .int x3] h (some (.int r1), h1, 0, 0) ∧ Run prog E pV1 120 mX8_lay [.ref 110, .int x1, .int x2, .int x3] h1 (some (.int r2), h2, 0, 0) ∧ (∃ o, pobj h1 110 = some o ∧ o.1 = 8) ∧ HI HT h2 ∧ JT h2 ∧ RJ h2 := by
  obtain ⟨r, h1, h2, q1, q2, q3, p1, p2, p3, p4⟩ := pr_ok3 (E := E) (x1 := x1) (x2 := x2) (x3 := x3) cp_lay4_0_0 rfl rfl (List.cons_ne_nil _ _) (List.cons_ne_nil _ _) (fun _ h => absurd h List.not_mem_nil) hh hj hR.1 hR.2.1 ⟨a1, a2, i32_b x3, trivial⟩ (pBd.cs b106_2.1 b106_2.2 pBd.nl) (fun e he => by cases he)
  exact ⟨r, r, h1, h2, q1, q2, q3, p1, p2, p3.1, p3.2, xj_fr hR.2.2 p4 (by decide +kernel)⟩
theorem lf_lay4_0_1 (x1 x2 x3 : Int32) (hh : HI HT h) (hj : JT h) (hR : RJ h) (a1 : 4 ≤ x1.toInt ∧ x1.toInt ≤ 4) (a2 : 0 ≤ x2.toInt ∧ x2.toInt ≤ 0) (b106_2 : 0 ≤ (ri h 106 2).toInt ∧ (ri h 106 2).toInt ≤ 2) : ∃ (r1 r2 : Int32) (h1 h2 : List pC), Run prog E pV1 120 mX7_lay [.ref 0, .int x1, .int x2, .int x3] h (some (.int r1), h1, 0, 0) ∧ Run prog E pV1 120 mX8_lay [.ref 110, .int x1, .int x2, .int x3] h1 (some (.int r2), h2, 0, 0) ∧ (∃ o, pobj h1 110 = some o ∧ o.1 = 8) ∧ HI HT h2 ∧ JT h2 ∧ RJ h2 := by
  obtain ⟨r, h1, h2, q1, q2, q3, p1, p2, p3, p4⟩ := pr_ok3 (E := E) (x1 := x1) (x2 := x2) (x3 := x3) cp_lay4_0_1 rfl rfl (List.cons_ne_nil _ _) (List.cons_ne_nil _ _) (fun _ h => absurd h List.not_mem_nil) hh hj hR.1 hR.2.1 ⟨a1, a2, i32_b x3, trivial⟩ (pBd.cs b106_2.1 b106_2.2 pBd.nl) (fun e he => by cases he)
  exact ⟨r, r, h1, h2, q1, q2, q3, p1, p2, p3.1, p3.2, xj_fr hR.2.2 p4 (by decide +kernel)⟩
theorem lf_lay4_0_2 (x1 x2 x3 : Int32) (hh : HI HT h) (hj : JT h) (hR : RJ h) (a1 : 4 ≤ x1.toInt ∧ x1.toInt ≤ 4) (a2 : 1 ≤ x2.toInt ∧ x2.toInt ≤ 1) (b106_2 : 0 ≤ (ri h 106 2).toInt ∧ (ri h 106 2).toInt ≤ 2) : ∃ (r1 r2 : Int32) (h1 h2 : List pC), Run prog E pV1 120 mX7_lay [.ref 0, .int x1, .int x2, .int x3] h (some (.int r1), h1, 0, 0) ∧ Run prog E pV1 120 mX8_lay [.ref 110, .int x1, .int x2, .int x3] h1 (some (.int r2), h2, 0, 0) ∧ (∃ o, pobj h1 110 = some o ∧ o.1 = 8) ∧ HI HT h2 ∧ JT h2 ∧ RJ h2 := by
  obtain ⟨r, h1, h2, q1, q2, q3, p1, p2, p3, p4⟩ := pr_ok3 (E := E) (x1 := x1) (x2 := x2) (x3 := x3) cp_lay4_0_2 rfl rfl (List.cons_ne_nil _ _) (List.cons_ne_nil _ _) (List.forall_mem_cons.mpr ⟨kg_m_worth JT_P hands, (fun _ h => absurd h List.not_mem_nil)⟩) hh hj hR.1 hR.2.1 ⟨a1, a2, i32_b x3, trivial⟩ (pBd.cs (ty_34_5 hh hR).1 (ty_34_5 hh hR).2 (pBd.cs b106_2.1 b106_2.2 pBd.nl)) (fun e he => by cases he)
  exact ⟨r, r, h1, h2, q1, q2, q3, p1, p2, p3.1, p3.2, xj_fr hR.2.2 p4 (by decide +kernel)⟩
theorem lf_lay4_0_3 (x1 x2 x3 : Int32) (hh : HI HT h) (hj : JT h) (hR : RJ h) (a1 : 4 ≤ x1.toInt ∧ x1.toInt ≤ 4) (a2 : 3 ≤ x2.toInt ∧ x2.toInt ≤ 3) (b106_2 : 0 ≤ (ri h 106 2).toInt ∧ (ri h 106 2).toInt ≤ 2) : ∃ (r1 r2 : Int32) (h1 h2 : List pC), Run prog E pV1 120 mX7_lay [.ref 0, .int x1, .int x2, .int x3] h (some (.int r1), h1, 0, 0) ∧ Run prog E pV1 120 mX8_lay [.ref 110, .int x1, .int x2, .int x3] h1 (some (.int r2), h2, 0, 0) ∧ (∃ o, pobj h1 110 = some o ∧ o.1 = 8) ∧ HI HT h2 ∧ JT h2 ∧ RJ h2 := by
  obtain ⟨r, h1, h2, q1, q2, q3, p1, p2, p3, p4⟩ := pr_ok3 (E := E) (x1 := x1) (x2 := x2) (x3 := x3) cp_lay4_0_3 rfl rfl (List.cons_ne_nil _ _) (List.cons_ne_nil _ _) (fun _ h => absurd h List.not_mem_nil) hh hj hR.1 hR.2.1 ⟨a1, a2, i32_b x3, trivial⟩ (pBd.cs b106_2.1 b106_2.2 pBd.nl) (fun e he => by cases he)
  exact ⟨r, r, h1, h2, q1, q2, q3, p1, p2, p3.1, p3.2, xj_fr hR.2.2 p4 (by decide +kernel)⟩
theorem lf_lay4_0_4 (x1 x2 x3 : Int32) (hh : HI HT h) (hj : JT h) (hR : RJ h) (a1 : 4 ≤ x1.toInt ∧ x1.toInt ≤ 4) (a2 : 4 ≤ x2.toInt ∧ x2.toInt ≤ 2147483647) (b106_2 : 0 ≤ (ri h 106 2).toInt ∧ (ri h 106 2).toInt ≤ 2) : ∃ (r1 r2 : Int32) (h1 h2 : List pC), Run prog E pV1 120 mX7_lay [.ref 0, .int x1, .int x2, .int x3] h (some (.int r1), h1, 0, 0) ∧ Run prog E pV1 120 mX8_lay [.ref 110, .int x1, .int x2, .int x3] h1 (some (.int r2), h2, 0, 0) ∧ (∃ o, pobj h1 110 = some o ∧ o.1 = 8) ∧ HI HT h2 ∧ JT h2 ∧ RJ h2 := by
  obtain ⟨r, h1, h2, q1, q2, q3, p1, p2, p3, p4⟩ := pr_ok3 (E := E) (x1 := x1) (x2 := x2) (x3 := x3) cp_lay4_0_4 rfl rfl (List.cons_ne_nil _ _) (List.cons_ne_nil _ _) (fun _ h => absurd h List.not_mem_nil) hh hj hR.1 hR.2.1 ⟨a1, a2, i32_b x3, trivial⟩ (pBd.cs b106_2.1 b106_2.2 pBd.nl) (fun e he => by cases he)
  exact ⟨r, r, h1, h2, q1, q2, q3, p1, p2, p3.1, p3.2, xj_fr hR.2.2 p4 (by decide +kernel)⟩
theorem lf_lay4_0s0 (x1 x2 x3 : Int32) (hh : HI HT h) (hj : JT h) (hR : RJ h) (a1 : 4 ≤ x1.toInt ∧ x1.toInt ≤ 4) (a2 : 2 ≤ x2.toInt ∧ x2.toInt ≤ 2) (a3 : (-2147483648) ≤ x3.toInt ∧ x3.toInt ≤ (-1)) (b106_2 : 0 ≤ (ri h 106 2).toInt ∧ (ri h 106 2).toInt ≤ 2) : ∃ (r1 r2 : Int32) (h1 h2 : List pC), Run prog E pV1 120 mX7_lay [.ref 0, .int x1, .int x2, .int x3] h (some (.int r1), h1, 0, 0) ∧ Run prog E pV1 120 mX8_lay [.ref 110, .int x1, .int x2, .int x3] h1 (some (.int r2), h2, 0, 0) ∧ (∃ o, pobj h1 110 = some o ∧ o.1 = 8) ∧ HI HT h2 ∧ JT h2 ∧ RJ h2 := by
  obtain ⟨r, h1, h2, q1, q2, q3, p1, p2, p3, p4⟩ := pr_ok3 (E := E) (x1 := x1) (x2 := x2) (x3 := x3) cp_lay4_0s0 rfl rfl (List.cons_ne_nil _ _) (List.cons_ne_nil _ _) (fun _ h => absurd h List.not_mem_nil) hh hj hR.1 hR.2.1 ⟨a1, a2, a3, trivial⟩ (pBd.cs b106_2.1 b106_2.2 pBd.nl) (fun e he => by cases he)
  exact ⟨r, r, h1, h2, q1, q2, q3, p1, p2, p3.1, p3.2, xj_fr hR.2.2 p4 (by decide +kernel)⟩
theorem lf_lay4_0s1 (x1 x2 x3 : Int32) (hh : HI HT h) (hj : JT h) (hR : RJ h) (a1 : 4 ≤ x1.toInt ∧ x1.toInt ≤ 4) (a2 : 2 ≤ x2.toInt ∧ x2.toInt ≤ 2) (a3 : 0 ≤ x3.toInt ∧ x3.toInt ≤ 0) (b106_2 : 0 ≤ (ri h 106 2).toInt ∧ (ri h 106 2).toInt ≤ 2) : ∃ (r1 r2 : Int32) (h1 h2 : List pC), Run prog E pV1 120 mX7_lay [.ref 0, .int x1, .int x2, .int x3] h (some (.int r1), h1, 0, 0) ∧ Run prog E pV1 120 mX8_lay [.ref 110, .int x1, .int x2, .int x3] h1 (some (.int r2), h2, 0, 0) ∧ (∃ o, pobj h1 110 = some o ∧ o.1 = 8) ∧ HI HT h2 ∧ JT h2 ∧ RJ h2 := by
  obtain ⟨r, h1, h2, q1, q2, q3, p1, p2, p3, p4⟩ := pr_ok3 (E := E) (x1 := x1) (x2 := x2) (x3 := x3) cp_lay4_0s1 rfl rfl (List.cons_ne_nil _ _) (List.cons_ne_nil _ _) (fun _ h => absurd h List.not_mem_nil) hh hj hR.1 hR.2.1 ⟨a1, a2, a3, trivial⟩ (pBd.cs b106_2.1 b106_2.2 (pBd.cs (ty_82_1 hh hR).1 (ty_82_1 hh hR).2 (pBd.cs (ty_82_2 hh hR).1 (ty_82_2 hh hR).2 pBd.nl))) (fun e he => by cases he)
  exact ⟨r, r, h1, h2, q1, q2, q3, p1, p2, p3.1, p3.2, xj_fr hR.2.2 p4 (by decide +kernel)⟩
theorem lf_lay4_0s2 (x1 x2 x3 : Int32) (hh : HI HT h) (hj : JT h) (hR : RJ h) (a1 : 4 ≤ x1.toInt ∧ x1.toInt ≤ 4) (a2 : 2 ≤ x2.toInt ∧ x2.toInt ≤ 2) (a3 : 1 ≤ x3.toInt ∧ x3.toInt ≤ 1) (b106_2 : 0 ≤ (ri h 106 2).toInt ∧ (ri h 106 2).toInt ≤ 2) : ∃ (r1 r2 : Int32) (h1 h2 : List pC), Run prog E pV1 120 mX7_lay [.ref 0, .int x1, .int x2, .int x3] h (some (.int r1), h1, 0, 0) ∧ Run prog E pV1 120 mX8_lay [.ref 110, .int x1, .int x2, .int x3] h1 (some (.int r2), h2, 0, 0) ∧ (∃ o, pobj h1 110 = some o ∧ o.1 = 8) ∧ HI HT h2 ∧ JT h2 ∧ RJ h2 := by
  obtain ⟨r, h1, h2, q1, q2, q3, p1, p2, p3, p4⟩ := pr_ok3 (E := E) (x1 := x1) (x2 := x2) (x3 := x3) cp_lay4_0s2 rfl rfl (List.cons_ne_nil _ _) (List.cons_ne_nil _ _) (fun _ h => absurd h List.not_mem_nil) hh hj hR.1 hR.2.1 ⟨a1, a2, a3, trivial⟩ (pBd.cs b106_2.1 b106_2.2 (pBd.cs (ty_84_1 hh hR).1 (ty_84_1 hh hR).2 (pBd.cs (ty_84_2 hh hR).1 (ty_84_2 hh hR).2 pBd.nl))) (fun e he => by cases he)
  exact ⟨r, r, h1, h2, q1, q2, q3, p1, p2, p3.1, p3.2, xj_fr hR.2.2 p4 (by decide +kernel)⟩
theorem lf_lay4_0s3 (x1 x2 x3 : Int32) (hh : HI HT h) (hj : JT h) (hR : RJ h) (a1 : 4 ≤ x1.toInt ∧ x1.toInt ≤ 4) (a2 : 2 ≤ x2.toInt ∧ x2.toInt ≤ 2) (a3 : 2 ≤ x3.toInt ∧ x3.toInt ≤ 2) (b106_2 : 0 ≤ (ri h 106 2).toInt ∧ (ri h 106 2).toInt ≤ 2) : ∃ (r1 r2 : Int32) (h1 h2 : List pC), Run prog E pV1 120 mX7_lay [.ref 0, .int x1, .int x2, .int x3] h (some (.int r1), h1, 0, 0) ∧ Run prog E pV1 120 mX8_lay [.ref 110, .int x1, .int x2, .int x3] h1 (some (.int r2), h2, 0, 0) ∧ (∃ o, pobj h1 110 = some o ∧ o.1 = 8) ∧ HI HT h2 ∧ JT h2 ∧ RJ h2 := by
  obtain ⟨r, h1, h2, q1, q2, q3, p1, p2, p3, p4⟩ := pr_ok3 (E := E) (x1 := x1) (x2 := x2) (x3 := x3) cp_lay4_0s3 rfl rfl (List.cons_ne_nil _ _) (List.cons_ne_nil _ _) (fun _ h => absurd h List.not_mem_nil) hh hj hR.1 hR.2.1 ⟨a1, a2, a3, trivial⟩ (pBd.cs b106_2.1 b106_2.2 (pBd.cs (ty_86_1 hh hR).1 (ty_86_1 hh hR).2 (pBd.cs (ty_86_2 hh hR).1 (ty_86_2 hh hR).2 pBd.nl))) (fun e he => by cases he)
  exact ⟨r, r, h1, h2, q1, q2, q3, p1, p2, p3.1, p3.2, xj_fr hR.2.2 p4 (by decide +kernel)⟩
theorem lf_lay4_0s4 (x1 x2 x3 : Int32) (hh : HI HT h) (hj : JT h) (hR : RJ h) (a1 : 4 ≤ x1.toInt ∧ x1.toInt ≤ 4) (a2 : 2 ≤ x2.toInt ∧ x2.toInt ≤ 2) (a3 : 3 ≤ x3.toInt ∧ x3.toInt ≤ 3) (b106_2 : 0 ≤ (ri h 106 2).toInt ∧ (ri h 106 2).toInt ≤ 2) : ∃ (r1 r2 : Int32) (h1 h2 : List pC), Run prog E pV1 120 mX7_lay [.ref 0, .int x1, .int x2, .int x3] h (some (.int r1), h1, 0, 0) ∧ Run prog E pV1 120 mX8_lay [.ref 110, .int x1, .int x2, .int x3] h1 (some (.int r2), h2, 0, 0) ∧ (∃ o, pobj h1 110 = some o ∧ o.1 = 8) ∧ HI HT h2 ∧ JT h2 ∧ RJ h2 := by
  obtain ⟨r, h1, h2, q1, q2, q3, p1, p2, p3, p4⟩ := pr_ok3 (E := E) (x1 := x1) (x2 := x2) (x3 := x3) cp_lay4_0s4 rfl rfl (List.cons_ne_nil _ _) (List.cons_ne_nil _ _) (fun _ h => absurd h List.not_mem_nil) hh hj hR.1 hR.2.1 ⟨a1, a2, a3, trivial⟩ (pBd.cs b106_2.1 b106_2.2 (pBd.cs (ty_88_1 hh hR).1 (ty_88_1 hh hR).2 (pBd.cs (ty_88_2 hh hR).1 (ty_88_2 hh hR).2 pBd.nl))) (fun e he => by cases he)
  exact ⟨r, r, h1, h2, q1, q2, q3, p1, p2, p3.1, p3.2, xj_fr hR.2.2 p4 (by decide +kernel)⟩
theorem lf_lay4_0s5 (x1 x2 x3 : Int32) (hh : HI HT h) (hj : JT h) (hR : RJ h) (a1 : 4 ≤ x1.toInt ∧ x1.toInt ≤ 4) (a2 : 2 ≤ x2.toInt ∧ x2.toInt ≤ 2) (a3 : 4 ≤ x3.toInt ∧ x3.toInt ≤ 2147483647) (b106_2 : 0 ≤ (ri h 106 2).toInt ∧ (ri h 106 2).toInt ≤ 2) : ∃ (r1 r2 : Int32) (h1 h2 : List pC), Run prog E pV1 120 mX7_lay [.ref 0, .int x1, .int x2, .int x3] h (some (.int r1), h1, 0, 0) ∧ Run prog E pV1 120 mX8_lay [.ref 110, .int x1, .int x2, .int x3] h1 (some (.int r2), h2, 0, 0) ∧ (∃ o, pobj h1 110 = some o ∧ o.1 = 8) ∧ HI HT h2 ∧ JT h2 ∧ RJ h2 := by
  obtain ⟨r, h1, h2, q1, q2, q3, p1, p2, p3, p4⟩ := pr_ok3 (E := E) (x1 := x1) (x2 := x2) (x3 := x3) cp_lay4_0s5 rfl rfl (List.cons_ne_nil _ _) (List.cons_ne_nil _ _) (fun _ h => absurd h List.not_mem_nil) hh hj hR.1 hR.2.1 ⟨a1, a2, a3, trivial⟩ (pBd.cs b106_2.1 b106_2.2 pBd.nl) (fun e he => by cases he)
  exact ⟨r, r, h1, h2, q1, q2, q3, p1, p2, p3.1, p3.2, xj_fr hR.2.2 p4 (by decide +kernel)⟩
theorem lf_lay4_3_0 (x1 x2 x3 : Int32) (hh : HI HT h) (hj : JT h) (hR : RJ h) (a1 : 4 ≤ x1.toInt ∧ x1.toInt ≤ 4) (a2 : (-2147483648) ≤ x2.toInt ∧ x2.toInt ≤ (-1)) (b106_2 : 3 ≤ (ri h 106 2).toInt ∧ (ri h 106 2).toInt ≤ 3) : ∃ (r1 r2 : Int32) (h1 h2 : List pC), Run prog E pV1 120 mX7_lay [.ref 0, .int x1, .int x2, .int x3] h (some (.int r1), h1, 0, 0) ∧ Run prog E pV1 120 mX8_lay [.ref 110, .int x1, .int x2, .int x3] h1 (some (.int r2), h2, 0, 0) ∧ (∃ o, pobj h1 110 = some o ∧ o.1 = 8) ∧ HI HT h2 ∧ JT h2 ∧ RJ h2 := by
  obtain ⟨r, h1, h2, q1, q2, q3, p1, p2, p3, p4⟩ := pr_ok3 (E := E) (x1 := x1) (x2 := x2) (x3 := x3) cp_lay4_3_0 rfl rfl (List.cons_ne_nil _ _) (List.cons_ne_nil _ _) (fun _ h => absurd h List.not_mem_nil) hh hj hR.1 hR.2.1 ⟨a1, a2, i32_b x3, trivial⟩ (pBd.cs b106_2.1 b106_2.2 (pBd.cs (i32_b (ri h 106 3)).1 (i32_b (ri h 106 3)).2 pBd.nl)) (fun e he => by cases he)
  exact ⟨r, r, h1, h2, q1, q2, q3, p1, p2, p3.1, p3.2, xj_fr hR.2.2 p4 (by decide +kernel)⟩
theorem lf_lay4_3_1 (x1 x2 x3 : Int32) (hh : HI HT h) (hj : JT h) (hR : RJ h) (a1 : 4 ≤ x1.toInt ∧ x1.toInt ≤ 4) (a2 : 0 ≤ x2.toInt ∧ x2.toInt ≤ 0) (b106_2 : 3 ≤ (ri h 106 2).toInt ∧ (ri h 106 2).toInt ≤ 3) : ∃ (r1 r2 : Int32) (h1 h2 : List pC), Run prog E pV1 120 mX7_lay [.ref 0, .int x1, .int x2, .int x3] h (some (.int r1), h1, 0, 0) ∧ Run prog E pV1 120 mX8_lay [.ref 110, .int x1, .int x2, .int x3] h1 (some (.int r2), h2, 0, 0) ∧ (∃ o, pobj h1 110 = some o ∧ o.1 = 8) ∧ HI HT h2 ∧ JT h2 ∧ RJ h2 := by
  obtain ⟨r, h1, h2, q1, q2, q3, p1, p2, p3, p4⟩ := pr_ok3 (E := E) (x1 := x1) (x2 := x2) (x3 := x3) cp_lay4_3_1 rfl rfl (List.cons_ne_nil _ _) (List.cons_ne_nil _ _) (fun _ h => absurd h List.not_mem_nil) hh hj hR.1 hR.2.1 ⟨a1, a2, i32_b x3, trivial⟩ (pBd.cs b106_2.1 b106_2.2 (pBd.cs (i32_b (ri h 106 3)).1 (i32_b (ri h 106 3)).2 pBd.nl)) (fun e he => by cases he)
  exact ⟨r, r, h1, h2, q1, q2, q3, p1, p2, p3.1, p3.2, xj_fr hR.2.2 p4 (by decide +kernel)⟩
theorem lf_lay4_3_2 (x1 x2 x3 : Int32) (hh : HI HT h) (hj : JT h) (hR : RJ h) (a1 : 4 ≤ x1.toInt ∧ x1.toInt ≤ 4) (a2 : 1 ≤ x2.toInt ∧ x2.toInt ≤ 1) (b106_2 : 3 ≤ (ri h 106 2).toInt ∧ (ri h 106 2).toInt ≤ 3) : ∃ (r1 r2 : Int32) (h1 h2 : List pC), Run prog E pV1 120 mX7_lay [.ref 0, .int x1, .int x2, .int x3] h (some (.int r1), h1, 0, 0) ∧ Run prog E pV1 120 mX8_lay [.ref 110, .int x1, .int x2, .int x3] h1 (some (.int r2), h2, 0, 0) ∧ (∃ o, pobj h1 110 = some o ∧ o.1 = 8) ∧ HI HT h2 ∧ JT h2 ∧ RJ h2 := by
  obtain ⟨r, h1, h2, q1, q2, q3, p1, p2, p3, p4⟩ := pr_ok3 (E := E) (x1 := x1) (x2 := x2) (x3 := x3) cp_lay4_3_2 rfl rfl (List.cons_ne_nil _ _) (List.cons_ne_nil _ _) (List.forall_mem_cons.mpr ⟨kg_m_worth JT_P hands, (fun _ h => absurd h List.not_mem_nil)⟩) hh hj hR.1 hR.2.1 ⟨a1, a2, i32_b x3, trivial⟩ (pBd.cs (ty_34_5 hh hR).1 (ty_34_5 hh hR).2 (pBd.cs b106_2.1 b106_2.2 (pBd.cs (i32_b (ri h 106 3)).1 (i32_b (ri h 106 3)).2 pBd.nl))) (fun e he => by cases he)
  exact ⟨r, r, h1, h2, q1, q2, q3, p1, p2, p3.1, p3.2, xj_fr hR.2.2 p4 (by decide +kernel)⟩
theorem lf_lay4_3_3 (x1 x2 x3 : Int32) (hh : HI HT h) (hj : JT h) (hR : RJ h) (a1 : 4 ≤ x1.toInt ∧ x1.toInt ≤ 4) (a2 : 3 ≤ x2.toInt ∧ x2.toInt ≤ 3) (b106_2 : 3 ≤ (ri h 106 2).toInt ∧ (ri h 106 2).toInt ≤ 3) : ∃ (r1 r2 : Int32) (h1 h2 : List pC), Run prog E pV1 120 mX7_lay [.ref 0, .int x1, .int x2, .int x3] h (some (.int r1), h1, 0, 0) ∧ Run prog E pV1 120 mX8_lay [.ref 110, .int x1, .int x2, .int x3] h1 (some (.int r2), h2, 0, 0) ∧ (∃ o, pobj h1 110 = some o ∧ o.1 = 8) ∧ HI HT h2 ∧ JT h2 ∧ RJ h2 := by
  obtain ⟨r, h1, h2, q1, q2, q3, p1, p2, p3, p4⟩ := pr_ok3 (E := E) (x1 := x1) (x2 := x2) (x3 := x3) cp_lay4_3_3 rfl rfl (List.cons_ne_nil _ _) (List.cons_ne_nil _ _) (fun _ h => absurd h List.not_mem_nil) hh hj hR.1 hR.2.1 ⟨a1, a2, i32_b x3, trivial⟩ (pBd.cs b106_2.1 b106_2.2 (pBd.cs (i32_b (ri h 106 3)).1 (i32_b (ri h 106 3)).2 pBd.nl)) (fun e he => by cases he)
  exact ⟨r, r, h1, h2, q1, q2, q3, p1, p2, p3.1, p3.2, xj_fr hR.2.2 p4 (by decide +kernel)⟩
theorem lf_lay4_3_4 (x1 x2 x3 : Int32) (hh : HI HT h) (hj : JT h) (hR : RJ h) (a1 : 4 ≤ x1.toInt ∧ x1.toInt ≤ 4) (a2 : 4 ≤ x2.toInt ∧ x2.toInt ≤ 2147483647) (b106_2 : 3 ≤ (ri h 106 2).toInt ∧ (ri h 106 2).toInt ≤ 3) : ∃ (r1 r2 : Int32) (h1 h2 : List pC), Run prog E pV1 120 mX7_lay [.ref 0, .int x1, .int x2, .int x3] h (some (.int r1), h1, 0, 0) ∧ Run prog E pV1 120 mX8_lay [.ref 110, .int x1, .int x2, .int x3] h1 (some (.int r2), h2, 0, 0) ∧ (∃ o, pobj h1 110 = some o ∧ o.1 = 8) ∧ HI HT h2 ∧ JT h2 ∧ RJ h2 := by
  obtain ⟨r, h1, h2, q1, q2, q3, p1, p2, p3, p4⟩ := pr_ok3 (E := E) (x1 := x1) (x2 := x2) (x3 := x3) cp_lay4_3_4 rfl rfl (List.cons_ne_nil _ _) (List.cons_ne_nil _ _) (fun _ h => absurd h List.not_mem_nil) hh hj hR.1 hR.2.1 ⟨a1, a2, i32_b x3, trivial⟩ (pBd.cs b106_2.1 b106_2.2 (pBd.cs (i32_b (ri h 106 3)).1 (i32_b (ri h 106 3)).2 pBd.nl)) (fun e he => by cases he)
  exact ⟨r, r, h1, h2, q1, q2, q3, p1, p2, p3.1, p3.2, xj_fr hR.2.2 p4 (by decide +kernel)⟩
theorem lf_lay4_3s0 (x1 x2 x3 : Int32) (hh : HI HT h) (hj : JT h) (hR : RJ h) (a1 : 4 ≤ x1.toInt ∧ x1.toInt ≤ 4) (a2 : 2 ≤ x2.toInt ∧ x2.toInt ≤ 2) (a3 : (-2147483648) ≤ x3.toInt ∧ x3.toInt ≤ (-1)) (b106_2 : 3 ≤ (ri h 106 2).toInt ∧ (ri h 106 2).toInt ≤ 3) : ∃ (r1 r2 : Int32) (h1 h2 : List pC), Run prog E pV1 120 mX7_lay [.ref 0, .int x1, .int x2, .int x3] h (some (.int r1), h1, 0, 0) ∧ Run prog E pV1 120 mX8_lay [.ref 110, .int x1, .int x2, .int x3] h1 (some (.int r2), h2, 0, 0) ∧ (∃ o, pobj h1 110 = some o ∧ o.1 = 8) ∧ HI HT h2 ∧ JT h2 ∧ RJ h2 := by
  obtain ⟨r, h1, h2, q1, q2, q3, p1, p2, p3, p4⟩ := pr_ok3 (E := E) (x1 := x1) (x2 := x2) (x3 := x3) cp_lay4_3s0 rfl rfl (List.cons_ne_nil _ _) (List.cons_ne_nil _ _) (fun _ h => absurd h List.not_mem_nil) hh hj hR.1 hR.2.1 ⟨a1, a2, a3, trivial⟩ (pBd.cs b106_2.1 b106_2.2 (pBd.cs (i32_b (ri h 106 3)).1 (i32_b (ri h 106 3)).2 pBd.nl)) (fun e he => by cases he)
  exact ⟨r, r, h1, h2, q1, q2, q3, p1, p2, p3.1, p3.2, xj_fr hR.2.2 p4 (by decide +kernel)⟩
theorem lf_lay4_3s1 (x1 x2 x3 : Int32) (hh : HI HT h) (hj : JT h) (hR : RJ h) (a1 : 4 ≤ x1.toInt ∧ x1.toInt ≤ 4) (a2 : 2 ≤ x2.toInt ∧ x2.toInt ≤ 2) (a3 : 0 ≤ x3.toInt ∧ x3.toInt ≤ 0) (b106_2 : 3 ≤ (ri h 106 2).toInt ∧ (ri h 106 2).toInt ≤ 3) : ∃ (r1 r2 : Int32) (h1 h2 : List pC), Run prog E pV1 120 mX7_lay [.ref 0, .int x1, .int x2, .int x3] h (some (.int r1), h1, 0, 0) ∧ Run prog E pV1 120 mX8_lay [.ref 110, .int x1, .int x2, .int x3] h1 (some (.int r2), h2, 0, 0) ∧ (∃ o, pobj h1 110 = some o ∧ o.1 = 8) ∧ HI HT h2 ∧ JT h2 ∧ RJ h2 := by
  obtain ⟨r, h1, h2, q1, q2, q3, p1, p2, p3, p4⟩ := pr_ok3 (E := E) (x1 := x1) (x2 := x2) (x3 := x3) cp_lay4_3s1 rfl rfl (List.cons_ne_nil _ _) (List.cons_ne_nil _ _) (fun _ h => absurd h List.not_mem_nil) hh hj hR.1 hR.2.1 ⟨a1, a2, a3, trivial⟩ (pBd.cs b106_2.1 b106_2.2 (pBd.cs (i32_b (ri h 106 3)).1 (i32_b (ri h 106 3)).2 (pBd.cs (ty_82_1 hh hR).1 (ty_82_1 hh hR).2 (pBd.cs (ty_82_2 hh hR).1 (ty_82_2 hh hR).2 pBd.nl)))) (fun e he => by cases he)
  exact ⟨r, r, h1, h2, q1, q2, q3, p1, p2, p3.1, p3.2, xj_fr hR.2.2 p4 (by decide +kernel)⟩
theorem lf_lay4_3s2 (x1 x2 x3 : Int32) (hh : HI HT h) (hj : JT h) (hR : RJ h) (a1 : 4 ≤ x1.toInt ∧ x1.toInt ≤ 4) (a2 : 2 ≤ x2.toInt ∧ x2.toInt ≤ 2) (a3 : 1 ≤ x3.toInt ∧ x3.toInt ≤ 1) (b106_2 : 3 ≤ (ri h 106 2).toInt ∧ (ri h 106 2).toInt ≤ 3) : ∃ (r1 r2 : Int32) (h1 h2 : List pC), Run prog E pV1 120 mX7_lay [.ref 0, .int x1, .int x2, .int x3] h (some (.int r1), h1, 0, 0) ∧ Run prog E pV1 120 mX8_lay [.ref 110, .int x1, .int x2, .int x3] h1 (some (.int r2), h2, 0, 0) ∧ (∃ o, pobj h1 110 = some o ∧ o.1 = 8) ∧ HI HT h2 ∧ JT h2 ∧ RJ h2 := by
  obtain ⟨r, h1, h2, q1, q2, q3, p1, p2, p3, p4⟩ := pr_ok3 (E := E) (x1 := x1) (x2 := x2) (x3 := x3) cp_lay4_3s2 rfl rfl (List.cons_ne_nil _ _) (List.cons_ne_nil _ _) (fun _ h => absurd h List.not_mem_nil) hh hj hR.1 hR.2.1 ⟨a1, a2, a3, trivial⟩ (pBd.cs b106_2.1 b106_2.2 (pBd.cs (i32_b (ri h 106 3)).1 (i32_b (ri h 106 3)).2 (pBd.cs (ty_84_1 hh hR).1 (ty_84_1 hh hR).2 (pBd.cs (ty_84_2 hh hR).1 (ty_84_2 hh hR).2 pBd.nl)))) (fun e he => by cases he)
  exact ⟨r, r, h1, h2, q1, q2, q3, p1, p2, p3.1, p3.2, xj_fr hR.2.2 p4 (by decide +kernel)⟩
theorem lf_lay4_3s3 (x1 x2 x3 : Int32) (hh : HI HT h) (hj : JT h) (hR : RJ h) (a1 : 4 ≤ x1.toInt ∧ x1.toInt ≤ 4) (a2 : 2 ≤ x2.toInt ∧ x2.toInt ≤ 2) (a3 : 2 ≤ x3.toInt ∧ x3.toInt ≤ 2) (b106_2 : 3 ≤ (ri h 106 2).toInt ∧ (ri h 106 2).toInt ≤ 3) : ∃ (r1 r2 : Int32) (h1 h2 : List pC), Run prog E pV1 120 mX7_lay [.ref 0, .int x1, .int x2, .int x3] h (some (.int r1), h1, 0, 0) ∧ Run prog E pV1 120 mX8_lay [.ref 110, .int x1, .int x2, .int x3] h1 (some (.int r2), h2, 0, 0) ∧ (∃ o, pobj h1 110 = some o ∧ o.1 = 8) ∧ HI HT h2 ∧ JT h2 ∧ RJ h2 := by
  obtain ⟨r, h1, h2, q1, q2, q3, p1, p2, p3, p4⟩ := pr_ok3 (E := E) (x1 := x1) (x2 := x2) (x3 := x3) cp_lay4_3s3 rfl rfl (List.cons_ne_nil _ _) (List.cons_ne_nil _ _) (fun _ h => absurd h List.not_mem_nil) hh hj hR.1 hR.2.1 ⟨a1, a2, a3, trivial⟩ (pBd.cs b106_2.1 b106_2.2 (pBd.cs (i32_b (ri h 106 3)).1 (i32_b (ri h 106 3)).2 (pBd.cs (ty_86_1 hh hR).1 (ty_86_1 hh hR).2 (pBd.cs (ty_86_2 hh hR).1 (ty_86_2 hh hR).2 pBd.nl)))) (fun e he => by cases he)
  exact ⟨r, r, h1, h2, q1, q2, q3, p1, p2, p3.1, p3.2, xj_fr hR.2.2 p4 (by decide +kernel)⟩
theorem lf_lay4_3s4 (x1 x2 x3 : Int32) (hh : HI HT h) (hj : JT h) (hR : RJ h) (a1 : 4 ≤ x1.toInt ∧ x1.toInt ≤ 4) (a2 : 2 ≤ x2.toInt ∧ x2.toInt ≤ 2) (a3 : 3 ≤ x3.toInt ∧ x3.toInt ≤ 3) (b106_2 : 3 ≤ (ri h 106 2).toInt ∧ (ri h 106 2).toInt ≤ 3) : ∃ (r1 r2 : Int32) (h1 h2 : List pC), Run prog E pV1 120 mX7_lay [.ref 0, .int x1, .int x2, .int x3] h (some (.int r1), h1, 0, 0) ∧ Run prog E pV1 120 mX8_lay [.ref 110, .int x1, .int x2, .int x3] h1 (some (.int r2), h2, 0, 0) ∧ (∃ o, pobj h1 110 = some o ∧ o.1 = 8) ∧ HI HT h2 ∧ JT h2 ∧ RJ h2 := by
  obtain ⟨r, h1, h2, q1, q2, q3, p1, p2, p3, p4⟩ := pr_ok3 (E := E) (x1 := x1) (x2 := x2) (x3 := x3) cp_lay4_3s4 rfl rfl (List.cons_ne_nil _ _) (List.cons_ne_nil _ _) (fun _ h => absurd h List.not_mem_nil) hh hj hR.1 hR.2.1 ⟨a1, a2, a3, trivial⟩ (pBd.cs b106_2.1 b106_2.2 (pBd.cs (i32_b (ri h 106 3)).1 (i32_b (ri h 106 3)).2 (pBd.cs (ty_88_1 hh hR).1 (ty_88_1 hh hR).2 (pBd.cs (ty_88_2 hh hR).1 (ty_88_2 hh hR).2 pBd.nl)))) (fun e he => by cases he)
  exact ⟨r, r, h1, h2, q1, q2, q3, p1, p2, p3.1, p3.2, xj_fr hR.2.2 p4 (by decide +kernel)⟩
theorem lf_lay4_3s5 (x1 x2 x3 : Int32) (hh : HI HT h) (hj : JT h) (hR : RJ h) (a1 : 4 ≤ x1.toInt ∧ x1.toInt ≤ 4) (a2 : 2 ≤ x2.toInt ∧ x2.toInt ≤ 2) (a3 : 4 ≤ x3.toInt ∧ x3.toInt ≤ 2147483647) (b106_2 : 3 ≤ (ri h 106 2).toInt ∧ (ri h 106 2).toInt ≤ 3) : ∃ (r1 r2 : Int32) (h1 h2 : List pC), Run prog E pV1 120 mX7_lay [.ref 0, .int x1, .int x2, .int x3] h (some (.int r1), h1, 0, 0) ∧ Run prog E pV1 120 mX8_lay [.ref 110, .int x1, .int x2, .int x3] h1 (some (.int r2), h2, 0, 0) ∧ (∃ o, pobj h1 110 = some o ∧ o.1 = 8) ∧ HI HT h2 ∧ JT h2 ∧ RJ h2 := by
  obtain ⟨r, h1, h2, q1, q2, q3, p1, p2, p3, p4⟩ := pr_ok3 (E := E) (x1 := x1) (x2 := x2) (x3 := x3) cp_lay4_3s5 rfl rfl (List.cons_ne_nil _ _) (List.cons_ne_nil _ _) (fun _ h => absurd h List.not_mem_nil) hh hj hR.1 hR.2.1 ⟨a1, a2, a3, trivial⟩ (pBd.cs b106_2.1 b106_2.2 (pBd.cs (i32_b (ri h 106 3)).1 (i32_b (ri h 106 3)).2 pBd.nl)) (fun e he => by cases he)
  exact ⟨r, r, h1, h2, q1, q2, q3, p1, p2, p3.1, p3.2, xj_fr hR.2.2 p4 (by decide +kernel)⟩
theorem lf_layl (x1 x2 x3 : Int32) (hh : HI HT h) (hj : JT h) (hR : RJ h) (a1 : (-2147483648) ≤ x1.toInt ∧ x1.toInt ≤ (-1)) : ∃ (r1 r2 : Int32) (h1 h2 : List pC), Run prog E pV1 120 mX7_lay [.ref 0, .int x1, .int x2, .int x3] h (some (.int r1), h1, 0, 0) ∧ Run prog E pV1 120 mX8_lay [.ref 110, .int x1, .int x2, .int x3] h1 (some (.int r2), h2, 0, 0) ∧ (∃ o, pobj h1 110 = some o ∧ o.1 = 8) ∧ HI HT h2 ∧ JT h2 ∧ RJ h2 := by
  obtain ⟨r, h1, h2, q1, q2, q3, p1, p2, p3, p4⟩ := pr_ok3 (E := E) (x1 := x1) (x2 := x2) (x3 := x3) cp_layl rfl rfl (List.cons_ne_nil _ _) (List.cons_ne_nil _ _) (fun _ h => absurd h List.not_mem_nil) hh hj hR.1 hR.2.1 ⟨a1, i32_b x2, i32_b x3, trivial⟩ pBd.nl (fun e he => by cases he)
  exact ⟨r, r, h1, h2, q1, q2, q3, p1, p2, p3.1, p3.2, xj_fr hR.2.2 p4 (by decide +kernel)⟩
theorem lf_layh (x1 x2 x3 : Int32) (hh : HI HT h) (hj : JT h) (hR : RJ h) (a1 : 5 ≤ x1.toInt ∧ x1.toInt ≤ 2147483647) : ∃ (r1 r2 : Int32) (h1 h2 : List pC), Run prog E pV1 120 mX7_lay [.ref 0, .int x1, .int x2, .int x3] h (some (.int r1), h1, 0, 0) ∧ Run prog E pV1 120 mX8_lay [.ref 110, .int x1, .int x2, .int x3] h1 (some (.int r2), h2, 0, 0) ∧ (∃ o, pobj h1 110 = some o ∧ o.1 = 8) ∧ HI HT h2 ∧ JT h2 ∧ RJ h2 := by
  obtain ⟨r, h1, h2, q1, q2, q3, p1, p2, p3, p4⟩ := pr_ok3 (E := E) (x1 := x1) (x2 := x2) (x3 := x3) cp_layh rfl rfl (List.cons_ne_nil _ _) (List.cons_ne_nil _ _) (fun _ h => absurd h List.not_mem_nil) hh hj hR.1 hR.2.1 ⟨a1, i32_b x2, i32_b x3, trivial⟩ pBd.nl (fun e he => by cases he)
  exact ⟨r, r, h1, h2, q1, q2, q3, p1, p2, p3.1, p3.2, xj_fr hR.2.2 p4 (by decide +kernel)⟩
theorem lw_lay (x1 x2 x3 : Int32) (hh : HI HT h) (hj : JT h) (hR : RJ h) : ∃ (r1 r2 : Int32) (h1 h2 : List pC), Run prog E pV1 120 mX7_lay [.ref 0, .int x1, .int x2, .int x3] h (some (.int r1), h1, 0, 0) ∧ Run prog E pV1 120 mX8_lay [.ref 110, .int x1, .int x2, .int x3] h1 (some (.int r2), h2, 0, 0) ∧ (∃ o, pobj h1 110 = some o ∧ o.1 = 8) ∧ HI HT h2 ∧ JT h2 ∧ RJ h2 := by
  have ex1 := i32_b x1
  have ex2 := i32_b x2
  have ex3 := i32_b x3
  have t90_2 := ty_90_2 hh hR
  have t34_5 := ty_34_5 hh hR
  have t82_1 := ty_82_1 hh hR
  have t82_2 := ty_82_2 hh hR
  have t84_1 := ty_84_1 hh hR
  have t84_2 := ty_84_2 hh hR
  have t86_1 := ty_86_1 hh hR
  have t86_2 := ty_86_2 hh hR
  have t88_1 := ty_88_1 hh hR
  have t88_2 := ty_88_2 hh hR
  have t90_3 := i32_b (ri h 90 3)
  have t94_2 := ty_94_2 hh hR
  have t94_3 := i32_b (ri h 94 3)
  have t98_2 := ty_98_2 hh hR
  have t98_3 := i32_b (ri h 98 3)
  have t102_2 := ty_102_2 hh hR
  have t102_3 := i32_b (ri h 102 3)
  have t106_2 := ty_106_2 hh hR
  have t106_3 := i32_b (ri h 106 3)
  by_cases c1 : x1.toInt ≤ (-1)
  · exact lf_layl x1 x2 x3 hh hj hR ⟨by omega, by omega⟩
  by_cases c2 : x1.toInt ≤ 0
  · by_cases c3 : x2.toInt ≤ (-1)
    · by_cases c4 : (ri h 90 2).toInt ≤ 2
      · exact lf_lay0_0_0 x1 x2 x3 hh hj hR ⟨by omega, by omega⟩ ⟨by omega, by omega⟩ ⟨by omega, by omega⟩
      exact lf_lay0_3_0 x1 x2 x3 hh hj hR ⟨by omega, by omega⟩ ⟨by omega, by omega⟩ ⟨by omega, by omega⟩
    by_cases c5 : x2.toInt ≤ 0
    · by_cases c6 : (ri h 90 2).toInt ≤ 2
      · exact lf_lay0_0_1 x1 x2 x3 hh hj hR ⟨by omega, by omega⟩ ⟨by omega, by omega⟩ ⟨by omega, by omega⟩
      exact lf_lay0_3_1 x1 x2 x3 hh hj hR ⟨by omega, by omega⟩ ⟨by omega, by omega⟩ ⟨by omega, by omega⟩
    by_cases c7 : x2.toInt ≤ 1
    · by_cases c8 : (ri h 90 2).toInt ≤ 2
      · exact lf_lay0_0_2 x1 x2 x3 hh hj hR ⟨by omega, by omega⟩ ⟨by omega, by omega⟩ ⟨by omega, by omega⟩
      exact lf_lay0_3_2 x1 x2 x3 hh hj hR ⟨by omega, by omega⟩ ⟨by omega, by omega⟩ ⟨by omega, by omega⟩
    by_cases c9 : x2.toInt ≤ 2
    · by_cases c10 : x3.toInt ≤ (-1)
      · by_cases c11 : (ri h 90 2).toInt ≤ 2
        · exact lf_lay0_0s0 x1 x2 x3 hh hj hR ⟨by omega, by omega⟩ ⟨by omega, by omega⟩ ⟨by omega, by omega⟩ ⟨by omega, by omega⟩
        exact lf_lay0_3s0 x1 x2 x3 hh hj hR ⟨by omega, by omega⟩ ⟨by omega, by omega⟩ ⟨by omega, by omega⟩ ⟨by omega, by omega⟩
      by_cases c12 : x3.toInt ≤ 0
      · by_cases c13 : (ri h 90 2).toInt ≤ 2
        · exact lf_lay0_0s1 x1 x2 x3 hh hj hR ⟨by omega, by omega⟩ ⟨by omega, by omega⟩ ⟨by omega, by omega⟩ ⟨by omega, by omega⟩
        exact lf_lay0_3s1 x1 x2 x3 hh hj hR ⟨by omega, by omega⟩ ⟨by omega, by omega⟩ ⟨by omega, by omega⟩ ⟨by omega, by omega⟩
      by_cases c14 : x3.toInt ≤ 1
      · by_cases c15 : (ri h 90 2).toInt ≤ 2
        · exact lf_lay0_0s2 x1 x2 x3 hh hj hR ⟨by omega, by omega⟩ ⟨by omega, by omega⟩ ⟨by omega, by omega⟩ ⟨by omega, by omega⟩
        exact lf_lay0_3s2 x1 x2 x3 hh hj hR ⟨by omega, by omega⟩ ⟨by omega, by omega⟩ ⟨by omega, by omega⟩ ⟨by omega, by omega⟩
      by_cases c16 : x3.toInt ≤ 2
      · by_cases c17 : (ri h 90 2).toInt ≤ 2
        · exact lf_lay0_0s3 x1 x2 x3 hh hj hR ⟨by omega, by omega⟩ ⟨by omega, by omega⟩ ⟨by omega, by omega⟩ ⟨by omega, by omega⟩
        exact lf_lay0_3s3 x1 x2 x3 hh hj hR ⟨by omega, by omega⟩ ⟨by omega, by omega⟩ ⟨by omega, by omega⟩ ⟨by omega, by omega⟩
      by_cases c18 : x3.toInt ≤ 3
      · by_cases c19 : (ri h 90 2).toInt ≤ 2
        · exact lf_lay0_0s4 x1 x2 x3 hh hj hR ⟨by omega, by omega⟩ ⟨by omega, by omega⟩ ⟨by omega, by omega⟩ ⟨by omega, by omega⟩
        exact lf_lay0_3s4 x1 x2 x3 hh hj hR ⟨by omega, by omega⟩ ⟨by omega, by omega⟩ ⟨by omega, by omega⟩ ⟨by omega, by omega⟩
      by_cases c20 : (ri h 90 2).toInt ≤ 2
      · exact lf_lay0_0s5 x1 x2 x3 hh hj hR ⟨by omega, by omega⟩ ⟨by omega, by omega⟩ ⟨by omega, by omega⟩ ⟨by omega, by omega⟩
      exact lf_lay0_3s5 x1 x2 x3 hh hj hR ⟨by omega, by omega⟩ ⟨by omega, by omega⟩ ⟨by omega, by omega⟩ ⟨by omega, by omega⟩
    by_cases c21 : x2.toInt ≤ 3
    · by_cases c22 : (ri h 90 2).toInt ≤ 2
      · exact lf_lay0_0_3 x1 x2 x3 hh hj hR ⟨by omega, by omega⟩ ⟨by omega, by omega⟩ ⟨by omega, by omega⟩
      exact lf_lay0_3_3 x1 x2 x3 hh hj hR ⟨by omega, by omega⟩ ⟨by omega, by omega⟩ ⟨by omega, by omega⟩
    by_cases c23 : (ri h 90 2).toInt ≤ 2
    · exact lf_lay0_0_4 x1 x2 x3 hh hj hR ⟨by omega, by omega⟩ ⟨by omega, by omega⟩ ⟨by omega, by omega⟩
    exact lf_lay0_3_4 x1 x2 x3 hh hj hR ⟨by omega, by omega⟩ ⟨by omega, by omega⟩ ⟨by omega, by omega⟩
  by_cases c24 : x1.toInt ≤ 1
  · by_cases c25 : x2.toInt ≤ (-1)
    · by_cases c26 : (ri h 94 2).toInt ≤ 2
      · exact lf_lay1_0_0 x1 x2 x3 hh hj hR ⟨by omega, by omega⟩ ⟨by omega, by omega⟩ ⟨by omega, by omega⟩
      exact lf_lay1_3_0 x1 x2 x3 hh hj hR ⟨by omega, by omega⟩ ⟨by omega, by omega⟩ ⟨by omega, by omega⟩
    by_cases c27 : x2.toInt ≤ 0
    · by_cases c28 : (ri h 94 2).toInt ≤ 2
      · exact lf_lay1_0_1 x1 x2 x3 hh hj hR ⟨by omega, by omega⟩ ⟨by omega, by omega⟩ ⟨by omega, by omega⟩
      exact lf_lay1_3_1 x1 x2 x3 hh hj hR ⟨by omega, by omega⟩ ⟨by omega, by omega⟩ ⟨by omega, by omega⟩
    by_cases c29 : x2.toInt ≤ 1
    · by_cases c30 : (ri h 94 2).toInt ≤ 2
      · exact lf_lay1_0_2 x1 x2 x3 hh hj hR ⟨by omega, by omega⟩ ⟨by omega, by omega⟩ ⟨by omega, by omega⟩
      exact lf_lay1_3_2 x1 x2 x3 hh hj hR ⟨by omega, by omega⟩ ⟨by omega, by omega⟩ ⟨by omega, by omega⟩
    by_cases c31 : x2.toInt ≤ 2
    · by_cases c32 : x3.toInt ≤ (-1)
      · by_cases c33 : (ri h 94 2).toInt ≤ 2
        · exact lf_lay1_0s0 x1 x2 x3 hh hj hR ⟨by omega, by omega⟩ ⟨by omega, by omega⟩ ⟨by omega, by omega⟩ ⟨by omega, by omega⟩
        exact lf_lay1_3s0 x1 x2 x3 hh hj hR ⟨by omega, by omega⟩ ⟨by omega, by omega⟩ ⟨by omega, by omega⟩ ⟨by omega, by omega⟩
      by_cases c34 : x3.toInt ≤ 0
      · by_cases c35 : (ri h 94 2).toInt ≤ 2
        · exact lf_lay1_0s1 x1 x2 x3 hh hj hR ⟨by omega, by omega⟩ ⟨by omega, by omega⟩ ⟨by omega, by omega⟩ ⟨by omega, by omega⟩
        exact lf_lay1_3s1 x1 x2 x3 hh hj hR ⟨by omega, by omega⟩ ⟨by omega, by omega⟩ ⟨by omega, by omega⟩ ⟨by omega, by omega⟩
      by_cases c36 : x3.toInt ≤ 1
      · by_cases c37 : (ri h 94 2).toInt ≤ 2
        · exact lf_lay1_0s2 x1 x2 x3 hh hj hR ⟨by omega, by omega⟩ ⟨by omega, by omega⟩ ⟨by omega, by omega⟩ ⟨by omega, by omega⟩
        exact lf_lay1_3s2 x1 x2 x3 hh hj hR ⟨by omega, by omega⟩ ⟨by omega, by omega⟩ ⟨by omega, by omega⟩ ⟨by omega, by omega⟩
      by_cases c38 : x3.toInt ≤ 2
      · by_cases c39 : (ri h 94 2).toInt ≤ 2
        · exact lf_lay1_0s3 x1 x2 x3 hh hj hR ⟨by omega, by omega⟩ ⟨by omega, by omega⟩ ⟨by omega, by omega⟩ ⟨by omega, by omega⟩
        exact lf_lay1_3s3 x1 x2 x3 hh hj hR ⟨by omega, by omega⟩ ⟨by omega, by omega⟩ ⟨by omega, by omega⟩ ⟨by omega, by omega⟩
      by_cases c40 : x3.toInt ≤ 3
      · by_cases c41 : (ri h 94 2).toInt ≤ 2
        · exact lf_lay1_0s4 x1 x2 x3 hh hj hR ⟨by omega, by omega⟩ ⟨by omega, by omega⟩ ⟨by omega, by omega⟩ ⟨by omega, by omega⟩
        exact lf_lay1_3s4 x1 x2 x3 hh hj hR ⟨by omega, by omega⟩ ⟨by omega, by omega⟩ ⟨by omega, by omega⟩ ⟨by omega, by omega⟩
      by_cases c42 : (ri h 94 2).toInt ≤ 2
      · exact lf_lay1_0s5 x1 x2 x3 hh hj hR ⟨by omega, by omega⟩ ⟨by omega, by omega⟩ ⟨by omega, by omega⟩ ⟨by omega, by omega⟩
      exact lf_lay1_3s5 x1 x2 x3 hh hj hR ⟨by omega, by omega⟩ ⟨by omega, by omega⟩ ⟨by omega, by omega⟩ ⟨by omega, by omega⟩
    by_cases c43 : x2.toInt ≤ 3
    · by_cases c44 : (ri h 94 2).toInt ≤ 2
      · exact lf_lay1_0_3 x1 x2 x3 hh hj hR ⟨by omega, by omega⟩ ⟨by omega, by omega⟩ ⟨by omega, by omega⟩
      exact lf_lay1_3_3 x1 x2 x3 hh hj hR ⟨by omega, by omega⟩ ⟨by omega, by omega⟩ ⟨by omega, by omega⟩
    by_cases c45 : (ri h 94 2).toInt ≤ 2
    · exact lf_lay1_0_4 x1 x2 x3 hh hj hR ⟨by omega, by omega⟩ ⟨by omega, by omega⟩ ⟨by omega, by omega⟩
    exact lf_lay1_3_4 x1 x2 x3 hh hj hR ⟨by omega, by omega⟩ ⟨by omega, by omega⟩ ⟨by omega, by omega⟩
  by_cases c46 : x1.toInt ≤ 2
  · by_cases c47 : x2.toInt ≤ (-1)
    · by_cases c48 : (ri h 98 2).toInt ≤ 2
      · exact lf_lay2_0_0 x1 x2 x3 hh hj hR ⟨by omega, by omega⟩ ⟨by omega, by omega⟩ ⟨by omega, by omega⟩
      exact lf_lay2_3_0 x1 x2 x3 hh hj hR ⟨by omega, by omega⟩ ⟨by omega, by omega⟩ ⟨by omega, by omega⟩
    by_cases c49 : x2.toInt ≤ 0
    · by_cases c50 : (ri h 98 2).toInt ≤ 2
      · exact lf_lay2_0_1 x1 x2 x3 hh hj hR ⟨by omega, by omega⟩ ⟨by omega, by omega⟩ ⟨by omega, by omega⟩
      exact lf_lay2_3_1 x1 x2 x3 hh hj hR ⟨by omega, by omega⟩ ⟨by omega, by omega⟩ ⟨by omega, by omega⟩
    by_cases c51 : x2.toInt ≤ 1
    · by_cases c52 : (ri h 98 2).toInt ≤ 2
      · exact lf_lay2_0_2 x1 x2 x3 hh hj hR ⟨by omega, by omega⟩ ⟨by omega, by omega⟩ ⟨by omega, by omega⟩
      exact lf_lay2_3_2 x1 x2 x3 hh hj hR ⟨by omega, by omega⟩ ⟨by omega, by omega⟩ ⟨by omega, by omega⟩
    by_cases c53 : x2.toInt ≤ 2
    · by_cases c54 : x3.toInt ≤ (-1)
      · by_cases c55 : (ri h 98 2).toInt ≤ 2
        · exact lf_lay2_0s0 x1 x2 x3 hh hj hR ⟨by omega, by omega⟩ ⟨by omega, by omega⟩ ⟨by omega, by omega⟩ ⟨by omega, by omega⟩
        exact lf_lay2_3s0 x1 x2 x3 hh hj hR ⟨by omega, by omega⟩ ⟨by omega, by omega⟩ ⟨by omega, by omega⟩ ⟨by omega, by omega⟩
      by_cases c56 : x3.toInt ≤ 0
      · by_cases c57 : (ri h 98 2).toInt ≤ 2
        · exact lf_lay2_0s1 x1 x2 x3 hh hj hR ⟨by omega, by omega⟩ ⟨by omega, by omega⟩ ⟨by omega, by omega⟩ ⟨by omega, by omega⟩
        exact lf_lay2_3s1 x1 x2 x3 hh hj hR ⟨by omega, by omega⟩ ⟨by omega, by omega⟩ ⟨by omega, by omega⟩ ⟨by omega, by omega⟩
      by_cases c58 : x3.toInt ≤ 1
      · by_cases c59 : (ri h 98 2).toInt ≤ 2
        · exact lf_lay2_0s2 x1 x2 x3 hh hj hR ⟨by omega, by omega⟩ ⟨by omega, by omega⟩ ⟨by omega, by omega⟩ ⟨by omega, by omega⟩
        exact lf_lay2_3s2 x1 x2 x3 hh hj hR ⟨by omega, by omega⟩ ⟨by omega, by omega⟩ ⟨by omega, by omega⟩ ⟨by omega, by omega⟩
      by_cases c60 : x3.toInt ≤ 2
      · by_cases c61 : (ri h 98 2).toInt ≤ 2
        · exact lf_lay2_0s3 x1 x2 x3 hh hj hR ⟨by omega, by omega⟩ ⟨by omega, by omega⟩ ⟨by omega, by omega⟩ ⟨by omega, by omega⟩
        exact lf_lay2_3s3 x1 x2 x3 hh hj hR ⟨by omega, by omega⟩ ⟨by omega, by omega⟩ ⟨by omega, by omega⟩ ⟨by omega, by omega⟩
      by_cases c62 : x3.toInt ≤ 3
      · by_cases c63 : (ri h 98 2).toInt ≤ 2
        · exact lf_lay2_0s4 x1 x2 x3 hh hj hR ⟨by omega, by omega⟩ ⟨by omega, by omega⟩ ⟨by omega, by omega⟩ ⟨by omega, by omega⟩
        exact lf_lay2_3s4 x1 x2 x3 hh hj hR ⟨by omega, by omega⟩ ⟨by omega, by omega⟩ ⟨by omega, by omega⟩ ⟨by omega, by omega⟩
      by_cases c64 : (ri h 98 2).toInt ≤ 2
      · exact lf_lay2_0s5 x1 x2 x3 hh hj hR ⟨by omega, by omega⟩ ⟨by omega, by omega⟩ ⟨by omega, by omega⟩ ⟨by omega, by omega⟩
      exact lf_lay2_3s5 x1 x2 x3 hh hj hR ⟨by omega, by omega⟩ ⟨by omega, by omega⟩ ⟨by omega, by omega⟩ ⟨by omega, by omega⟩
    by_cases c65 : x2.toInt ≤ 3
    · by_cases c66 : (ri h 98 2).toInt ≤ 2
      · exact lf_lay2_0_3 x1 x2 x3 hh hj hR ⟨by omega, by omega⟩ ⟨by omega, by omega⟩ ⟨by omega, by omega⟩
      exact lf_lay2_3_3 x1 x2 x3 hh hj hR ⟨by omega, by omega⟩ ⟨by omega, by omega⟩ ⟨by omega, by omega⟩
    by_cases c67 : (ri h 98 2).toInt ≤ 2
    · exact lf_lay2_0_4 x1 x2 x3 hh hj hR ⟨by omega, by omega⟩ ⟨by omega, by omega⟩ ⟨by omega, by omega⟩
    exact lf_lay2_3_4 x1 x2 x3 hh hj hR ⟨by omega, by omega⟩ ⟨by omega, by omega⟩ ⟨by omega, by omega⟩
  by_cases c68 : x1.toInt ≤ 3
  · by_cases c69 : x2.toInt ≤ (-1)
    · by_cases c70 : (ri h 102 2).toInt ≤ 2
      · exact lf_lay3_0_0 x1 x2 x3 hh hj hR ⟨by omega, by omega⟩ ⟨by omega, by omega⟩ ⟨by omega, by omega⟩
      exact lf_lay3_3_0 x1 x2 x3 hh hj hR ⟨by omega, by omega⟩ ⟨by omega, by omega⟩ ⟨by omega, by omega⟩
    by_cases c71 : x2.toInt ≤ 0
    · by_cases c72 : (ri h 102 2).toInt ≤ 2
      · exact lf_lay3_0_1 x1 x2 x3 hh hj hR ⟨by omega, by omega⟩ ⟨by omega, by omega⟩ ⟨by omega, by omega⟩
      exact lf_lay3_3_1 x1 x2 x3 hh hj hR ⟨by omega, by omega⟩ ⟨by omega, by omega⟩ ⟨by omega, by omega⟩
    by_cases c73 : x2.toInt ≤ 1
    · by_cases c74 : (ri h 102 2).toInt ≤ 2
      · exact lf_lay3_0_2 x1 x2 x3 hh hj hR ⟨by omega, by omega⟩ ⟨by omega, by omega⟩ ⟨by omega, by omega⟩
      exact lf_lay3_3_2 x1 x2 x3 hh hj hR ⟨by omega, by omega⟩ ⟨by omega, by omega⟩ ⟨by omega, by omega⟩
    by_cases c75 : x2.toInt ≤ 2
    · by_cases c76 : x3.toInt ≤ (-1)
      · by_cases c77 : (ri h 102 2).toInt ≤ 2
        · exact lf_lay3_0s0 x1 x2 x3 hh hj hR ⟨by omega, by omega⟩ ⟨by omega, by omega⟩ ⟨by omega, by omega⟩ ⟨by omega, by omega⟩
        exact lf_lay3_3s0 x1 x2 x3 hh hj hR ⟨by omega, by omega⟩ ⟨by omega, by omega⟩ ⟨by omega, by omega⟩ ⟨by omega, by omega⟩
      by_cases c78 : x3.toInt ≤ 0
      · by_cases c79 : (ri h 102 2).toInt ≤ 2
        · exact lf_lay3_0s1 x1 x2 x3 hh hj hR ⟨by omega, by omega⟩ ⟨by omega, by omega⟩ ⟨by omega, by omega⟩ ⟨by omega, by omega⟩
        exact lf_lay3_3s1 x1 x2 x3 hh hj hR ⟨by omega, by omega⟩ ⟨by omega, by omega⟩ ⟨by omega, by omega⟩ ⟨by omega, by omega⟩
      by_cases c80 : x3.toInt ≤ 1
      · by_cases c81 : (ri h 102 2).toInt ≤ 2
        · exact lf_lay3_0s2 x1 x2 x3 hh hj hR ⟨by omega, by omega⟩ ⟨by omega, by omega⟩ ⟨by omega, by omega⟩ ⟨by omega, by omega⟩
        exact lf_lay3_3s2 x1 x2 x3 hh hj hR ⟨by omega, by omega⟩ ⟨by omega, by omega⟩ ⟨by omega, by omega⟩ ⟨by omega, by omega⟩
      by_cases c82 : x3.toInt ≤ 2
      · by_cases c83 : (ri h 102 2).toInt ≤ 2
        · exact lf_lay3_0s3 x1 x2 x3 hh hj hR ⟨by omega, by omega⟩ ⟨by omega, by omega⟩ ⟨by omega, by omega⟩ ⟨by omega, by omega⟩
        exact lf_lay3_3s3 x1 x2 x3 hh hj hR ⟨by omega, by omega⟩ ⟨by omega, by omega⟩ ⟨by omega, by omega⟩ ⟨by omega, by omega⟩
      by_cases c84 : x3.toInt ≤ 3
      · by_cases c85 : (ri h 102 2).toInt ≤ 2
        · exact lf_lay3_0s4 x1 x2 x3 hh hj hR ⟨by omega, by omega⟩ ⟨by omega, by omega⟩ ⟨by omega, by omega⟩ ⟨by omega, by omega⟩
        exact lf_lay3_3s4 x1 x2 x3 hh hj hR ⟨by omega, by omega⟩ ⟨by omega, by omega⟩ ⟨by omega, by omega⟩ ⟨by omega, by omega⟩
      by_cases c86 : (ri h 102 2).toInt ≤ 2
      · exact lf_lay3_0s5 x1 x2 x3 hh hj hR ⟨by omega, by omega⟩ ⟨by omega, by omega⟩ ⟨by omega, by omega⟩ ⟨by omega, by omega⟩
      exact lf_lay3_3s5 x1 x2 x3 hh hj hR ⟨by omega, by omega⟩ ⟨by omega, by omega⟩ ⟨by omega, by omega⟩ ⟨by omega, by omega⟩
    by_cases c87 : x2.toInt ≤ 3
    · by_cases c88 : (ri h 102 2).toInt ≤ 2
      · exact lf_lay3_0_3 x1 x2 x3 hh hj hR ⟨by omega, by omega⟩ ⟨by omega, by omega⟩ ⟨by omega, by omega⟩
      exact lf_lay3_3_3 x1 x2 x3 hh hj hR ⟨by omega, by omega⟩ ⟨by omega, by omega⟩ ⟨by omega, by omega⟩
    by_cases c89 : (ri h 102 2).toInt ≤ 2
    · exact lf_lay3_0_4 x1 x2 x3 hh hj hR ⟨by omega, by omega⟩ ⟨by omega, by omega⟩ ⟨by omega, by omega⟩
    exact lf_lay3_3_4 x1 x2 x3 hh hj hR ⟨by omega, by omega⟩ ⟨by omega, by omega⟩ ⟨by omega, by omega⟩
  by_cases c90 : x1.toInt ≤ 4
  · by_cases c91 : x2.toInt ≤ (-1)
    · by_cases c92 : (ri h 106 2).toInt ≤ 2
      · exact lf_lay4_0_0 x1 x2 x3 hh hj hR ⟨by omega, by omega⟩ ⟨by omega, by omega⟩ ⟨by omega, by omega⟩
      exact lf_lay4_3_0 x1 x2 x3 hh hj hR ⟨by omega, by omega⟩ ⟨by omega, by omega⟩ ⟨by omega, by omega⟩
    by_cases c93 : x2.toInt ≤ 0
    · by_cases c94 : (ri h 106 2).toInt ≤ 2
      · exact lf_lay4_0_1 x1 x2 x3 hh hj hR ⟨by omega, by omega⟩ ⟨by omega, by omega⟩ ⟨by omega, by omega⟩
      exact lf_lay4_3_1 x1 x2 x3 hh hj hR ⟨by omega, by omega⟩ ⟨by omega, by omega⟩ ⟨by omega, by omega⟩
    by_cases c95 : x2.toInt ≤ 1
    · by_cases c96 : (ri h 106 2).toInt ≤ 2
      · exact lf_lay4_0_2 x1 x2 x3 hh hj hR ⟨by omega, by omega⟩ ⟨by omega, by omega⟩ ⟨by omega, by omega⟩
      exact lf_lay4_3_2 x1 x2 x3 hh hj hR ⟨by omega, by omega⟩ ⟨by omega, by omega⟩ ⟨by omega, by omega⟩
    by_cases c97 : x2.toInt ≤ 2
    · by_cases c98 : x3.toInt ≤ (-1)
      · by_cases c99 : (ri h 106 2).toInt ≤ 2
        · exact lf_lay4_0s0 x1 x2 x3 hh hj hR ⟨by omega, by omega⟩ ⟨by omega, by omega⟩ ⟨by omega, by omega⟩ ⟨by omega, by omega⟩
        exact lf_lay4_3s0 x1 x2 x3 hh hj hR ⟨by omega, by omega⟩ ⟨by omega, by omega⟩ ⟨by omega, by omega⟩ ⟨by omega, by omega⟩
      by_cases c100 : x3.toInt ≤ 0
      · by_cases c101 : (ri h 106 2).toInt ≤ 2
        · exact lf_lay4_0s1 x1 x2 x3 hh hj hR ⟨by omega, by omega⟩ ⟨by omega, by omega⟩ ⟨by omega, by omega⟩ ⟨by omega, by omega⟩
        exact lf_lay4_3s1 x1 x2 x3 hh hj hR ⟨by omega, by omega⟩ ⟨by omega, by omega⟩ ⟨by omega, by omega⟩ ⟨by omega, by omega⟩
      by_cases c102 : x3.toInt ≤ 1
      · by_cases c103 : (ri h 106 2).toInt ≤ 2
        · exact lf_lay4_0s2 x1 x2 x3 hh hj hR ⟨by omega, by omega⟩ ⟨by omega, by omega⟩ ⟨by omega, by omega⟩ ⟨by omega, by omega⟩
        exact lf_lay4_3s2 x1 x2 x3 hh hj hR ⟨by omega, by omega⟩ ⟨by omega, by omega⟩ ⟨by omega, by omega⟩ ⟨by omega, by omega⟩
      by_cases c104 : x3.toInt ≤ 2
      · by_cases c105 : (ri h 106 2).toInt ≤ 2
        · exact lf_lay4_0s3 x1 x2 x3 hh hj hR ⟨by omega, by omega⟩ ⟨by omega, by omega⟩ ⟨by omega, by omega⟩ ⟨by omega, by omega⟩
        exact lf_lay4_3s3 x1 x2 x3 hh hj hR ⟨by omega, by omega⟩ ⟨by omega, by omega⟩ ⟨by omega, by omega⟩ ⟨by omega, by omega⟩
      by_cases c106 : x3.toInt ≤ 3
      · by_cases c107 : (ri h 106 2).toInt ≤ 2
        · exact lf_lay4_0s4 x1 x2 x3 hh hj hR ⟨by omega, by omega⟩ ⟨by omega, by omega⟩ ⟨by omega, by omega⟩ ⟨by omega, by omega⟩
        exact lf_lay4_3s4 x1 x2 x3 hh hj hR ⟨by omega, by omega⟩ ⟨by omega, by omega⟩ ⟨by omega, by omega⟩ ⟨by omega, by omega⟩
      by_cases c108 : (ri h 106 2).toInt ≤ 2
      · exact lf_lay4_0s5 x1 x2 x3 hh hj hR ⟨by omega, by omega⟩ ⟨by omega, by omega⟩ ⟨by omega, by omega⟩ ⟨by omega, by omega⟩
      exact lf_lay4_3s5 x1 x2 x3 hh hj hR ⟨by omega, by omega⟩ ⟨by omega, by omega⟩ ⟨by omega, by omega⟩ ⟨by omega, by omega⟩
    by_cases c109 : x2.toInt ≤ 3
    · by_cases c110 : (ri h 106 2).toInt ≤ 2
      · exact lf_lay4_0_3 x1 x2 x3 hh hj hR ⟨by omega, by omega⟩ ⟨by omega, by omega⟩ ⟨by omega, by omega⟩
      exact lf_lay4_3_3 x1 x2 x3 hh hj hR ⟨by omega, by omega⟩ ⟨by omega, by omega⟩ ⟨by omega, by omega⟩
    by_cases c111 : (ri h 106 2).toInt ≤ 2
    · exact lf_lay4_0_4 x1 x2 x3 hh hj hR ⟨by omega, by omega⟩ ⟨by omega, by omega⟩ ⟨by omega, by omega⟩
    exact lf_lay4_3_4 x1 x2 x3 hh hj hR ⟨by omega, by omega⟩ ⟨by omega, by omega⟩ ⟨by omega, by omega⟩
  exact lf_layh x1 x2 x3 hh hj hR ⟨by omega, by omega⟩
theorem lw_ask (x1 x2 : Int32) (hh : HI HT h) (hj : JT h) (hR : RJ h) : ∃ (r1 r2 : Int32) (h1 h2 : List pC), Run prog E pV1 120 mX7_ask [.ref 0, .int x1, .int x2] h (some (.int r1), h1, 0, 0) ∧ Run prog E pV1 120 mX8_ask [.ref 110, .int x1, .int x2] h1 (some (.int r2), h2, 0, 0) ∧ (∃ o, pobj h1 110 = some o ∧ o.1 = 8) ∧ HI HT h2 ∧ JT h2 ∧ RJ h2 := by
  obtain ⟨r1, h1, q1, hh1, f1, hj1⟩ := pub_of (E := E) (a := 0) (kg_c_ask JT_P hands) (N := mX7_ask) rfl (List.cons_ne_nil _ _) [x1, x2] rfl (fun q => by cases q) (Nat.le_of_ble_eq_true rfl) hh hj
  obtain ⟨r2, h2, q2, hh2, f2, hj2⟩ := pub_of (E := E) (a := 110) (kg_r_ask JT_P hands) (N := mX8_ask) rfl (List.cons_ne_nil _ _) [x1, x2] rfl (fun q => by cases q) (Nat.le_of_ble_eq_true rfl) hh1 hj1
  exact ⟨r1, r2, h1, h2, q1, q2, mobj hh1, hh2, hj2, ⟨pRel_fr (pRel_fr hR.1 f1 (by decide +kernel)) f2 (by decide +kernel), cRel_fr (cRel_fr hR.2.1 f1 (by decide +kernel)) f2 (by decide +kernel), xj_fr (xj_fr hR.2.2 f1 (by decide +kernel)) f2 (by decide +kernel)⟩⟩
theorem lw_item (x1 x2 : Int32) (hh : HI HT h) (hj : JT h) (hR : RJ h) : ∃ (r1 r2 : Int32) (h1 h2 : List pC), Run prog E pV1 120 mX7_item [.ref 0, .int x1, .int x2] h (some (.int r1), h1, 0, 0) ∧ Run prog E pV1 120 mX8_item [.ref 110, .int x1, .int x2] h1 (some (.int r2), h2, 0, 0) ∧ (∃ o, pobj h1 110 = some o ∧ o.1 = 8) ∧ HI HT h2 ∧ JT h2 ∧ RJ h2 := by
  obtain ⟨r1, h1, q1, hh1, f1, hj1⟩ := pub_of (E := E) (a := 0) (kg_c_item JT_P hands) (N := mX7_item) rfl (List.cons_ne_nil _ _) [x1, x2] rfl (fun q => by cases q) (Nat.le_of_ble_eq_true rfl) hh hj
  obtain ⟨r2, h2, q2, hh2, f2, hj2⟩ := pub_of (E := E) (a := 110) (kg_r_item JT_P hands) (N := mX8_item) rfl (List.cons_ne_nil _ _) [x1, x2] rfl (fun q => by cases q) (Nat.le_of_ble_eq_true rfl) hh1 hj1
  exact ⟨r1, r2, h1, h2, q1, q2, mobj hh1, hh2, hj2, ⟨pRel_fr (pRel_fr hR.1 f1 (by decide +kernel)) f2 (by decide +kernel), cRel_fr (cRel_fr hR.2.1 f1 (by decide +kernel)) f2 (by decide +kernel), xj_fr (xj_fr hR.2.2 f1 (by decide +kernel)) f2 (by decide +kernel)⟩⟩
theorem lf_rest0a (x1 x2 : Int32) (hh : HI HT h) (hj : JT h) (hR : RJ h) (a1 : 0 ≤ x1.toInt ∧ x1.toInt ≤ 0) (b90_2 : 0 ≤ (ri h 90 2).toInt ∧ (ri h 90 2).toInt ≤ 2) : ∃ (r : Int32) (h1 h2 : List pC), Run prog E pV1 120 mX7_rest [.ref 0, .int x1, .int x2] h (some (.int r), h1, 0, 0) ∧ Run prog E pV1 120 mX8_rest [.ref 110, .int x1, .int x2] h1 (some (.int r), h2, 0, 0) ∧ (∃ o, pobj h1 110 = some o ∧ o.1 = 8) ∧ HI HT h2 ∧ JT h2 ∧ RJ h2 := by
  obtain ⟨r, h1, h2, q1, q2, q3, p1, p2, p3, p4⟩ := pr_ok2 (E := E) (x1 := x1) (x2 := x2) cp_rest0a rfl rfl (List.cons_ne_nil _ _) (List.cons_ne_nil _ _) (fun _ h => absurd h List.not_mem_nil) hh hj hR.1 hR.2.1 ⟨a1, i32_b x2, trivial⟩ (pBd.cs b90_2.1 b90_2.2 pBd.nl) (fun e he => by cases he)
  exact ⟨r, h1, h2, q1, q2, q3, p1, p2, p3.1, p3.2, xj_fr hR.2.2 p4 (by decide +kernel)⟩
theorem lf_rest0b (x1 x2 : Int32) (hh : HI HT h) (hj : JT h) (hR : RJ h) (a1 : 0 ≤ x1.toInt ∧ x1.toInt ≤ 0) (b90_2 : 3 ≤ (ri h 90 2).toInt ∧ (ri h 90 2).toInt ≤ 3) : ∃ (r : Int32) (h1 h2 : List pC), Run prog E pV1 120 mX7_rest [.ref 0, .int x1, .int x2] h (some (.int r), h1, 0, 0) ∧ Run prog E pV1 120 mX8_rest [.ref 110, .int x1, .int x2] h1 (some (.int r), h2, 0, 0) ∧ (∃ o, pobj h1 110 = some o ∧ o.1 = 8) ∧ HI HT h2 ∧ JT h2 ∧ RJ h2 := by
  obtain ⟨r, h1, h2, q1, q2, q3, p1, p2, p3, p4⟩ := pr_ok2 (E := E) (x1 := x1) (x2 := x2) cp_rest0b rfl rfl (List.cons_ne_nil _ _) (List.cons_ne_nil _ _) (fun _ h => absurd h List.not_mem_nil) hh hj hR.1 hR.2.1 ⟨a1, i32_b x2, trivial⟩ (pBd.cs b90_2.1 b90_2.2 (pBd.cs (i32_b (ri h 90 3)).1 (i32_b (ri h 90 3)).2 pBd.nl)) (fun e he => by cases he)
  exact ⟨r, h1, h2, q1, q2, q3, p1, p2, p3.1, p3.2, xj_fr hR.2.2 p4 (by decide +kernel)⟩
theorem lf_rest1a (x1 x2 : Int32) (hh : HI HT h) (hj : JT h) (hR : RJ h) (a1 : 1 ≤ x1.toInt ∧ x1.toInt ≤ 1) (b94_2 : 0 ≤ (ri h 94 2).toInt ∧ (ri h 94 2).toInt ≤ 2) : ∃ (r : Int32) (h1 h2 : List pC), Run prog E pV1 120 mX7_rest [.ref 0, .int x1, .int x2] h (some (.int r), h1, 0, 0) ∧ Run prog E pV1 120 mX8_rest [.ref 110, .int x1, .int x2] h1 (some (.int r), h2, 0, 0) ∧ (∃ o, pobj h1 110 = some o ∧ o.1 = 8) ∧ HI HT h2 ∧ JT h2 ∧ RJ h2 := by
  obtain ⟨r, h1, h2, q1, q2, q3, p1, p2, p3, p4⟩ := pr_ok2 (E := E) (x1 := x1) (x2 := x2) cp_rest1a rfl rfl (List.cons_ne_nil _ _) (List.cons_ne_nil _ _) (fun _ h => absurd h List.not_mem_nil) hh hj hR.1 hR.2.1 ⟨a1, i32_b x2, trivial⟩ (pBd.cs b94_2.1 b94_2.2 pBd.nl) (fun e he => by cases he)
  exact ⟨r, h1, h2, q1, q2, q3, p1, p2, p3.1, p3.2, xj_fr hR.2.2 p4 (by decide +kernel)⟩
theorem lf_rest1b (x1 x2 : Int32) (hh : HI HT h) (hj : JT h) (hR : RJ h) (a1 : 1 ≤ x1.toInt ∧ x1.toInt ≤ 1) (b94_2 : 3 ≤ (ri h 94 2).toInt ∧ (ri h 94 2).toInt ≤ 3) : ∃ (r : Int32) (h1 h2 : List pC), Run prog E pV1 120 mX7_rest [.ref 0, .int x1, .int x2] h (some (.int r), h1, 0, 0) ∧ Run prog E pV1 120 mX8_rest [.ref 110, .int x1, .int x2] h1 (some (.int r), h2, 0, 0) ∧ (∃ o, pobj h1 110 = some o ∧ o.1 = 8) ∧ HI HT h2 ∧ JT h2 ∧ RJ h2 := by
  obtain ⟨r, h1, h2, q1, q2, q3, p1, p2, p3, p4⟩ := pr_ok2 (E := E) (x1 := x1) (x2 := x2) cp_rest1b rfl rfl (List.cons_ne_nil _ _) (List.cons_ne_nil _ _) (fun _ h => absurd h List.not_mem_nil) hh hj hR.1 hR.2.1 ⟨a1, i32_b x2, trivial⟩ (pBd.cs b94_2.1 b94_2.2 (pBd.cs (i32_b (ri h 94 3)).1 (i32_b (ri h 94 3)).2 pBd.nl)) (fun e he => by cases he)
  exact ⟨r, h1, h2, q1, q2, q3, p1, p2, p3.1, p3.2, xj_fr hR.2.2 p4 (by decide +kernel)⟩
theorem lf_rest2a (x1 x2 : Int32) (hh : HI HT h) (hj : JT h) (hR : RJ h) (a1 : 2 ≤ x1.toInt ∧ x1.toInt ≤ 2) (b98_2 : 0 ≤ (ri h 98 2).toInt ∧ (ri h 98 2).toInt ≤ 2) : ∃ (r : Int32) (h1 h2 : List pC), Run prog E pV1 120 mX7_rest [.ref 0, .int x1, .int x2] h (some (.int r), h1, 0, 0) ∧ Run prog E pV1 120 mX8_rest [.ref 110, .int x1, .int x2] h1 (some (.int r), h2, 0, 0) ∧ (∃ o, pobj h1 110 = some o ∧ o.1 = 8) ∧ HI HT h2 ∧ JT h2 ∧ RJ h2 := by
  obtain ⟨r, h1, h2, q1, q2, q3, p1, p2, p3, p4⟩ := pr_ok2 (E := E) (x1 := x1) (x2 := x2) cp_rest2a rfl rfl (List.cons_ne_nil _ _) (List.cons_ne_nil _ _) (fun _ h => absurd h List.not_mem_nil) hh hj hR.1 hR.2.1 ⟨a1, i32_b x2, trivial⟩ (pBd.cs b98_2.1 b98_2.2 pBd.nl) (fun e he => by cases he)
  exact ⟨r, h1, h2, q1, q2, q3, p1, p2, p3.1, p3.2, xj_fr hR.2.2 p4 (by decide +kernel)⟩
theorem lf_rest2b (x1 x2 : Int32) (hh : HI HT h) (hj : JT h) (hR : RJ h) (a1 : 2 ≤ x1.toInt ∧ x1.toInt ≤ 2) (b98_2 : 3 ≤ (ri h 98 2).toInt ∧ (ri h 98 2).toInt ≤ 3) : ∃ (r : Int32) (h1 h2 : List pC), Run prog E pV1 120 mX7_rest [.ref 0, .int x1, .int x2] h (some (.int r), h1, 0, 0) ∧ Run prog E pV1 120 mX8_rest [.ref 110, .int x1, .int x2] h1 (some (.int r), h2, 0, 0) ∧ (∃ o, pobj h1 110 = some o ∧ o.1 = 8) ∧ HI HT h2 ∧ JT h2 ∧ RJ h2 := by
  obtain ⟨r, h1, h2, q1, q2, q3, p1, p2, p3, p4⟩ := pr_ok2 (E := E) (x1 := x1) (x2 := x2) cp_rest2b rfl rfl (List.cons_ne_nil _ _) (List.cons_ne_nil _ _) (fun _ h => absurd h List.not_mem_nil) hh hj hR.1 hR.2.1 ⟨a1, i32_b x2, trivial⟩ (pBd.cs b98_2.1 b98_2.2 (pBd.cs (i32_b (ri h 98 3)).1 (i32_b (ri h 98 3)).2 pBd.nl)) (fun e he => by cases he)
  exact ⟨r, h1, h2, q1, q2, q3, p1, p2, p3.1, p3.2, xj_fr hR.2.2 p4 (by decide +kernel)⟩
theorem lf_rest3a (x1 x2 : Int32) (hh : HI HT h) (hj : JT h) (hR : RJ h) (a1 : 3 ≤ x1.toInt ∧ x1.toInt ≤ 3) (b102_2 : 0 ≤ (ri h 102 2).toInt ∧ (ri h 102 2).toInt ≤ 2) : ∃ (r : Int32) (h1 h2 : List pC), Run prog E pV1 120 mX7_rest [.ref 0, .int x1, .int x2] h (some (.int r), h1, 0, 0) ∧ Run prog E pV1 120 mX8_rest [.ref 110, .int x1, .int x2] h1 (some (.int r), h2, 0, 0) ∧ (∃ o, pobj h1 110 = some o ∧ o.1 = 8) ∧ HI HT h2 ∧ JT h2 ∧ RJ h2 := by
  obtain ⟨r, h1, h2, q1, q2, q3, p1, p2, p3, p4⟩ := pr_ok2 (E := E) (x1 := x1) (x2 := x2) cp_rest3a rfl rfl (List.cons_ne_nil _ _) (List.cons_ne_nil _ _) (fun _ h => absurd h List.not_mem_nil) hh hj hR.1 hR.2.1 ⟨a1, i32_b x2, trivial⟩ (pBd.cs b102_2.1 b102_2.2 pBd.nl) (fun e he => by cases he)
  exact ⟨r, h1, h2, q1, q2, q3, p1, p2, p3.1, p3.2, xj_fr hR.2.2 p4 (by decide +kernel)⟩
theorem lf_rest3b (x1 x2 : Int32) (hh : HI HT h) (hj : JT h) (hR : RJ h) (a1 : 3 ≤ x1.toInt ∧ x1.toInt ≤ 3) (b102_2 : 3 ≤ (ri h 102 2).toInt ∧ (ri h 102 2).toInt ≤ 3) : ∃ (r : Int32) (h1 h2 : List pC), Run prog E pV1 120 mX7_rest [.ref 0, .int x1, .int x2] h (some (.int r), h1, 0, 0) ∧ Run prog E pV1 120 mX8_rest [.ref 110, .int x1, .int x2] h1 (some (.int r), h2, 0, 0) ∧ (∃ o, pobj h1 110 = some o ∧ o.1 = 8) ∧ HI HT h2 ∧ JT h2 ∧ RJ h2 := by
  obtain ⟨r, h1, h2, q1, q2, q3, p1, p2, p3, p4⟩ := pr_ok2 (E := E) (x1 := x1) (x2 := x2) cp_rest3b rfl rfl (List.cons_ne_nil _ _) (List.cons_ne_nil _ _) (fun _ h => absurd h List.not_mem_nil) hh hj hR.1 hR.2.1 ⟨a1, i32_b x2, trivial⟩ (pBd.cs b102_2.1 b102_2.2 (pBd.cs (i32_b (ri h 102 3)).1 (i32_b (ri h 102 3)).2 pBd.nl)) (fun e he => by cases he)
  exact ⟨r, h1, h2, q1, q2, q3, p1, p2, p3.1, p3.2, xj_fr hR.2.2 p4 (by decide +kernel)⟩
theorem lf_rest4a (x1 x2 : Int32) (hh : HI HT h) (hj : JT h) (hR : RJ h) (a1 : 4 ≤ x1.toInt ∧ x1.toInt ≤ 4) (b106_2 : 0 ≤ (ri h 106 2).toInt ∧ (ri h 106 2).toInt ≤ 2) : ∃ (r : Int32) (h1 h2 : List pC), Run prog E pV1 120 mX7_rest [.ref 0, .int x1, .int x2] h (some (.int r), h1, 0, 0) ∧ Run prog E pV1 120 mX8_rest [.ref 110, .int x1, .int x2] h1 (some (.int r), h2, 0, 0) ∧ (∃ o, pobj h1 110 = some o ∧ o.1 = 8) ∧ HI HT h2 ∧ JT h2 ∧ RJ h2 := by
  obtain ⟨r, h1, h2, q1, q2, q3, p1, p2, p3, p4⟩ := pr_ok2 (E := E) (x1 := x1) (x2 := x2) cp_rest4a rfl rfl (List.cons_ne_nil _ _) (List.cons_ne_nil _ _) (fun _ h => absurd h List.not_mem_nil) hh hj hR.1 hR.2.1 ⟨a1, i32_b x2, trivial⟩ (pBd.cs b106_2.1 b106_2.2 pBd.nl) (fun e he => by cases he)
  exact ⟨r, h1, h2, q1, q2, q3, p1, p2, p3.1, p3.2, xj_fr hR.2.2 p4 (by decide +kernel)⟩
theorem lf_rest4b (x1 x2 : Int32) (hh : HI HT h) (hj : JT h) (hR : RJ h) (a1 : 4 ≤ x1.toInt ∧ x1.toInt ≤ 4) (b106_2 : 3 ≤ (ri h 106 2).toInt ∧ (ri h 106 2).toInt ≤ 3) : ∃ (r : Int32) (h1 h2 : List pC), Run prog E pV1 120 mX7_rest [.ref 0, .int x1, .int x2] h (some (.int r), h1, 0, 0) ∧ Run prog E pV1 120 mX8_rest [.ref 110, .int x1, .int x2] h1 (some (.int r), h2, 0, 0) ∧ (∃ o, pobj h1 110 = some o ∧ o.1 = 8) ∧ HI HT h2 ∧ JT h2 ∧ RJ h2 := by
  obtain ⟨r, h1, h2, q1, q2, q3, p1, p2, p3, p4⟩ := pr_ok2 (E := E) (x1 := x1) (x2 := x2) cp_rest4b rfl rfl (List.cons_ne_nil _ _) (List.cons_ne_nil _ _) (fun _ h => absurd h List.not_mem_nil) hh hj hR.1 hR.2.1 ⟨a1, i32_b x2, trivial⟩ (pBd.cs b106_2.1 b106_2.2 (pBd.cs (i32_b (ri h 106 3)).1 (i32_b (ri h 106 3)).2 pBd.nl)) (fun e he => by cases he)
  exact ⟨r, h1, h2, q1, q2, q3, p1, p2, p3.1, p3.2, xj_fr hR.2.2 p4 (by decide +kernel)⟩
theorem lf_restl (x1 x2 : Int32) (hh : HI HT h) (hj : JT h) (hR : RJ h) (a1 : (-2147483648) ≤ x1.toInt ∧ x1.toInt ≤ (-1)) : ∃ (r : Int32) (h1 h2 : List pC), Run prog E pV1 120 mX7_rest [.ref 0, .int x1, .int x2] h (some (.int r), h1, 0, 0) ∧ Run prog E pV1 120 mX8_rest [.ref 110, .int x1, .int x2] h1 (some (.int r), h2, 0, 0) ∧ (∃ o, pobj h1 110 = some o ∧ o.1 = 8) ∧ HI HT h2 ∧ JT h2 ∧ RJ h2 := by
  obtain ⟨r, h1, h2, q1, q2, q3, p1, p2, p3, p4⟩ := pr_ok2 (E := E) (x1 := x1) (x2 := x2) cp_restl rfl rfl (List.cons_ne_nil _ _) (List.cons_ne_nil _ _) (fun _ h => absurd h List.not_mem_nil) hh hj hR.1 hR.2.1 ⟨a1, i32_b x2, trivial⟩ pBd.nl (fun e he => by cases he)
  exact ⟨r, h1, h2, q1, q2, q3, p1, p2, p3.1, p3.2, xj_fr hR.2.2 p4 (by decide +kernel)⟩
theorem lf_resth (x1 x2 : Int32) (hh : HI HT h) (hj : JT h) (hR : RJ h) (a1 : 5 ≤ x1.toInt ∧ x1.toInt ≤ 2147483647) : ∃ (r : Int32) (h1 h2 : List pC), Run prog E pV1 120 mX7_rest [.ref 0, .int x1, .int x2] h (some (.int r), h1, 0, 0) ∧ Run prog E pV1 120 mX8_rest [.ref 110, .int x1, .int x2] h1 (some (.int r), h2, 0, 0) ∧ (∃ o, pobj h1 110 = some o ∧ o.1 = 8) ∧ HI HT h2 ∧ JT h2 ∧ RJ h2 := by
  obtain ⟨r, h1, h2, q1, q2, q3, p1, p2, p3, p4⟩ := pr_ok2 (E := E) (x1 := x1) (x2 := x2) cp_resth rfl rfl (List.cons_ne_nil _ _) (List.cons_ne_nil _ _) (fun _ h => absurd h List.not_mem_nil) hh hj hR.1 hR.2.1 ⟨a1, i32_b x2, trivial⟩ pBd.nl (fun e he => by cases he)
  exact ⟨r, h1, h2, q1, q2, q3, p1, p2, p3.1, p3.2, xj_fr hR.2.2 p4 (by decide +kernel)⟩
theorem lw_rest (x1 x2 : Int32) (hh : HI HT h) (hj : JT h) (hR : RJ h) : ∃ (r : Int32) (h1 h2 : List pC), Run prog E pV1 120 mX7_rest [.ref 0, .int x1, .int x2] h (some (.int r), h1, 0, 0) ∧ Run prog E pV1 120 mX8_rest [.ref 110, .int x1, .int x2] h1 (some (.int r), h2, 0, 0) ∧ (∃ o, pobj h1 110 = some o ∧ o.1 = 8) ∧ HI HT h2 ∧ JT h2 ∧ RJ h2 := by
  have ex1 := i32_b x1
  have ex2 := i32_b x2
  have t90_2 := ty_90_2 hh hR
  have t90_3 := i32_b (ri h 90 3)
  have t94_2 := ty_94_2 hh hR
  have t94_3 := i32_b (ri h 94 3)
  have t98_2 := ty_98_2 hh hR
  have t98_3 := i32_b (ri h 98 3)
  have t102_2 := ty_102_2 hh hR
  have t102_3 := i32_b (ri h 102 3)
  have t106_2 := ty_106_2 hh hR
  have t106_3 := i32_b (ri h 106 3)
  by_cases c1 : x1.toInt ≤ (-1)
  · exact lf_restl x1 x2 hh hj hR ⟨by omega, by omega⟩
  by_cases c2 : x1.toInt ≤ 0
  · by_cases c3 : (ri h 90 2).toInt ≤ 2
    · exact lf_rest0a x1 x2 hh hj hR ⟨by omega, by omega⟩ ⟨by omega, by omega⟩
    exact lf_rest0b x1 x2 hh hj hR ⟨by omega, by omega⟩ ⟨by omega, by omega⟩
  by_cases c4 : x1.toInt ≤ 1
  · by_cases c5 : (ri h 94 2).toInt ≤ 2
    · exact lf_rest1a x1 x2 hh hj hR ⟨by omega, by omega⟩ ⟨by omega, by omega⟩
    exact lf_rest1b x1 x2 hh hj hR ⟨by omega, by omega⟩ ⟨by omega, by omega⟩
  by_cases c6 : x1.toInt ≤ 2
  · by_cases c7 : (ri h 98 2).toInt ≤ 2
    · exact lf_rest2a x1 x2 hh hj hR ⟨by omega, by omega⟩ ⟨by omega, by omega⟩
    exact lf_rest2b x1 x2 hh hj hR ⟨by omega, by omega⟩ ⟨by omega, by omega⟩
  by_cases c8 : x1.toInt ≤ 3
  · by_cases c9 : (ri h 102 2).toInt ≤ 2
    · exact lf_rest3a x1 x2 hh hj hR ⟨by omega, by omega⟩ ⟨by omega, by omega⟩
    exact lf_rest3b x1 x2 hh hj hR ⟨by omega, by omega⟩ ⟨by omega, by omega⟩
  by_cases c10 : x1.toInt ≤ 4
  · by_cases c11 : (ri h 106 2).toInt ≤ 2
    · exact lf_rest4a x1 x2 hh hj hR ⟨by omega, by omega⟩ ⟨by omega, by omega⟩
    exact lf_rest4b x1 x2 hh hj hR ⟨by omega, by omega⟩ ⟨by omega, by omega⟩
  exact lf_resth x1 x2 hh hj hR ⟨by omega, by omega⟩
theorem lw_tell (x1 : Int32) (hh : HI HT h) (hj : JT h) (hR : RJ h) : ∃ (r1 r2 : Int32) (h1 h2 : List pC), Run prog E pV1 120 mX7_tell [.ref 0, .int x1] h (some (.int r1), h1, 0, 0) ∧ Run prog E pV1 120 mX8_tell [.ref 110, .int x1] h1 (some (.int r2), h2, 0, 0) ∧ (∃ o, pobj h1 110 = some o ∧ o.1 = 8) ∧ HI HT h2 ∧ JT h2 ∧ RJ h2 := by
  obtain ⟨r1, h1, q1, hh1, f1, hj1⟩ := pub_of (E := E) (a := 0) (kg_c_tell JT_P hands) (N := mX7_tell) rfl (List.cons_ne_nil _ _) [x1] rfl (fun q => by cases q) (Nat.le_of_ble_eq_true rfl) hh hj
  obtain ⟨r2, h2, q2, hh2, f2, hj2⟩ := pub_of (E := E) (a := 110) (kg_r_tell JT_P hands) (N := mX8_tell) rfl (List.cons_ne_nil _ _) [x1] rfl (fun q => by cases q) (Nat.le_of_ble_eq_true rfl) hh1 hj1
  exact ⟨r1, r2, h1, h2, q1, q2, mobj hh1, hh2, hj2, ⟨pRel_fr (pRel_fr hR.1 f1 (by decide +kernel)) f2 (by decide +kernel), cRel_fr (cRel_fr hR.2.1 f1 (by decide +kernel)) f2 (by decide +kernel), xj_fr (xj_fr hR.2.2 f1 (by decide +kernel)) f2 (by decide +kernel)⟩⟩
theorem lw_check (x1 : Int32) (hh : HI HT h) (hj : JT h) (hR : RJ h) : ∃ (r1 r2 : Int32) (h1 h2 : List pC), Run prog E pV1 120 mX7_check [.ref 0, .int x1] h (some (.int r1), h1, 0, 0) ∧ Run prog E pV1 120 mX8_check [.ref 110, .int x1] h1 (some (.int r2), h2, 0, 0) ∧ (∃ o, pobj h1 110 = some o ∧ o.1 = 8) ∧ HI HT h2 ∧ JT h2 ∧ RJ h2 := by
  obtain ⟨r1, h1, q1, hh1, f1, hj1⟩ := pub_of (E := E) (a := 0) (kg_c_check JT_P hands) (N := mX7_check) rfl (List.cons_ne_nil _ _) [x1] rfl (fun q => by cases q) (Nat.le_of_ble_eq_true rfl) hh hj
  obtain ⟨r2, h2, q2, hh2, f2, hj2⟩ := pub_of (E := E) (a := 110) (hd_check hands) (N := mX8_check) rfl (List.cons_ne_nil _ _) [x1] rfl (fun q => by cases q) (Nat.le_of_ble_eq_true rfl) hh1 hj1
  exact ⟨r1, r2, h1, h2, q1, q2, mobj hh1, hh2, hj2, ⟨pRel_fr (pRel_fr hR.1 f1 (by decide +kernel)) f2 (by decide +kernel), cRel_fr (cRel_fr hR.2.1 f1 (by decide +kernel)) f2 (by decide +kernel), xj_fr (xj_fr hR.2.2 f1 (by decide +kernel)) f2 (by decide +kernel)⟩⟩
theorem lw_keep (hh : HI HT h) (hj : JT h) (hR : RJ h) : ∃ (r1 r2 : Int32) (h1 h2 : List pC), Run prog E pV1 120 mX7_keep [.ref 0] h (some (.int r1), h1, 0, 0) ∧ Run prog E pV1 120 mX8_keep [.ref 110] h1 (some (.int r2), h2, 0, 0) ∧ (∃ o, pobj h1 110 = some o ∧ o.1 = 8) ∧ HI HT h2 ∧ JT h2 ∧ RJ h2 := by
  obtain ⟨r1, h1, q1, hh1, hj1, f1, z0, zi, zr⟩ := ox_ok (E := E) (xs := []) (R' := ro_keep) (Q := fun r h' => ri h' 48 5 = ri h 34 5 ∧ ri h' 0 9 = 1 ∧ r = some (.int (ri h 34 5))) ox_keep rfl (fun _ h => absurd h List.not_mem_nil) hj hh (sub_rel hR.1 (by decide)) (pBd_ty hh (sub_rel hR.1 (by decide)) (by decide +kernel)) trivial (fun e he => by cases he) (fun σ Γ C Δ x r h' he ha _ hC _ hr => by
    obtain ⟨a1, u, a2, a3⟩ := ecV_ok he hC hr
    have s1 : σ 1 = (ri h 34 5).toInt := ha 1 (by decide)
    refine ⟨Int32.toInt_inj.mp ((zsy (a1 _ List.mem_cons_self)).trans s1), Int32.toInt_inj.mp (zcn (a1 _ (List.mem_cons_of_mem _ List.mem_cons_self))), ?_⟩
    rw [a2, Int32.toInt_inj.mp ((zsy (a3 _ rfl)).trans s1)])
  obtain ⟨h2, q2, hh2, hj2, f2, k1, k2⟩ := keep_x (E := E) hh1 hj1
  have e0 : ri h 34 5 = ri h 111 0 := (sub_rel (R' := [((8, 34, 5), (0, 111, 0), 0, 9)]) hR.1 (by decide) _ List.mem_cons_self)
  have e1 : ri h1 111 0 = ri h 111 0 := ri_fr f1 (by decide)
  subst zr
  rw [e1, ← e0] at q2
  refine ⟨_, _, h1, h2, q1, q2, mobj hh1, hh2, hj2, fun q hq => ?_, cRel_fr (cRel_fr hR.2.1 f1 (by decide +kernel)) f2 (by decide +kernel), xj_fr (xj_fr hR.2.2 f1 (by decide +kernel)) f2 (by decide +kernel)⟩
  rcases List.mem_cons.mp hq with rfl | hq
  · exact pRel_fr (pRel_fr (R := [((8, 34, 5), (0, 111, 0), 0, 9)]) (sub_rel hR.1 (by decide)) f1 (by decide +kernel)) f2 (by decide +kernel) _ List.mem_cons_self
  rcases List.mem_cons.mp hq with rfl | hq
  · show ri h2 48 5 = ri h2 112 0
    rw [ri_fr (a := 48) (i := 5) f2 (by decide), z0, k1 0 (by decide), ri_fr (a := 111) (i := 0) f1 (by decide)]
    exact (sub_rel (R' := [((8, 34, 5), (0, 111, 0), 0, 9)]) hR.1 (by decide) _ List.mem_cons_self)
  rcases List.mem_cons.mp hq with rfl | hq
  · show ri h2 0 9 = ri h2 110 3
    rw [ri_fr (a := 0) (i := 9) f2 (by decide), zi, k2]
  rcases List.mem_cons.mp hq with rfl | hq
  · exact pRel_fr (pRel_fr (R := [((5, 82, 1), (0, 114, 0), (-1), 1)]) (sub_rel hR.1 (by decide)) f1 (by decide +kernel)) f2 (by decide +kernel) _ List.mem_cons_self
  rcases List.mem_cons.mp hq with rfl | hq
  · exact pRel_fr (pRel_fr (R := [((5, 84, 1), (0, 114, 1), (-1), 1)]) (sub_rel hR.1 (by decide)) f1 (by decide +kernel)) f2 (by decide +kernel) _ List.mem_cons_self
  rcases List.mem_cons.mp hq with rfl | hq
  · exact pRel_fr (pRel_fr (R := [((5, 86, 1), (0, 114, 2), (-1), 1)]) (sub_rel hR.1 (by decide)) f1 (by decide +kernel)) f2 (by decide +kernel) _ List.mem_cons_self
  rcases List.mem_cons.mp hq with rfl | hq
  · exact pRel_fr (pRel_fr (R := [((5, 88, 1), (0, 114, 3), (-1), 1)]) (sub_rel hR.1 (by decide)) f1 (by decide +kernel)) f2 (by decide +kernel) _ List.mem_cons_self
  rcases List.mem_cons.mp hq with rfl | hq
  · exact pRel_fr (pRel_fr (R := [((5, 82, 2), (0, 115, 0), 0, 24)]) (sub_rel hR.1 (by decide)) f1 (by decide +kernel)) f2 (by decide +kernel) _ List.mem_cons_self
  rcases List.mem_cons.mp hq with rfl | hq
  · exact pRel_fr (pRel_fr (R := [((5, 84, 2), (0, 115, 1), 0, 24)]) (sub_rel hR.1 (by decide)) f1 (by decide +kernel)) f2 (by decide +kernel) _ List.mem_cons_self
  rcases List.mem_cons.mp hq with rfl | hq
  · exact pRel_fr (pRel_fr (R := [((5, 86, 2), (0, 115, 2), 0, 24)]) (sub_rel hR.1 (by decide)) f1 (by decide +kernel)) f2 (by decide +kernel) _ List.mem_cons_self
  rcases List.mem_cons.mp hq with rfl | hq
  · exact pRel_fr (pRel_fr (R := [((5, 88, 2), (0, 115, 3), 0, 24)]) (sub_rel hR.1 (by decide)) f1 (by decide +kernel)) f2 (by decide +kernel) _ List.mem_cons_self
  rcases List.mem_cons.mp hq with rfl | hq
  · exact pRel_fr (pRel_fr (R := [((7, 90, 2), (0, 117, 0), 0, 3)]) (sub_rel hR.1 (by decide)) f1 (by decide +kernel)) f2 (by decide +kernel) _ List.mem_cons_self
  rcases List.mem_cons.mp hq with rfl | hq
  · exact pRel_fr (pRel_fr (R := [((7, 94, 2), (0, 117, 1), 0, 3)]) (sub_rel hR.1 (by decide)) f1 (by decide +kernel)) f2 (by decide +kernel) _ List.mem_cons_self
  rcases List.mem_cons.mp hq with rfl | hq
  · exact pRel_fr (pRel_fr (R := [((7, 98, 2), (0, 117, 2), 0, 3)]) (sub_rel hR.1 (by decide)) f1 (by decide +kernel)) f2 (by decide +kernel) _ List.mem_cons_self
  rcases List.mem_cons.mp hq with rfl | hq
  · exact pRel_fr (pRel_fr (R := [((7, 102, 2), (0, 117, 3), 0, 3)]) (sub_rel hR.1 (by decide)) f1 (by decide +kernel)) f2 (by decide +kernel) _ List.mem_cons_self
  obtain rfl := List.mem_singleton.mp hq
  exact pRel_fr (pRel_fr (R := [((7, 106, 2), (0, 117, 4), 0, 3)]) (sub_rel hR.1 (by decide)) f1 (by decide +kernel)) f2 (by decide +kernel) _ List.mem_cons_self
theorem lw_back (hh : HI HT h) (hj : JT h) (hR : RJ h) : ∃ (r1 r2 : Int32) (h1 h2 : List pC), Run prog E pV1 120 mX7_back [.ref 0] h (some (.int r1), h1, 0, 0) ∧ Run prog E pV1 120 mX8_back [.ref 110] h1 (some (.int r2), h2, 0, 0) ∧ (∃ o, pobj h1 110 = some o ∧ o.1 = 8) ∧ HI HT h2 ∧ JT h2 ∧ RJ h2 := by
  have t9 : 0 ≤ (ri h 0 9).toInt ∧ (ri h 0 9).toInt ≤ 1 := pBd_ty (R := [((9, 0, 9), (10, 110, 3), 0, 1)]) hh (sub_rel hR.1 (by decide)) (by decide +kernel) _ List.mem_cons_self
  have e9 : ri h 0 9 = ri h 110 3 := (sub_rel (R' := [((9, 0, 9), (10, 110, 3), 0, 1)]) hR.1 (by decide) _ List.mem_cons_self)
  by_cases c9 : (ri h 0 9).toInt ≤ 0
  · have z9 : ri h 110 3 = 0 := by
      rw [← e9]
      exact Int32.toInt_inj.mp (by rw [show (0 : Int32).toInt = 0 by decide]; omega)
    obtain ⟨r1, h1, q1, hh1, hj1, f1, z3⟩ := ox_ok (E := E) (xs := []) (R' := ro_back0) (Q := fun r h' => r = some (.int (-1000000002))) ox_back0 rfl (fun _ h => absurd h List.not_mem_nil) hj hh (sub_rel hR.1 (by decide)) (pBd.cs t9.1 c9 pBd.nl) trivial (fun e he => by cases he) (fun σ Γ C Δ x r h' he ha _ hC _ hr => by
      obtain ⟨a1, u, a2, a3⟩ := ecV_ok he hC hr
      rw [a2, show u = -1000000002 from Int32.toInt_inj.mp ((zcn (a3 _ rfl)).trans (by decide))])
    obtain ⟨h2, q2, hh2, hj2, f2, k1, k2⟩ := back_x (E := E) hh1 hj1
    have e3 : ri h1 110 3 = 0 := (ri_fr f1 (by decide)).trans z9
    subst z3
    rw [if_pos e3] at q2
    have hR1 : pRel RL h1 := pRel_fr hR.1 f1 (by decide)
    refine ⟨_, _, h1, h2, q1, q2, mobj hh1, hh2, hj2, fun q hq => ?_, cRel_fr (cRel_fr hR.2.1 f1 (by decide +kernel)) f2 (by decide +kernel), xj_fr (xj_fr hR.2.2 f1 (by decide +kernel)) f2 (by decide +kernel)⟩
    rcases List.mem_cons.mp hq with rfl | hq
    · show ri h2 34 5 = ri h2 111 0
      rw [ri_fr (a := 34) (i := 5) f2 (by decide), k1 e3 0]
      exact hR1 _ List.mem_cons_self
    rcases List.mem_cons.mp hq with rfl | hq
    · exact pRel_fr (pRel_fr (R := [((8, 48, 5), (0, 112, 0), 0, 9)]) (sub_rel hR.1 (by decide)) f1 (by decide +kernel)) f2 (by decide +kernel) _ List.mem_cons_self
    rcases List.mem_cons.mp hq with rfl | hq
    · exact pRel_fr (pRel_fr (R := [((9, 0, 9), (10, 110, 3), 0, 1)]) (sub_rel hR.1 (by decide)) f1 (by decide +kernel)) f2 (by decide +kernel) _ List.mem_cons_self
    rcases List.mem_cons.mp hq with rfl | hq
    · exact pRel_fr (pRel_fr (R := [((5, 82, 1), (0, 114, 0), (-1), 1)]) (sub_rel hR.1 (by decide)) f1 (by decide +kernel)) f2 (by decide +kernel) _ List.mem_cons_self
    rcases List.mem_cons.mp hq with rfl | hq
    · exact pRel_fr (pRel_fr (R := [((5, 84, 1), (0, 114, 1), (-1), 1)]) (sub_rel hR.1 (by decide)) f1 (by decide +kernel)) f2 (by decide +kernel) _ List.mem_cons_self
    rcases List.mem_cons.mp hq with rfl | hq
    · exact pRel_fr (pRel_fr (R := [((5, 86, 1), (0, 114, 2), (-1), 1)]) (sub_rel hR.1 (by decide)) f1 (by decide +kernel)) f2 (by decide +kernel) _ List.mem_cons_self
    rcases List.mem_cons.mp hq with rfl | hq
    · exact pRel_fr (pRel_fr (R := [((5, 88, 1), (0, 114, 3), (-1), 1)]) (sub_rel hR.1 (by decide)) f1 (by decide +kernel)) f2 (by decide +kernel) _ List.mem_cons_self
    rcases List.mem_cons.mp hq with rfl | hq
    · exact pRel_fr (pRel_fr (R := [((5, 82, 2), (0, 115, 0), 0, 24)]) (sub_rel hR.1 (by decide)) f1 (by decide +kernel)) f2 (by decide +kernel) _ List.mem_cons_self
    rcases List.mem_cons.mp hq with rfl | hq
    · exact pRel_fr (pRel_fr (R := [((5, 84, 2), (0, 115, 1), 0, 24)]) (sub_rel hR.1 (by decide)) f1 (by decide +kernel)) f2 (by decide +kernel) _ List.mem_cons_self
    rcases List.mem_cons.mp hq with rfl | hq
    · exact pRel_fr (pRel_fr (R := [((5, 86, 2), (0, 115, 2), 0, 24)]) (sub_rel hR.1 (by decide)) f1 (by decide +kernel)) f2 (by decide +kernel) _ List.mem_cons_self
    rcases List.mem_cons.mp hq with rfl | hq
    · exact pRel_fr (pRel_fr (R := [((5, 88, 2), (0, 115, 3), 0, 24)]) (sub_rel hR.1 (by decide)) f1 (by decide +kernel)) f2 (by decide +kernel) _ List.mem_cons_self
    rcases List.mem_cons.mp hq with rfl | hq
    · exact pRel_fr (pRel_fr (R := [((7, 90, 2), (0, 117, 0), 0, 3)]) (sub_rel hR.1 (by decide)) f1 (by decide +kernel)) f2 (by decide +kernel) _ List.mem_cons_self
    rcases List.mem_cons.mp hq with rfl | hq
    · exact pRel_fr (pRel_fr (R := [((7, 94, 2), (0, 117, 1), 0, 3)]) (sub_rel hR.1 (by decide)) f1 (by decide +kernel)) f2 (by decide +kernel) _ List.mem_cons_self
    rcases List.mem_cons.mp hq with rfl | hq
    · exact pRel_fr (pRel_fr (R := [((7, 98, 2), (0, 117, 2), 0, 3)]) (sub_rel hR.1 (by decide)) f1 (by decide +kernel)) f2 (by decide +kernel) _ List.mem_cons_self
    rcases List.mem_cons.mp hq with rfl | hq
    · exact pRel_fr (pRel_fr (R := [((7, 102, 2), (0, 117, 3), 0, 3)]) (sub_rel hR.1 (by decide)) f1 (by decide +kernel)) f2 (by decide +kernel) _ List.mem_cons_self
    obtain rfl := List.mem_singleton.mp hq
    exact pRel_fr (pRel_fr (R := [((7, 106, 2), (0, 117, 4), 0, 3)]) (sub_rel hR.1 (by decide)) f1 (by decide +kernel)) f2 (by decide +kernel) _ List.mem_cons_self
  · have hB1 : pBd ro_back1 h := pBd.cs (ty_48_5 hh hR).1 (ty_48_5 hh hR).2 (pBd.cs (by show (1 : Int) ≤ (ri h 0 9).toInt; omega) t9.2 pBd.nl)
    obtain ⟨r1, h1, q1, hh1, hj1, f1, z0, zr⟩ := ox_ok (E := E) (xs := []) (R' := ro_back1) (Q := fun r h' => ri h' 34 5 = ri h 48 5 ∧ r = some (.int (ri h 48 5))) ox_back1 rfl (fun _ h => absurd h List.not_mem_nil) hj hh (kn_rel hR.1 hR.2.1 hB1 (by decide +kernel)) hB1 trivial (fun e he => by cases he) (fun σ Γ C Δ x r h' he ha _ hC _ hr => by
      obtain ⟨a1, u, a2, a3⟩ := ecV_ok he hC hr
      have s1 : σ 1 = (ri h 48 5).toInt := ha 1 (by decide)
      refine ⟨Int32.toInt_inj.mp ((zsy (a1 _ List.mem_cons_self)).trans s1), ?_⟩
      rw [a2, Int32.toInt_inj.mp ((zsy (a3 _ rfl)).trans s1)])
    obtain ⟨h2, q2, hh2, hj2, f2, k1, k2⟩ := back_x (E := E) hh1 hj1
    have n3 : ¬ ri h1 110 3 = 0 := fun e => c9 (by
      rw [e9, ← ri_fr (a := 110) (i := 3) f1 (by decide), e]
      decide)
    subst zr
    have e8 : ri h 48 5 = ri h 112 0 := (sub_rel (R' := [((8, 48, 5), (0, 112, 0), 0, 9)]) hR.1 (by decide) _ List.mem_cons_self)
    have e1 : ri h1 112 0 = ri h 112 0 := ri_fr f1 (by decide)
    rw [if_neg n3, e1, ← e8] at q2
    refine ⟨_, _, h1, h2, q1, q2, mobj hh1, hh2, hj2, fun q hq => ?_, cRel_fr (cRel_fr hR.2.1 f1 (by decide +kernel)) f2 (by decide +kernel), xj_fr (xj_fr hR.2.2 f1 (by decide +kernel)) f2 (by decide +kernel)⟩
    rcases List.mem_cons.mp hq with rfl | hq
    · show ri h2 34 5 = ri h2 111 0
      rw [ri_fr (a := 34) (i := 5) f2 (by decide), z0, k2 n3 0 (by decide), ri_fr (a := 112) (i := 0) f1 (by decide)]
      exact (sub_rel (R' := [((8, 48, 5), (0, 112, 0), 0, 9)]) hR.1 (by decide) _ List.mem_cons_self)
    rcases List.mem_cons.mp hq with rfl | hq
    · exact pRel_fr (pRel_fr (R := [((8, 48, 5), (0, 112, 0), 0, 9)]) (sub_rel hR.1 (by decide)) f1 (by decide +kernel)) f2 (by decide +kernel) _ List.mem_cons_self
    rcases List.mem_cons.mp hq with rfl | hq
    · exact pRel_fr (pRel_fr (R := [((9, 0, 9), (10, 110, 3), 0, 1)]) (sub_rel hR.1 (by decide)) f1 (by decide +kernel)) f2 (by decide +kernel) _ List.mem_cons_self
    rcases List.mem_cons.mp hq with rfl | hq
    · exact pRel_fr (pRel_fr (R := [((5, 82, 1), (0, 114, 0), (-1), 1)]) (sub_rel hR.1 (by decide)) f1 (by decide +kernel)) f2 (by decide +kernel) _ List.mem_cons_self
    rcases List.mem_cons.mp hq with rfl | hq
    · exact pRel_fr (pRel_fr (R := [((5, 84, 1), (0, 114, 1), (-1), 1)]) (sub_rel hR.1 (by decide)) f1 (by decide +kernel)) f2 (by decide +kernel) _ List.mem_cons_self
    rcases List.mem_cons.mp hq with rfl | hq
    · exact pRel_fr (pRel_fr (R := [((5, 86, 1), (0, 114, 2), (-1), 1)]) (sub_rel hR.1 (by decide)) f1 (by decide +kernel)) f2 (by decide +kernel) _ List.mem_cons_self
    rcases List.mem_cons.mp hq with rfl | hq
    · exact pRel_fr (pRel_fr (R := [((5, 88, 1), (0, 114, 3), (-1), 1)]) (sub_rel hR.1 (by decide)) f1 (by decide +kernel)) f2 (by decide +kernel) _ List.mem_cons_self
    rcases List.mem_cons.mp hq with rfl | hq
    · exact pRel_fr (pRel_fr (R := [((5, 82, 2), (0, 115, 0), 0, 24)]) (sub_rel hR.1 (by decide)) f1 (by decide +kernel)) f2 (by decide +kernel) _ List.mem_cons_self
    rcases List.mem_cons.mp hq with rfl | hq
    · exact pRel_fr (pRel_fr (R := [((5, 84, 2), (0, 115, 1), 0, 24)]) (sub_rel hR.1 (by decide)) f1 (by decide +kernel)) f2 (by decide +kernel) _ List.mem_cons_self
    rcases List.mem_cons.mp hq with rfl | hq
    · exact pRel_fr (pRel_fr (R := [((5, 86, 2), (0, 115, 2), 0, 24)]) (sub_rel hR.1 (by decide)) f1 (by decide +kernel)) f2 (by decide +kernel) _ List.mem_cons_self
    rcases List.mem_cons.mp hq with rfl | hq
    · exact pRel_fr (pRel_fr (R := [((5, 88, 2), (0, 115, 3), 0, 24)]) (sub_rel hR.1 (by decide)) f1 (by decide +kernel)) f2 (by decide +kernel) _ List.mem_cons_self
    rcases List.mem_cons.mp hq with rfl | hq
    · exact pRel_fr (pRel_fr (R := [((7, 90, 2), (0, 117, 0), 0, 3)]) (sub_rel hR.1 (by decide)) f1 (by decide +kernel)) f2 (by decide +kernel) _ List.mem_cons_self
    rcases List.mem_cons.mp hq with rfl | hq
    · exact pRel_fr (pRel_fr (R := [((7, 94, 2), (0, 117, 1), 0, 3)]) (sub_rel hR.1 (by decide)) f1 (by decide +kernel)) f2 (by decide +kernel) _ List.mem_cons_self
    rcases List.mem_cons.mp hq with rfl | hq
    · exact pRel_fr (pRel_fr (R := [((7, 98, 2), (0, 117, 2), 0, 3)]) (sub_rel hR.1 (by decide)) f1 (by decide +kernel)) f2 (by decide +kernel) _ List.mem_cons_self
    rcases List.mem_cons.mp hq with rfl | hq
    · exact pRel_fr (pRel_fr (R := [((7, 102, 2), (0, 117, 3), 0, 3)]) (sub_rel hR.1 (by decide)) f1 (by decide +kernel)) f2 (by decide +kernel) _ List.mem_cons_self
    obtain rfl := List.mem_singleton.mp hq
    exact pRel_fr (pRel_fr (R := [((7, 106, 2), (0, 117, 4), 0, 3)]) (sub_rel hR.1 (by decide)) f1 (by decide +kernel)) f2 (by decide +kernel) _ List.mem_cons_self
theorem lw_count (x1 : Int32) (hh : HI HT h) (hj : JT h) (hR : RJ h) : ∃ (r1 r2 : Int32) (h1 h2 : List pC), Run prog E pV1 120 mX7_count [.ref 0, .int x1] h (some (.int r1), h1, 0, 0) ∧ Run prog E pV1 120 mX8_count [.ref 110, .int x1] h1 (some (.int r2), h2, 0, 0) ∧ (∃ o, pobj h1 110 = some o ∧ o.1 = 8) ∧ HI HT h2 ∧ JT h2 ∧ RJ h2 := by
  obtain ⟨r1, h1, q1, hh1, f1, hj1⟩ := pub_of (E := E) (a := 0) (kg_c_count JT_P hands) (N := mX7_count) rfl (List.cons_ne_nil _ _) [x1] rfl (fun q => by cases q) (Nat.le_of_ble_eq_true rfl) hh hj
  obtain ⟨r2, h2, q2, hh2, f2, hj2⟩ := pub_of (E := E) (a := 110) (kg_r_count JT_P hands) (N := mX8_count) rfl (List.cons_ne_nil _ _) [x1] rfl (fun q => by cases q) (Nat.le_of_ble_eq_true rfl) hh1 hj1
  exact ⟨r1, r2, h1, h2, q1, q2, mobj hh1, hh2, hj2, ⟨pRel_fr (pRel_fr hR.1 f1 (by decide +kernel)) f2 (by decide +kernel), cRel_fr (cRel_fr hR.2.1 f1 (by decide +kernel)) f2 (by decide +kernel), xj_fr (xj_fr hR.2.2 f1 (by decide +kernel)) f2 (by decide +kernel)⟩⟩
end LWS
