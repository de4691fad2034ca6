/-! ===== what each pair of calls does: the methods ===== -/
section LWS
variable {E : pX} {h : List pC}
theorem rub_ty {a : Nat} (hh : HI HT h) (he : elT HT 6 a 2 2 = some (.inl (1, 8))) : 1 ≤ (ri h a 2).toInt ∧ (ri h a 2).toInt ≤ 8 := (ri_ty hh he).2
theorem ty_34_5 (hh : HI HT h) (hR : RJ h) : 0 ≤ (ri h 34 5).toInt ∧ (ri h 34 5).toInt ≤ 9 := by
  have e : ri h 34 5 = ri h 111 0 := (hR.1 _ (List.mem_append_left _ List.mem_cons_self))
  have c := (ri_ty (k := 8) (a := 34) (i := 5) (p := (0, 9)) hh rfl).2
  have r := (ri_ty (k := 0) (a := 111) (i := 0) (p := (0, 9)) hh rfl).2
  rw [← e] at r
  dsimp only at c r
  omega
theorem ty_48_5 (hh : HI HT h) (hR : RJ h) : 0 ≤ (ri h 48 5).toInt ∧ (ri h 48 5).toInt ≤ 9 := by
  have e : ri h 48 5 = ri h 112 0 := (hR.1 _ (List.mem_append_left _ (List.mem_cons_of_mem _ List.mem_cons_self)))
  have c := (ri_ty (k := 8) (a := 48) (i := 5) (p := (0, 9)) hh rfl).2
  have r := (ri_ty (k := 0) (a := 112) (i := 0) (p := (0, 9)) hh rfl).2
  rw [← e] at r
  dsimp only at c r
  omega
theorem ty_0_9 (hh : HI HT h) (hR : RJ h) : 0 ≤ (ri h 0 9).toInt ∧ (ri h 0 9).toInt ≤ 1 := by
  have e : ri h 0 9 = ri h 110 3 := (hR.1 _ (List.mem_append_left _ (List.mem_cons_of_mem _ (List.mem_cons_of_mem _ List.mem_cons_self))))
  have c := (ri_ty (k := 9) (a := 0) (i := 9) (p := (0, 1)) hh rfl).2
  have r := (ri_ty (k := 10) (a := 110) (i := 3) (p := (0, 1)) hh rfl).2
  rw [← e] at r
  dsimp only at c r
  omega
theorem ty_34_9 (hh : HI HT h) (hR : RJ h) : (-2147483648) ≤ (ri h 34 9).toInt ∧ (ri h 34 9).toInt ≤ 2147483647 := by
  have e : ri h 34 9 = ri h 111 4 := (hR.1 _ (List.mem_append_left _ (List.mem_cons_of_mem _ (List.mem_cons_of_mem _ (List.mem_cons_of_mem _ List.mem_cons_self)))))
  have c := (ri_ty (k := 8) (a := 34) (i := 9) (p := ((-2147483648), 2147483647)) hh rfl).2
  have r := (ri_ty (k := 0) (a := 111) (i := 4) (p := ((-2147483648), 2147483647)) hh rfl).2
  rw [← e] at r
  dsimp only at c r
  omega
theorem ty_34_7 (hh : HI HT h) (hR : RJ h) : (-2147483648) ≤ (ri h 34 7).toInt ∧ (ri h 34 7).toInt ≤ 2147483647 := by
  have e : ri h 34 7 = ri h 111 2 := (hR.1 _ (List.mem_append_left _ (List.mem_cons_of_mem _ (List.mem_cons_of_mem _ (List.mem_cons_of_mem _ (List.mem_cons_of_mem _ List.mem_cons_self))))))
  have c := (ri_ty (k := 8) (a := 34) (i := 7) (p := ((-2147483648), 2147483647)) hh rfl).2
  have r := (ri_ty (k := 0) (a := 111) (i := 2) (p := ((-2147483648), 2147483647)) hh rfl).2
  rw [← e] at r
  dsimp only at c r
  omega
theorem ty_48_7 (hh : HI HT h) (hR : RJ h) : (-2147483648) ≤ (ri h 48 7).toInt ∧ (ri h 48 7).toInt ≤ 2147483647 := by
  have e : ri h 48 7 = ri h 112 2 := (hR.1 _ (List.mem_append_left _ (List.mem_cons_of_mem _ (List.mem_cons_of_mem _ (List.mem_cons_of_mem _ (List.mem_cons_of_mem _ (List.mem_cons_of_mem _ List.mem_cons_self)))))))
  have c := (ri_ty (k := 8) (a := 48) (i := 7) (p := ((-2147483648), 2147483647)) hh rfl).2
  have r := (ri_ty (k := 0) (a := 112) (i := 2) (p := ((-2147483648), 2147483647)) hh rfl).2
  rw [← e] at r
  dsimp only at c r
  omega
theorem ty_82_1 (hh : HI HT h) (hR : RJ h) : (-1) ≤ (ri h 82 1).toInt ∧ (ri h 82 1).toInt ≤ 1 := by
  have e : ri h 82 1 = ri h 114 0 := (hR.1 _ (List.mem_append_left _ (List.mem_cons_of_mem _ (List.mem_cons_of_mem _ (List.mem_cons_of_mem _ (List.mem_cons_of_mem _ (List.mem_cons_of_mem _ (List.mem_cons_of_mem _ List.mem_cons_self))))))))
  have c := (ri_ty (k := 5) (a := 82) (i := 1) (p := ((-2147483648), 2147483647)) hh rfl).2
  have r := (ri_ty (k := 0) (a := 114) (i := 0) (p := ((-1), 1)) hh rfl).2
  rw [← e] at r
  dsimp only at c r
  omega
theorem ty_84_1 (hh : HI HT h) (hR : RJ h) : (-1) ≤ (ri h 84 1).toInt ∧ (ri h 84 1).toInt ≤ 1 := by
  have e : ri h 84 1 = ri h 114 1 := (hR.1 _ (List.mem_append_left _ (List.mem_cons_of_mem _ (List.mem_cons_of_mem _ (List.mem_cons_of_mem _ (List.mem_cons_of_mem _ (List.mem_cons_of_mem _ (List.mem_cons_of_mem _ (List.mem_cons_of_mem _ List.mem_cons_self)))))))))
  have c := (ri_ty (k := 5) (a := 84) (i := 1) (p := ((-2147483648), 2147483647)) hh rfl).2
  have r := (ri_ty (k := 0) (a := 114) (i := 1) (p := ((-1), 1)) hh rfl).2
  rw [← e] at r
  dsimp only at c r
  omega
theorem ty_86_1 (hh : HI HT h) (hR : RJ h) : (-1) ≤ (ri h 86 1).toInt ∧ (ri h 86 1).toInt ≤ 1 := by
  have e : ri h 86 1 = ri h 114 2 := (hR.1 _ (List.mem_append_left _ (List.mem_cons_of_mem _ (List.mem_cons_of_mem _ (List.mem_cons_of_mem _ (List.mem_cons_of_mem _ (List.mem_cons_of_mem _ (List.mem_cons_of_mem _ (List.mem_cons_of_mem _ (List.mem_cons_of_mem _ List.mem_cons_self))))))))))
  have c := (ri_ty (k := 5) (a := 86) (i := 1) (p := ((-2147483648), 2147483647)) hh rfl).2
  have r := (ri_ty (k := 0) (a := 114) (i := 2) (p := ((-1), 1)) hh rfl).2
  rw [← e] at r
  dsimp only at c r
  omega
theorem ty_88_1 (hh : HI HT h) (hR : RJ h) : (-1) ≤ (ri h 88 1).toInt ∧ (ri h 88 1).toInt ≤ 1 := by
  have e : ri h 88 1 = ri h 114 3 := (hR.1 _ (List.mem_append_left _ (List.mem_cons_of_mem _ (List.mem_cons_of_mem _ (List.mem_cons_of_mem _ (List.mem_cons_of_mem _ (List.mem_cons_of_mem _ (List.mem_cons_of_mem _ (List.mem_cons_of_mem _ (List.mem_cons_of_mem _ (List.mem_cons_of_mem _ List.mem_cons_self)))))))))))
  have c := (ri_ty (k := 5) (a := 88) (i := 1) (p := ((-2147483648), 2147483647)) hh rfl).2
  have r := (ri_ty (k := 0) (a := 114) (i := 3) (p := ((-1), 1)) hh rfl).2
  rw [← e] at r
  dsimp only at c r
  omega
theorem ty_82_2 (hh : HI HT h) (hR : RJ h) : 0 ≤ (ri h 82 2).toInt ∧ (ri h 82 2).toInt ≤ 24 := by
  have e : ri h 82 2 = ri h 115 0 := (hR.1 _ (List.mem_append_left _ (List.mem_cons_of_mem _ (List.mem_cons_of_mem _ (List.mem_cons_of_mem _ (List.mem_cons_of_mem _ (List.mem_cons_of_mem _ (List.mem_cons_of_mem _ (List.mem_cons_of_mem _ (List.mem_cons_of_mem _ (List.mem_cons_of_mem _ (List.mem_cons_of_mem _ List.mem_cons_self))))))))))))
  have c := (ri_ty (k := 5) (a := 82) (i := 2) (p := ((-2147483648), 2147483647)) hh rfl).2
  have r := (ri_ty (k := 0) (a := 115) (i := 0) (p := (0, 24)) hh rfl).2
  rw [← e] at r
  dsimp only at c r
  omega
theorem ty_84_2 (hh : HI HT h) (hR : RJ h) : 0 ≤ (ri h 84 2).toInt ∧ (ri h 84 2).toInt ≤ 24 := by
  have e : ri h 84 2 = ri h 115 1 := (hR.1 _ (List.mem_append_left _ (List.mem_cons_of_mem _ (List.mem_cons_of_mem _ (List.mem_cons_of_mem _ (List.mem_cons_of_mem _ (List.mem_cons_of_mem _ (List.mem_cons_of_mem _ (List.mem_cons_of_mem _ (List.mem_cons_of_mem _ (List.mem_cons_of_mem _ (List.mem_cons_of_mem _ (List.mem_cons_of_mem _ List.mem_cons_self)))))))))))))
  have c := (ri_ty (k := 5) (a := 84) (i := 2) (p := ((-2147483648), 2147483647)) hh rfl).2
  have r := (ri_ty (k := 0) (a := 115) (i := 1) (p := (0, 24)) hh rfl).2
  rw [← e] at r
  dsimp only at c r
  omega
theorem ty_86_2 (hh : HI HT h) (hR : RJ h) : 0 ≤ (ri h 86 2).toInt ∧ (ri h 86 2).toInt ≤ 24 := by
  have e : ri h 86 2 = ri h 115 2 := (hR.1 _ (List.mem_append_left _ (List.mem_cons_of_mem _ (List.mem_cons_of_mem _ (List.mem_cons_of_mem _ (List.mem_cons_of_mem _ (List.mem_cons_of_mem _ (List.mem_cons_of_mem _ (List.mem_cons_of_mem _ (List.mem_cons_of_mem _ (List.mem_cons_of_mem _ (List.mem_cons_of_mem _ (List.mem_cons_of_mem _ (List.mem_cons_of_mem _ List.mem_cons_self))))))))))))))
  have c := (ri_ty (k := 5) (a := 86) (i := 2) (p := ((-2147483648), 2147483647)) hh rfl).2
  have r := (ri_ty (k := 0) (a := 115) (i := 2) (p := (0, 24)) hh rfl).2
  rw [← e] at r
  dsimp only at c r
  omega
theorem ty_88_2 (hh : HI HT h) (hR : RJ h) : 0 ≤ (ri h 88 2).toInt ∧ (ri h 88 2).toInt ≤ 24 := by
  have e : ri h 88 2 = ri h 115 3 := (hR.1 _ (List.mem_append_left _ (List.mem_cons_of_mem _ (List.mem_cons_of_mem _ (List.mem_cons_of_mem _ (List.mem_cons_of_mem _ (List.mem_cons_of_mem _ (List.mem_cons_of_mem _ (List.mem_cons_of_mem _ (List.mem_cons_of_mem _ (List.mem_cons_of_mem _ (List.mem_cons_of_mem _ (List.mem_cons_of_mem _ (List.mem_cons_of_mem _ (List.mem_cons_of_mem _ List.mem_cons_self)))))))))))))))
  have c := (ri_ty (k := 5) (a := 88) (i := 2) (p := ((-2147483648), 2147483647)) hh rfl).2
  have r := (ri_ty (k := 0) (a := 115) (i := 3) (p := (0, 24)) hh rfl).2
  rw [← e] at r
  dsimp only at c r
  omega
/-- of the rubbings that there are: kind, raw, size, turned -/
def RRw (w b : Nat) (h : List pC) : Prop := ∀ k f : Nat, k < 9 → f < 4 → (k : Int) + 1 ≤ (ri h w 5).toInt → ri h (w + 5 + k) f = ri h b (21 + 6 * k + f)
theorem clw_i {w b : Nat} {h : List pC} (hr : RRw w b h) : cRel (CLw w b) h := fun c hc b1 b2 => by
  obtain ⟨k, hk, h1⟩ := List.mem_flatMap.mp hc
  obtain ⟨f, hf, rfl⟩ := List.mem_map.mp h1
  exact hr k f (List.mem_range.mp hk) (List.mem_range.mp hf) b1
theorem clw_e {w b : Nat} {h : List pC} (hc : cRel (CLw w b) h) (h9 : (ri h w 5).toInt ≤ 9) : RRw w b h := fun k f hk hf b1 => hc _ (List.mem_flatMap.mpr ⟨k, List.mem_range.mpr hk, List.mem_map.mpr ⟨f, List.mem_range.mpr hf, rfl⟩⟩) b1 h9
theorem cl_i {h : List pC} (h1 : RRw 34 111 h) (h2 : RRw 48 112 h) (h3 : 1 ≤ (ri h 0 9).toInt → (ri h 0 9).toInt ≤ 1 → ri h 48 9 = ri h 112 4) : cRel CL h := fun c hc => by
  rcases List.mem_append.mp hc with hc | hc
  · exact clw_i h1 c hc
  rcases List.mem_append.mp hc with hc | hc
  · exact clw_i h2 c hc
  · obtain rfl := List.mem_singleton.mp hc
    exact h3
theorem cl_1 {h : List pC} (hc : cRel CL h) (h9 : (ri h 34 5).toInt ≤ 9) : RRw 34 111 h := clw_e (fun c hm => hc c (List.mem_append_left _ hm)) h9
theorem cl_2 {h : List pC} (hc : cRel CL h) (h9 : (ri h 48 5).toInt ≤ 9) : RRw 48 112 h := clw_e (fun c hm => hc c (List.mem_append_right _ (List.mem_append_left _ hm))) h9
theorem cl_3 {h : List pC} (hc : cRel CL h) (a : 1 ≤ (ri h 0 9).toInt) (b : (ri h 0 9).toInt ≤ 1) : ri h 48 9 = ri h 112 4 := hc _ (List.mem_append_right _ (List.mem_append_right _ (List.mem_cons_self))) a b
/-- one wall as another: what is moved -/
def MLr (s t m : Nat) : List ((Nat × Nat) × (Nat × Nat)) := (List.range m).flatMap (fun k => (List.range 4).map (fun f => ((t + 5 + k, f), (s + 5 + k, f))))
theorem mlr_mem {s t m k f : Nat} (hk : k < m) (hf : f < 4) : ((t + 5 + k, f), (s + 5 + k, f)) ∈ MLr s t m := List.mem_flatMap.mpr ⟨k, List.mem_range.mpr hk, List.mem_map.mpr ⟨f, List.mem_range.mpr hf, rfl⟩⟩
def ML_keep (m : Nat) : List ((Nat × Nat) × (Nat × Nat)) := [((48, 9), (34, 9)), ((48, 7), (34, 7))] ++ MLr 34 48 m
theorem keep_0 (hh : HI HT h) (hj : JT h) (hR : RJ h) (hm : (ri h 34 5).toInt = 0) : ∃ h1 : List pC, Run prog E pV1 120 mX7_keep [.ref 0] h (some (.int (nI 0)), h1, 0, 0) ∧ HI HT h1 ∧ JT h1 ∧ Fr [(48, 48, 5, 9), (49, 49, 0, 15), (52, 52, 0, 2), (53, 61, 0, 5), (0, 0, 9, 9)] h h1 ∧ (∀ t ∈ ML_keep 0, ri h1 t.1.1 t.1.2 = ri h t.2.1 t.2.2) ∧ (ri h1 48 5).toInt = 0 ∧ ri h1 0 9 = 1 := by
  have hB : pBd ro_keep0 h := (pBd.cs (by show (0 : Int) ≤ (ri h 34 5).toInt; omega) (by show (ri h 34 5).toInt ≤ 0; omega) (pBd.cs (i32_b _).1 (i32_b _).2 (pBd.cs (i32_b _).1 (i32_b _).2 pBd.nl)))
  obtain ⟨r1, h1, q1, hh1, hj1, f1, z1, z2, z4, z3⟩ := ox_ok (E := E) (xs := []) (R' := ro_keep0) (Q := fun r h' => (∀ t ∈ ML_keep 0, ri h' t.1.1 t.1.2 = ri h t.2.1 t.2.2) ∧ (ri h' 48 5).toInt = 0 ∧ ri h' 0 9 = 1 ∧ r = some (.int (nI 0))) ox_keep0 rfl (fun _ h => absurd h List.not_mem_nil) hj hh (kn_rel hR.1 hR.2.1 hB (by decide +kernel)) hB trivial (fun e he => by cases he) (fun σ Γ C Δ x r h' he ha _ hC _ hr => by
    obtain ⟨a1, u, a2, a3⟩ := ecV_ok he hC hr
    refine ⟨fun t ht => mv_ok (xs := []) (bx := []) (R' := ro_keep0) (List.all_eq_true.mp (show (ML_keep 0).all (mvB ro_keep0 [(48, 9, (1, 1, 0, 2)), (48, 7, (1, 1, 0, 3)), (48, 5, (0, 0, 0, 0)), (0, 9, (0, 1, 1, 0))] 0) = true by decide +kernel) t ht) a1 ha rfl, zcn (a1 (48, 5, cn 0) (by decide +kernel)), Int32.toInt_inj.mp (zcn (a1 (0, 9, cn 1) (by decide +kernel))), ?_⟩
    rw [a2, show u = nI 0 from Int32.toInt_inj.mp ((zcn (a3 _ rfl)).trans (by decide))])
  subst z3
  exact ⟨h1, q1, hh1, hj1, f1, z1, z2, z4⟩
theorem keep_1 (hh : HI HT h) (hj : JT h) (hR : RJ h) (hm : (ri h 34 5).toInt = 1) : ∃ h1 : List pC, Run prog E pV1 120 mX7_keep [.ref 0] h (some (.int (nI 1)), h1, 0, 0) ∧ HI HT h1 ∧ JT h1 ∧ Fr [(48, 48, 5, 9), (49, 49, 0, 15), (52, 52, 0, 2), (53, 61, 0, 5), (0, 0, 9, 9)] h h1 ∧ (∀ t ∈ ML_keep 1, ri h1 t.1.1 t.1.2 = ri h t.2.1 t.2.2) ∧ (ri h1 48 5).toInt = 1 ∧ ri h1 0 9 = 1 := by
  have hB : pBd ro_keep1 h := (pBd.cs (by show (1 : Int) ≤ (ri h 34 5).toInt; omega) (by show (ri h 34 5).toInt ≤ 1; omega) (pBd.cs (i32_b _).1 (i32_b _).2 (pBd.cs (i32_b _).1 (i32_b _).2 (pBd.cs (i32_b _).1 (i32_b _).2 (pBd.cs (i32_b _).1 (i32_b _).2 (pBd.cs (rub_ty (a := 39) hh rfl).1 (rub_ty (a := 39) hh rfl).2 (pBd.cs (i32_b _).1 (i32_b _).2 pBd.nl)))))))
  obtain ⟨r1, h1, q1, hh1, hj1, f1, z1, z2, z4, z3⟩ := ox_ok (E := E) (xs := []) (R' := ro_keep1) (Q := fun r h' => (∀ t ∈ ML_keep 1, ri h' t.1.1 t.1.2 = ri h t.2.1 t.2.2) ∧ (ri h' 48 5).toInt = 1 ∧ ri h' 0 9 = 1 ∧ r = some (.int (nI 1))) ox_keep1 rfl (fun _ h => absurd h List.not_mem_nil) hj hh (kn_rel hR.1 hR.2.1 hB (by decide +kernel)) hB trivial (fun e he => by cases he) (fun σ Γ C Δ x r h' he ha _ hC _ hr => by
    obtain ⟨a1, u, a2, a3⟩ := ecV_ok he hC hr
    refine ⟨fun t ht => mv_ok (xs := []) (bx := []) (R' := ro_keep1) (List.all_eq_true.mp (show (ML_keep 1).all (mvB ro_keep1 [(48, 9, (1, 1, 0, 2)), (48, 7, (1, 1, 0, 3)), (53, 0, (1, 1, 0, 4)), (53, 1, (1, 1, 0, 5)), (53, 2, (1, 1, 0, 6)), (53, 3, (1, 1, 0, 7)), (48, 5, (0, 1, 1, 0)), (0, 9, (0, 1, 1, 0))] 0) = true by decide +kernel) t ht) a1 ha rfl, zcn (a1 (48, 5, cn 1) (by decide +kernel)), Int32.toInt_inj.mp (zcn (a1 (0, 9, cn 1) (by decide +kernel))), ?_⟩
    rw [a2, show u = nI 1 from Int32.toInt_inj.mp ((zcn (a3 _ rfl)).trans (by decide))])
  subst z3
  exact ⟨h1, q1, hh1, hj1, f1, z1, z2, z4⟩
theorem keep_2 (hh : HI HT h) (hj : JT h) (hR : RJ h) (hm : (ri h 34 5).toInt = 2) : ∃ h1 : List pC, Run prog E pV1 120 mX7_keep [.ref 0] h (some (.int (nI 2)), h1, 0, 0) ∧ HI HT h1 ∧ JT h1 ∧ Fr [(48, 48, 5, 9), (49, 49, 0, 15), (52, 52, 0, 2), (53, 61, 0, 5), (0, 0, 9, 9)] h h1 ∧ (∀ t ∈ ML_keep 2, ri h1 t.1.1 t.1.2 = ri h t.2.1 t.2.2) ∧ (ri h1 48 5).toInt = 2 ∧ ri h1 0 9 = 1 := by
  have hB : pBd ro_keep2 h := (pBd.cs (by show (2 : Int) ≤ (ri h 34 5).toInt; omega) (by show (ri h 34 5).toInt ≤ 2; omega) (pBd.cs (i32_b _).1 (i32_b _).2 (pBd.cs (i32_b _).1 (i32_b _).2 (pBd.cs (i32_b _).1 (i32_b _).2 (pBd.cs (i32_b _).1 (i32_b _).2 (pBd.cs (rub_ty (a := 39) hh rfl).1 (rub_ty (a := 39) hh rfl).2 (pBd.cs (i32_b _).1 (i32_b _).2 (pBd.cs (i32_b _).1 (i32_b _).2 (pBd.cs (i32_b _).1 (i32_b _).2 (pBd.cs (rub_ty (a := 40) hh rfl).1 (rub_ty (a := 40) hh rfl).2 (pBd.cs (i32_b _).1 (i32_b _).2 pBd.nl)))))))))))
  obtain ⟨r1, h1, q1, hh1, hj1, f1, z1, z2, z4, z3⟩ := ox_ok (E := E) (xs := []) (R' := ro_keep2) (Q := fun r h' => (∀ t ∈ ML_keep 2, ri h' t.1.1 t.1.2 = ri h t.2.1 t.2.2) ∧ (ri h' 48 5).toInt = 2 ∧ ri h' 0 9 = 1 ∧ r = some (.int (nI 2))) ox_keep2 rfl (fun _ h => absurd h List.not_mem_nil) hj hh (kn_rel hR.1 hR.2.1 hB (by decide +kernel)) hB trivial (fun e he => by cases he) (fun σ Γ C Δ x r h' he ha _ hC _ hr => by
    obtain ⟨a1, u, a2, a3⟩ := ecV_ok he hC hr
    refine ⟨fun t ht => mv_ok (xs := []) (bx := []) (R' := ro_keep2) (List.all_eq_true.mp (show (ML_keep 2).all (mvB ro_keep2 [(48, 9, (1, 1, 0, 2)), (48, 7, (1, 1, 0, 3)), (53, 0, (1, 1, 0, 4)), (53, 1, (1, 1, 0, 5)), (53, 2, (1, 1, 0, 6)), (53, 3, (1, 1, 0, 7)), (54, 0, (1, 1, 0, 8)), (54, 1, (1, 1, 0, 9)), (54, 2, (1, 1, 0, 10)), (54, 3, (1, 1, 0, 11)), (48, 5, (0, 2, 2, 0)), (0, 9, (0, 1, 1, 0))] 0) = true by decide +kernel) t ht) a1 ha rfl, zcn (a1 (48, 5, cn 2) (by decide +kernel)), Int32.toInt_inj.mp (zcn (a1 (0, 9, cn 1) (by decide +kernel))), ?_⟩
    rw [a2, show u = nI 2 from Int32.toInt_inj.mp ((zcn (a3 _ rfl)).trans (by decide))])
  subst z3
  exact ⟨h1, q1, hh1, hj1, f1, z1, z2, z4⟩
theorem keep_3 (hh : HI HT h) (hj : JT h) (hR : RJ h) (hm : (ri h 34 5).toInt = 3) : ∃ h1 : List pC, Run prog E pV1 120 mX7_keep [.ref 0] h (some (.int (nI 3)), h1, 0, 0) ∧ HI HT h1 ∧ JT h1 ∧ Fr [(48, 48, 5, 9), (49, 49, 0, 15), (52, 52, 0, 2), (53, 61, 0, 5), (0, 0, 9, 9)] h h1 ∧ (∀ t ∈ ML_keep 3, ri h1 t.1.1 t.1.2 = ri h t.2.1 t.2.2) ∧ (ri h1 48 5).toInt = 3 ∧ ri h1 0 9 = 1 := by
  have hB : pBd ro_keep3 h := (pBd.cs (by show (3 : Int) ≤ (ri h 34 5).toInt; omega) (by show (ri h 34 5).toInt ≤ 3; omega) (pBd.cs (i32_b _).1 (i32_b _).2 (pBd.cs (i32_b _).1 (i32_b _).2 (pBd.cs (i32_b _).1 (i32_b _).2 (pBd.cs (i32_b _).1 (i32_b _).2 (pBd.cs (rub_ty (a := 39) hh rfl).1 (rub_ty (a := 39) hh rfl).2 (pBd.cs (i32_b _).1 (i32_b _).2 (pBd.cs (i32_b _).1 (i32_b _).2 (pBd.cs (i32_b _).1 (i32_b _).2 (pBd.cs (rub_ty (a := 40) hh rfl).1 (rub_ty (a := 40) hh rfl).2 (pBd.cs (i32_b _).1 (i32_b _).2 (pBd.cs (i32_b _).1 (i32_b _).2 (pBd.cs (i32_b _).1 (i32_b _).2 (pBd.cs (rub_ty (a := 41) hh rfl).1 (rub_ty (a := 41) hh rfl).2 (pBd.cs (i32_b _).1 (i32_b _).2 pBd.nl)))))))))))))))
  obtain ⟨r1, h1, q1, hh1, hj1, f1, z1, z2, z4, z3⟩ := ox_ok (E := E) (xs := []) (R' := ro_keep3) (Q := fun r h' => (∀ t ∈ ML_keep 3, ri h' t.1.1 t.1.2 = ri h t.2.1 t.2.2) ∧ (ri h' 48 5).toInt = 3 ∧ ri h' 0 9 = 1 ∧ r = some (.int (nI 3))) ox_keep3 rfl (fun _ h => absurd h List.not_mem_nil) hj hh (kn_rel hR.1 hR.2.1 hB (by decide +kernel)) hB trivial (fun e he => by cases he) (fun σ Γ C Δ x r h' he ha _ hC _ hr => by
    obtain ⟨a1, u, a2, a3⟩ := ecV_ok he hC hr
    refine ⟨fun t ht => mv_ok (xs := []) (bx := []) (R' := ro_keep3) (List.all_eq_true.mp (show (ML_keep 3).all (mvB ro_keep3 [(48, 9, (1, 1, 0, 2)), (48, 7, (1, 1, 0, 3)), (53, 0, (1, 1, 0, 4)), (53, 1, (1, 1, 0, 5)), (53, 2, (1, 1, 0, 6)), (53, 3, (1, 1, 0, 7)), (54, 0, (1, 1, 0, 8)), (54, 1, (1, 1, 0, 9)), (54, 2, (1, 1, 0, 10)), (54, 3, (1, 1, 0, 11)), (55, 0, (1, 1, 0, 12)), (55, 1, (1, 1, 0, 13)), (55, 2, (1, 1, 0, 14)), (55, 3, (1, 1, 0, 15)), (48, 5, (0, 3, 3, 0)), (0, 9, (0, 1, 1, 0))] 0) = true by decide +kernel) t ht) a1 ha rfl, zcn (a1 (48, 5, cn 3) (by decide +kernel)), Int32.toInt_inj.mp (zcn (a1 (0, 9, cn 1) (by decide +kernel))), ?_⟩
    rw [a2, show u = nI 3 from Int32.toInt_inj.mp ((zcn (a3 _ rfl)).trans (by decide))])
  subst z3
  exact ⟨h1, q1, hh1, hj1, f1, z1, z2, z4⟩
theorem keep_4 (hh : HI HT h) (hj : JT h) (hR : RJ h) (hm : (ri h 34 5).toInt = 4) : ∃ h1 : List pC, Run prog E pV1 120 mX7_keep [.ref 0] h (some (.int (nI 4)), h1, 0, 0) ∧ HI HT h1 ∧ JT h1 ∧ Fr [(48, 48, 5, 9), (49, 49, 0, 15), (52, 52, 0, 2), (53, 61, 0, 5), (0, 0, 9, 9)] h h1 ∧ (∀ t ∈ ML_keep 4, ri h1 t.1.1 t.1.2 = ri h t.2.1 t.2.2) ∧ (ri h1 48 5).toInt = 4 ∧ ri h1 0 9 = 1 := by
  have hB : pBd ro_keep4 h := (pBd.cs (by show (4 : Int) ≤ (ri h 34 5).toInt; omega) (by show (ri h 34 5).toInt ≤ 4; omega) (pBd.cs (i32_b _).1 (i32_b _).2 (pBd.cs (i32_b _).1 (i32_b _).2 (pBd.cs (i32_b _).1 (i32_b _).2 (pBd.cs (i32_b _).1 (i32_b _).2 (pBd.cs (rub_ty (a := 39) hh rfl).1 (rub_ty (a := 39) hh rfl).2 (pBd.cs (i32_b _).1 (i32_b _).2 (pBd.cs (i32_b _).1 (i32_b _).2 (pBd.cs (i32_b _).1 (i32_b _).2 (pBd.cs (rub_ty (a := 40) hh rfl).1 (rub_ty (a := 40) hh rfl).2 (pBd.cs (i32_b _).1 (i32_b _).2 (pBd.cs (i32_b _).1 (i32_b _).2 (pBd.cs (i32_b _).1 (i32_b _).2 (pBd.cs (rub_ty (a := 41) hh rfl).1 (rub_ty (a := 41) hh rfl).2 (pBd.cs (i32_b _).1 (i32_b _).2 (pBd.cs (i32_b _).1 (i32_b _).2 (pBd.cs (i32_b _).1 (i32_b _).2 (pBd.cs (rub_ty (a := 42) hh rfl).1 (rub_ty (a := 42) hh rfl).2 (pBd.cs (i32_b _).1 (i32_b _).2 pBd.nl)))))))))))))))))))
  obtain ⟨r1, h1, q1, hh1, hj1, f1, z1, z2, z4, z3⟩ := ox_ok (E := E) (xs := []) (R' := ro_keep4) (Q := fun r h' => (∀ t ∈ ML_keep 4, ri h' t.1.1 t.1.2 = ri h t.2.1 t.2.2) ∧ (ri h' 48 5).toInt = 4 ∧ ri h' 0 9 = 1 ∧ r = some (.int (nI 4))) ox_keep4 rfl (fun _ h => absurd h List.not_mem_nil) hj hh (kn_rel hR.1 hR.2.1 hB (by decide +kernel)) hB trivial (fun e he => by cases he) (fun σ Γ C Δ x r h' he ha _ hC _ hr => by
    obtain ⟨a1, u, a2, a3⟩ := ecV_ok he hC hr
    refine ⟨fun t ht => mv_ok (xs := []) (bx := []) (R' := ro_keep4) (List.all_eq_true.mp (show (ML_keep 4).all (mvB ro_keep4 [(48, 9, (1, 1, 0, 2)), (48, 7, (1, 1, 0, 3)), (53, 0, (1, 1, 0, 4)), (53, 1, (1, 1, 0, 5)), (53, 2, (1, 1, 0, 6)), (53, 3, (1, 1, 0, 7)), (54, 0, (1, 1, 0, 8)), (54, 1, (1, 1, 0, 9)), (54, 2, (1, 1, 0, 10)), (54, 3, (1, 1, 0, 11)), (55, 0, (1, 1, 0, 12)), (55, 1, (1, 1, 0, 13)), (55, 2, (1, 1, 0, 14)), (55, 3, (1, 1, 0, 15)), (56, 0, (1, 1, 0, 16)), (56, 1, (1, 1, 0, 17)), (56, 2, (1, 1, 0, 18)), (56, 3, (1, 1, 0, 19)), (48, 5, (0, 4, 4, 0)), (0, 9, (0, 1, 1, 0))] 0) = true by decide +kernel) t ht) a1 ha rfl, zcn (a1 (48, 5, cn 4) (by decide +kernel)), Int32.toInt_inj.mp (zcn (a1 (0, 9, cn 1) (by decide +kernel))), ?_⟩
    rw [a2, show u = nI 4 from Int32.toInt_inj.mp ((zcn (a3 _ rfl)).trans (by decide))])
  subst z3
  exact ⟨h1, q1, hh1, hj1, f1, z1, z2, z4⟩
theorem keep_5 (hh : HI HT h) (hj : JT h) (hR : RJ h) (hm : (ri h 34 5).toInt = 5) : ∃ h1 : List pC, Run prog E pV1 120 mX7_keep [.ref 0] h (some (.int (nI 5)), h1, 0, 0) ∧ HI HT h1 ∧ JT h1 ∧ Fr [(48, 48, 5, 9), (49, 49, 0, 15), (52, 52, 0, 2), (53, 61, 0, 5), (0, 0, 9, 9)] h h1 ∧ (∀ t ∈ ML_keep 5, ri h1 t.1.1 t.1.2 = ri h t.2.1 t.2.2) ∧ (ri h1 48 5).toInt = 5 ∧ ri h1 0 9 = 1 := by
  have hB : pBd ro_keep5 h := (pBd.cs (by show (5 : Int) ≤ (ri h 34 5).toInt; omega) (by show (ri h 34 5).toInt ≤ 5; omega) (pBd.cs (i32_b _).1 (i32_b _).2 (pBd.cs (i32_b _).1 (i32_b _).2 (pBd.cs (i32_b _).1 (i32_b _).2 (pBd.cs (i32_b _).1 (i32_b _).2 (pBd.cs (rub_ty (a := 39) hh rfl).1 (rub_ty (a := 39) hh rfl).2 (pBd.cs (i32_b _).1 (i32_b _).2 (pBd.cs (i32_b _).1 (i32_b _).2 (pBd.cs (i32_b _).1 (i32_b _).2 (pBd.cs (rub_ty (a := 40) hh rfl).1 (rub_ty (a := 40) hh rfl).2 (pBd.cs (i32_b _).1 (i32_b _).2 (pBd.cs (i32_b _).1 (i32_b _).2 (pBd.cs (i32_b _).1 (i32_b _).2 (pBd.cs (rub_ty (a := 41) hh rfl).1 (rub_ty (a := 41) hh rfl).2 (pBd.cs (i32_b _).1 (i32_b _).2 (pBd.cs (i32_b _).1 (i32_b _).2 (pBd.cs (i32_b _).1 (i32_b _).2 (pBd.cs (rub_ty (a := 42) hh rfl).1 (rub_ty (a := 42) hh rfl).2 (pBd.cs (i32_b _).1 (i32_b _).2 (pBd.cs (i32_b _).1 (i32_b _).2 (pBd.cs (i32_b _).1 (i32_b _).2 (pBd.cs (rub_ty (a := 43) hh rfl).1 (rub_ty (a := 43) hh rfl).2 (pBd.cs (i32_b _).1 (i32_b _).2 pBd.nl)))))))))))))))))))))))
  obtain ⟨r1, h1, q1, hh1, hj1, f1, z1, z2, z4, z3⟩ := ox_ok (E := E) (xs := []) (R' := ro_keep5) (Q := fun r h' => (∀ t ∈ ML_keep 5, ri h' t.1.1 t.1.2 = ri h t.2.1 t.2.2) ∧ (ri h' 48 5).toInt = 5 ∧ ri h' 0 9 = 1 ∧ r = some (.int (nI 5))) ox_keep5 rfl (fun _ h => absurd h List.not_mem_nil) hj hh (kn_rel hR.1 hR.2.1 hB (by decide +kernel)) hB trivial (fun e he => by cases he) (fun σ Γ C Δ x r h' he ha _ hC _ hr => by
    obtain ⟨a1, u, a2, a3⟩ := ecV_ok he hC hr
    refine ⟨fun t ht => mv_ok (xs := []) (bx := []) (R' := ro_keep5) (List.all_eq_true.mp (show (ML_keep 5).all (mvB ro_keep5 [(48, 9, (1, 1, 0, 2)), (48, 7, (1, 1, 0, 3)), (53, 0, (1, 1, 0, 4)), (53, 1, (1, 1, 0, 5)), (53, 2, (1, 1, 0, 6)), (53, 3, (1, 1, 0, 7)), (54, 0, (1, 1, 0, 8)), (54, 1, (1, 1, 0, 9)), (54, 2, (1, 1, 0, 10)), (54, 3, (1, 1, 0, 11)), (55, 0, (1, 1, 0, 12)), (55, 1, (1, 1, 0, 13)), (55, 2, (1, 1, 0, 14)), (55, 3, (1, 1, 0, 15)), (56, 0, (1, 1, 0, 16)), (56, 1, (1, 1, 0, 17)), (56, 2, (1, 1, 0, 18)), (56, 3, (1, 1, 0, 19)), (57, 0, (1, 1, 0, 20)), (57, 1, (1, 1, 0, 21)), (57, 2, (1, 1, 0, 22)), (57, 3, (1, 1, 0, 23)), (48, 5, (0, 5, 5, 0)), (0, 9, (0, 1, 1, 0))] 0) = true by decide +kernel) t ht) a1 ha rfl, zcn (a1 (48, 5, cn 5) (by decide +kernel)), Int32.toInt_inj.mp (zcn (a1 (0, 9, cn 1) (by decide +kernel))), ?_⟩
    rw [a2, show u = nI 5 from Int32.toInt_inj.mp ((zcn (a3 _ rfl)).trans (by decide))])
  subst z3
  exact ⟨h1, q1, hh1, hj1, f1, z1, z2, z4⟩
theorem keep_6 (hh : HI HT h) (hj : JT h) (hR : RJ h) (hm : (ri h 34 5).toInt = 6) : ∃ h1 : List pC, Run prog E pV1 120 mX7_keep [.ref 0] h (some (.int (nI 6)), h1, 0, 0) ∧ HI HT h1 ∧ JT h1 ∧ Fr [(48, 48, 5, 9), (49, 49, 0, 15), (52, 52, 0, 2), (53, 61, 0, 5), (0, 0, 9, 9)] h h1 ∧ (∀ t ∈ ML_keep 6, ri h1 t.1.1 t.1.2 = ri h t.2.1 t.2.2) ∧ (ri h1 48 5).toInt = 6 ∧ ri h1 0 9 = 1 := by
  have hB : pBd ro_keep6 h := (pBd.cs (by show (6 : Int) ≤ (ri h 34 5).toInt; omega) (by show (ri h 34 5).toInt ≤ 6; omega) (pBd.cs (i32_b _).1 (i32_b _).2 (pBd.cs (i32_b _).1 (i32_b _).2 (pBd.cs (i32_b _).1 (i32_b _).2 (pBd.cs (i32_b _).1 (i32_b _).2 (pBd.cs (rub_ty (a := 39) hh rfl).1 (rub_ty (a := 39) hh rfl).2 (pBd.cs (i32_b _).1 (i32_b _).2 (pBd.cs (i32_b _).1 (i32_b _).2 (pBd.cs (i32_b _).1 (i32_b _).2 (pBd.cs (rub_ty (a := 40) hh rfl).1 (rub_ty (a := 40) hh rfl).2 (pBd.cs (i32_b _).1 (i32_b _).2 (pBd.cs (i32_b _).1 (i32_b _).2 (pBd.cs (i32_b _).1 (i32_b _).2 (pBd.cs (rub_ty (a := 41) hh rfl).1 (rub_ty (a := 41) hh rfl).2 (pBd.cs (i32_b _).1 (i32_b _).2 (pBd.cs (i32_b _).1 (i32_b _).2 (pBd.cs (i32_b _).1 (i32_b _).2 (pBd.cs (rub_ty (a := 42) hh rfl).1 (rub_ty (a := 42) hh rfl).2 (pBd.cs (i32_b _).1 (i32_b _).2 (pBd.cs (i32_b _).1 (i32_b _).2 (pBd.cs (i32_b _).1 (i32_b _).2 (pBd.cs (rub_ty (a := 43) hh rfl).1 (rub_ty (a := 43) hh rfl).2 (pBd.cs (i32_b _).1 (i32_b _).2 (pBd.cs (i32_b _).1 (i32_b _).2 (pBd.cs (i32_b _).1 (i32_b _).2 (pBd.cs (rub_ty (a := 44) hh rfl).1 (rub_ty (a := 44) hh rfl).2 (pBd.cs (i32_b _).1 (i32_b _).2 pBd.nl)))))))))))))))))))))))))))
  obtain ⟨r1, h1, q1, hh1, hj1, f1, z1, z2, z4, z3⟩ := ox_ok (E := E) (xs := []) (R' := ro_keep6) (Q := fun r h' => (∀ t ∈ ML_keep 6, ri h' t.1.1 t.1.2 = ri h t.2.1 t.2.2) ∧ (ri h' 48 5).toInt = 6 ∧ ri h' 0 9 = 1 ∧ r = some (.int (nI 6))) ox_keep6 rfl (fun _ h => absurd h List.not_mem_nil) hj hh (kn_rel hR.1 hR.2.1 hB (by decide +kernel)) hB trivial (fun e he => by cases he) (fun σ Γ C Δ x r h' he ha _ hC _ hr => by
    obtain ⟨a1, u, a2, a3⟩ := ecV_ok he hC hr
    refine ⟨fun t ht => mv_ok (xs := []) (bx := []) (R' := ro_keep6) (List.all_eq_true.mp (show (ML_keep 6).all (mvB ro_keep6 [(48, 9, (1, 1, 0, 2)), (48, 7, (1, 1, 0, 3)), (53, 0, (1, 1, 0, 4)), (53, 1, (1, 1, 0, 5)), (53, 2, (1, 1, 0, 6)), (53, 3, (1, 1, 0, 7)), (54, 0, (1, 1, 0, 8)), (54, 1, (1, 1, 0, 9)), (54, 2, (1, 1, 0, 10)), (54, 3, (1, 1, 0, 11)), (55, 0, (1, 1, 0, 12)), (55, 1, (1, 1, 0, 13)), (55, 2, (1, 1, 0, 14)), (55, 3, (1, 1, 0, 15)), (56, 0, (1, 1, 0, 16)), (56, 1, (1, 1, 0, 17)), (56, 2, (1, 1, 0, 18)), (56, 3, (1, 1, 0, 19)), (57, 0, (1, 1, 0, 20)), (57, 1, (1, 1, 0, 21)), (57, 2, (1, 1, 0, 22)), (57, 3, (1, 1, 0, 23)), (58, 0, (1, 1, 0, 24)), (58, 1, (1, 1, 0, 25)), (58, 2, (1, 1, 0, 26)), (58, 3, (1, 1, 0, 27)), (48, 5, (0, 6, 6, 0)), (0, 9, (0, 1, 1, 0))] 0) = true by decide +kernel) t ht) a1 ha rfl, zcn (a1 (48, 5, cn 6) (by decide +kernel)), Int32.toInt_inj.mp (zcn (a1 (0, 9, cn 1) (by decide +kernel))), ?_⟩
    rw [a2, show u = nI 6 from Int32.toInt_inj.mp ((zcn (a3 _ rfl)).trans (by decide))])
  subst z3
  exact ⟨h1, q1, hh1, hj1, f1, z1, z2, z4⟩
theorem keep_7 (hh : HI HT h) (hj : JT h) (hR : RJ h) (hm : (ri h 34 5).toInt = 7) : ∃ h1 : List pC, Run prog E pV1 120 mX7_keep [.ref 0] h (some (.int (nI 7)), h1, 0, 0) ∧ HI HT h1 ∧ JT h1 ∧ Fr [(48, 48, 5, 9), (49, 49, 0, 15), (52, 52, 0, 2), (53, 61, 0, 5), (0, 0, 9, 9)] h h1 ∧ (∀ t ∈ ML_keep 7, ri h1 t.1.1 t.1.2 = ri h t.2.1 t.2.2) ∧ (ri h1 48 5).toInt = 7 ∧ ri h1 0 9 = 1 := by
  have hB : pBd ro_keep7 h := (pBd.cs (by show (7 : Int) ≤ (ri h 34 5).toInt; omega) (by show (ri h 34 5).toInt ≤ 7; omega) (pBd.cs (i32_b _).1 (i32_b _).2 (pBd.cs (i32_b _).1 (i32_b _).2 (pBd.cs (i32_b _).1 (i32_b _).2 (pBd.cs (i32_b _).1 (i32_b _).2 (pBd.cs (rub_ty (a := 39) hh rfl).1 (rub_ty (a := 39) hh rfl).2 (pBd.cs (i32_b _).1 (i32_b _).2 (pBd.cs (i32_b _).1 (i32_b _).2 (pBd.cs (i32_b _).1 (i32_b _).2 (pBd.cs (rub_ty (a := 40) hh rfl).1 (rub_ty (a := 40) hh rfl).2 (pBd.cs (i32_b _).1 (i32_b _).2 (pBd.cs (i32_b _).1 (i32_b _).2 (pBd.cs (i32_b _).1 (i32_b _).2 (pBd.cs (rub_ty (a := 41) hh rfl).1 (rub_ty (a := 41) hh rfl).2 (pBd.cs (i32_b _).1 (i32_b _).2 (pBd.cs (i32_b _).1 (i32_b _).2 (pBd.cs (i32_b _).1 (i32_b _).2 (pBd.cs (rub_ty (a := 42) hh rfl).1 (rub_ty (a := 42) hh rfl).2 (pBd.cs (i32_b _).1 (i32_b _).2 (pBd.cs (i32_b _).1 (i32_b _).2 (pBd.cs (i32_b _).1 (i32_b _).2 (pBd.cs (rub_ty (a := 43) hh rfl).1 (rub_ty (a := 43) hh rfl).2 (pBd.cs (i32_b _).1 (i32_b _).2 (pBd.cs (i32_b _).1 (i32_b _).2 (pBd.cs (i32_b _).1 (i32_b _).2 (pBd.cs (rub_ty (a := 44) hh rfl).1 (rub_ty (a := 44) hh rfl).2 (pBd.cs (i32_b _).1 (i32_b _).2 (pBd.cs (i32_b _).1 (i32_b _).2 (pBd.cs (i32_b _).1 (i32_b _).2 (pBd.cs (rub_ty (a := 45) hh rfl).1 (rub_ty (a := 45) hh rfl).2 (pBd.cs (i32_b _).1 (i32_b _).2 pBd.nl)))))))))))))))))))))))))))))))
  obtain ⟨r1, h1, q1, hh1, hj1, f1, z1, z2, z4, z3⟩ := ox_ok (E := E) (xs := []) (R' := ro_keep7) (Q := fun r h' => (∀ t ∈ ML_keep 7, ri h' t.1.1 t.1.2 = ri h t.2.1 t.2.2) ∧ (ri h' 48 5).toInt = 7 ∧ ri h' 0 9 = 1 ∧ r = some (.int (nI 7))) ox_keep7 rfl (fun _ h => absurd h List.not_mem_nil) hj hh (kn_rel hR.1 hR.2.1 hB (by decide +kernel)) hB trivial (fun e he => by cases he) (fun σ Γ C Δ x r h' he ha _ hC _ hr => by
    obtain ⟨a1, u, a2, a3⟩ := ecV_ok he hC hr
    refine ⟨fun t ht => mv_ok (xs := []) (bx := []) (R' := ro_keep7) (List.all_eq_true.mp (show (ML_keep 7).all (mvB ro_keep7 [(48, 9, (1, 1, 0, 2)), (48, 7, (1, 1, 0, 3)), (53, 0, (1, 1, 0, 4)), (53, 1, (1, 1, 0, 5)), (53, 2, (1, 1, 0, 6)), (53, 3, (1, 1, 0, 7)), (54, 0, (1, 1, 0, 8)), (54, 1, (1, 1, 0, 9)), (54, 2, (1, 1, 0, 10)), (54, 3, (1, 1, 0, 11)), (55, 0, (1, 1, 0, 12)), (55, 1, (1, 1, 0, 13)), (55, 2, (1, 1, 0, 14)), (55, 3, (1, 1, 0, 15)), (56, 0, (1, 1, 0, 16)), (56, 1, (1, 1, 0, 17)), (56, 2, (1, 1, 0, 18)), (56, 3, (1, 1, 0, 19)), (57, 0, (1, 1, 0, 20)), (57, 1, (1, 1, 0, 21)), (57, 2, (1, 1, 0, 22)), (57, 3, (1, 1, 0, 23)), (58, 0, (1, 1, 0, 24)), (58, 1, (1, 1, 0, 25)), (58, 2, (1, 1, 0, 26)), (58, 3, (1, 1, 0, 27)), (59, 0, (1, 1, 0, 28)), (59, 1, (1, 1, 0, 29)), (59, 2, (1, 1, 0, 30)), (59, 3, (1, 1, 0, 31)), (48, 5, (0, 7, 7, 0)), (0, 9, (0, 1, 1, 0))] 0) = true by decide +kernel) t ht) a1 ha rfl, zcn (a1 (48, 5, cn 7) (by decide +kernel)), Int32.toInt_inj.mp (zcn (a1 (0, 9, cn 1) (by decide +kernel))), ?_⟩
    rw [a2, show u = nI 7 from Int32.toInt_inj.mp ((zcn (a3 _ rfl)).trans (by decide))])
  subst z3
  exact ⟨h1, q1, hh1, hj1, f1, z1, z2, z4⟩
theorem keep_8 (hh : HI HT h) (hj : JT h) (hR : RJ h) (hm : (ri h 34 5).toInt = 8) : ∃ h1 : List pC, Run prog E pV1 120 mX7_keep [.ref 0] h (some (.int (nI 8)), h1, 0, 0) ∧ HI HT h1 ∧ JT h1 ∧ Fr [(48, 48, 5, 9), (49, 49, 0, 15), (52, 52, 0, 2), (53, 61, 0, 5), (0, 0, 9, 9)] h h1 ∧ (∀ t ∈ ML_keep 8, ri h1 t.1.1 t.1.2 = ri h t.2.1 t.2.2) ∧ (ri h1 48 5).toInt = 8 ∧ ri h1 0 9 = 1 := by
  have hB : pBd ro_keep8 h := (pBd.cs (by show (8 : Int) ≤ (ri h 34 5).toInt; omega) (by show (ri h 34 5).toInt ≤ 8; omega) (pBd.cs (i32_b _).1 (i32_b _).2 (pBd.cs (i32_b _).1 (i32_b _).2 (pBd.cs (i32_b _).1 (i32_b _).2 (pBd.cs (i32_b _).1 (i32_b _).2 (pBd.cs (rub_ty (a := 39) hh rfl).1 (rub_ty (a := 39) hh rfl).2 (pBd.cs (i32_b _).1 (i32_b _).2 (pBd.cs (i32_b _).1 (i32_b _).2 (pBd.cs (i32_b _).1 (i32_b _).2 (pBd.cs (rub_ty (a := 40) hh rfl).1 (rub_ty (a := 40) hh rfl).2 (pBd.cs (i32_b _).1 (i32_b _).2 (pBd.cs (i32_b _).1 (i32_b _).2 (pBd.cs (i32_b _).1 (i32_b _).2 (pBd.cs (rub_ty (a := 41) hh rfl).1 (rub_ty (a := 41) hh rfl).2 (pBd.cs (i32_b _).1 (i32_b _).2 (pBd.cs (i32_b _).1 (i32_b _).2 (pBd.cs (i32_b _).1 (i32_b _).2 (pBd.cs (rub_ty (a := 42) hh rfl).1 (rub_ty (a := 42) hh rfl).2 (pBd.cs (i32_b _).1 (i32_b _).2 (pBd.cs (i32_b _).1 (i32_b _).2 (pBd.cs (i32_b _).1 (i32_b _).2 (pBd.cs (rub_ty (a := 43) hh rfl).1 (rub_ty (a := 43) hh rfl).2 (pBd.cs (i32_b _).1 (i32_b _).2 (pBd.cs (i32_b _).1 (i32_b _).2 (pBd.cs (i32_b _).1 (i32_b _).2 (pBd.cs (rub_ty (a := 44) hh rfl).1 (rub_ty (a := 44) hh rfl).2 (pBd.cs (i32_b _).1 (i32_b _).2 (pBd.cs (i32_b _).1 (i32_b _).2 (pBd.cs (i32_b _).1 (i32_b _).2 (pBd.cs (rub_ty (a := 45) hh rfl).1 (rub_ty (a := 45) hh rfl).2 (pBd.cs (i32_b _).1 (i32_b _).2 (pBd.cs (i32_b _).1 (i32_b _).2 (pBd.cs (i32_b _).1 (i32_b _).2 (pBd.cs (rub_ty (a := 46) hh rfl).1 (rub_ty (a := 46) hh rfl).2 (pBd.cs (i32_b _).1 (i32_b _).2 pBd.nl)))))))))))))))))))))))))))))))))))
  obtain ⟨r1, h1, q1, hh1, hj1, f1, z1, z2, z4, z3⟩ := ox_ok (E := E) (xs := []) (R' := ro_keep8) (Q := fun r h' => (∀ t ∈ ML_keep 8, ri h' t.1.1 t.1.2 = ri h t.2.1 t.2.2) ∧ (ri h' 48 5).toInt = 8 ∧ ri h' 0 9 = 1 ∧ r = some (.int (nI 8))) ox_keep8 rfl (fun _ h => absurd h List.not_mem_nil) hj hh (kn_rel hR.1 hR.2.1 hB (by decide +kernel)) hB trivial (fun e he => by cases he) (fun σ Γ C Δ x r h' he ha _ hC _ hr => by
    obtain ⟨a1, u, a2, a3⟩ := ecV_ok he hC hr
    refine ⟨fun t ht => mv_ok (xs := []) (bx := []) (R' := ro_keep8) (List.all_eq_true.mp (show (ML_keep 8).all (mvB ro_keep8 [(48, 9, (1, 1, 0, 2)), (48, 7, (1, 1, 0, 3)), (53, 0, (1, 1, 0, 4)), (53, 1, (1, 1, 0, 5)), (53, 2, (1, 1, 0, 6)), (53, 3, (1, 1, 0, 7)), (54, 0, (1, 1, 0, 8)), (54, 1, (1, 1, 0, 9)), (54, 2, (1, 1, 0, 10)), (54, 3, (1, 1, 0, 11)), (55, 0, (1, 1, 0, 12)), (55, 1, (1, 1, 0, 13)), (55, 2, (1, 1, 0, 14)), (55, 3, (1, 1, 0, 15)), (56, 0, (1, 1, 0, 16)), (56, 1, (1, 1, 0, 17)), (56, 2, (1, 1, 0, 18)), (56, 3, (1, 1, 0, 19)), (57, 0, (1, 1, 0, 20)), (57, 1, (1, 1, 0, 21)), (57, 2, (1, 1, 0, 22)), (57, 3, (1, 1, 0, 23)), (58, 0, (1, 1, 0, 24)), (58, 1, (1, 1, 0, 25)), (58, 2, (1, 1, 0, 26)), (58, 3, (1, 1, 0, 27)), (59, 0, (1, 1, 0, 28)), (59, 1, (1, 1, 0, 29)), (59, 2, (1, 1, 0, 30)), (59, 3, (1, 1, 0, 31)), (60, 0, (1, 1, 0, 32)), (60, 1, (1, 1, 0, 33)), (60, 2, (1, 1, 0, 34)), (60, 3, (1, 1, 0, 35)), (48, 5, (0, 8, 8, 0)), (0, 9, (0, 1, 1, 0))] 0) = true by decide +kernel) t ht) a1 ha rfl, zcn (a1 (48, 5, cn 8) (by decide +kernel)), Int32.toInt_inj.mp (zcn (a1 (0, 9, cn 1) (by decide +kernel))), ?_⟩
    rw [a2, show u = nI 8 from Int32.toInt_inj.mp ((zcn (a3 _ rfl)).trans (by decide))])
  subst z3
  exact ⟨h1, q1, hh1, hj1, f1, z1, z2, z4⟩
theorem keep_9 (hh : HI HT h) (hj : JT h) (hR : RJ h) (hm : (ri h 34 5).toInt = 9) : ∃ h1 : List pC, Run prog E pV1 120 mX7_keep [.ref 0] h (some (.int (nI 9)), h1, 0, 0) ∧ HI HT h1 ∧ JT h1 ∧ Fr [(48, 48, 5, 9), (49, 49, 0, 15), (52, 52, 0, 2), (53, 61, 0, 5), (0, 0, 9, 9)] h h1 ∧ (∀ t ∈ ML_keep 9, ri h1 t.1.1 t.1.2 = ri h t.2.1 t.2.2) ∧ (ri h1 48 5).toInt = 9 ∧ ri h1 0 9 = 1 := by
  have hB : pBd ro_keep9 h := (pBd.cs (by show (9 : Int) ≤ (ri h 34 5).toInt; omega) (by show (ri h 34 5).toInt ≤ 9; omega) (pBd.cs (i32_b _).1 (i32_b _).2 (pBd.cs (i32_b _).1 (i32_b _).2 (pBd.cs (i32_b _).1 (i32_b _).2 (pBd.cs (i32_b _).1 (i32_b _).2 (pBd.cs (rub_ty (a := 39) hh rfl).1 (rub_ty (a := 39) hh rfl).2 (pBd.cs (i32_b _).1 (i32_b _).2 (pBd.cs (i32_b _).1 (i32_b _).2 (pBd.cs (i32_b _).1 (i32_b _).2 (pBd.cs (rub_ty (a := 40) hh rfl).1 (rub_ty (a := 40) hh rfl).2 (pBd.cs (i32_b _).1 (i32_b _).2 (pBd.cs (i32_b _).1 (i32_b _).2 (pBd.cs (i32_b _).1 (i32_b _).2 (pBd.cs (rub_ty (a := 41) hh rfl).1 (rub_ty (a := 41) hh rfl).2 (pBd.cs (i32_b _).1 (i32_b _).2 (pBd.cs (i32_b _).1 (i32_b _).2 (pBd.cs (i32_b _).1 (i32_b _).2 (pBd.cs (rub_ty (a := 42) hh rfl).1 (rub_ty (a := 42) hh rfl).2 (pBd.cs (i32_b _).1 (i32_b _).2 (pBd.cs (i32_b _).1 (i32_b _).2 (pBd.cs (i32_b _).1 (i32_b _).2 (pBd.cs (rub_ty (a := 43) hh rfl).1 (rub_ty (a := 43) hh rfl).2 (pBd.cs (i32_b _).1 (i32_b _).2 (pBd.cs (i32_b _).1 (i32_b _).2 (pBd.cs (i32_b _).1 (i32_b _).2 (pBd.cs (rub_ty (a := 44) hh rfl).1 (rub_ty (a := 44) hh rfl).2 (pBd.cs (i32_b _).1 (i32_b _).2 (pBd.cs (i32_b _).1 (i32_b _).2 (pBd.cs (i32_b _).1 (i32_b _).2 (pBd.cs (rub_ty (a := 45) hh rfl).1 (rub_ty (a := 45) hh rfl).2 (pBd.cs (i32_b _).1 (i32_b _).2 (pBd.cs (i32_b _).1 (i32_b _).2 (pBd.cs (i32_b _).1 (i32_b _).2 (pBd.cs (rub_ty (a := 46) hh rfl).1 (rub_ty (a := 46) hh rfl).2 (pBd.cs (i32_b _).1 (i32_b _).2 (pBd.cs (i32_b _).1 (i32_b _).2 (pBd.cs (i32_b _).1 (i32_b _).2 (pBd.cs (rub_ty (a := 47) hh rfl).1 (rub_ty (a := 47) hh rfl).2 (pBd.cs (i32_b _).1 (i32_b _).2 pBd.nl)))))))))))))))))))))))))))))))))))))))
  obtain ⟨r1, h1, q1, hh1, hj1, f1, z1, z2, z4, z3⟩ := ox_ok (E := E) (xs := []) (R' := ro_keep9) (Q := fun r h' => (∀ t ∈ ML_keep 9, ri h' t.1.1 t.1.2 = ri h t.2.1 t.2.2) ∧ (ri h' 48 5).toInt = 9 ∧ ri h' 0 9 = 1 ∧ r = some (.int (nI 9))) ox_keep9 rfl (fun _ h => absurd h List.not_mem_nil) hj hh (kn_rel hR.1 hR.2.1 hB (by decide +kernel)) hB trivial (fun e he => by cases he) (fun σ Γ C Δ x r h' he ha _ hC _ hr => by
    obtain ⟨a1, u, a2, a3⟩ := ecV_ok he hC hr
    refine ⟨fun t ht => mv_ok (xs := []) (bx := []) (R' := ro_keep9) (List.all_eq_true.mp (show (ML_keep 9).all (mvB ro_keep9 [(48, 9, (1, 1, 0, 2)), (48, 7, (1, 1, 0, 3)), (53, 0, (1, 1, 0, 4)), (53, 1, (1, 1, 0, 5)), (53, 2, (1, 1, 0, 6)), (53, 3, (1, 1, 0, 7)), (54, 0, (1, 1, 0, 8)), (54, 1, (1, 1, 0, 9)), (54, 2, (1, 1, 0, 10)), (54, 3, (1, 1, 0, 11)), (55, 0, (1, 1, 0, 12)), (55, 1, (1, 1, 0, 13)), (55, 2, (1, 1, 0, 14)), (55, 3, (1, 1, 0, 15)), (56, 0, (1, 1, 0, 16)), (56, 1, (1, 1, 0, 17)), (56, 2, (1, 1, 0, 18)), (56, 3, (1, 1, 0, 19)), (57, 0, (1, 1, 0, 20)), (57, 1, (1, 1, 0, 21)), (57, 2, (1, 1, 0, 22)), (57, 3, (1, 1, 0, 23)), (58, 0, (1, 1, 0, 24)), (58, 1, (1, 1, 0, 25)), (58, 2, (1, 1, 0, 26)), (58, 3, (1, 1, 0, 27)), (59, 0, (1, 1, 0, 28)), (59, 1, (1, 1, 0, 29)), (59, 2, (1, 1, 0, 30)), (59, 3, (1, 1, 0, 31)), (60, 0, (1, 1, 0, 32)), (60, 1, (1, 1, 0, 33)), (60, 2, (1, 1, 0, 34)), (60, 3, (1, 1, 0, 35)), (61, 0, (1, 1, 0, 36)), (61, 1, (1, 1, 0, 37)), (61, 2, (1, 1, 0, 38)), (61, 3, (1, 1, 0, 39)), (48, 5, (0, 9, 9, 0)), (0, 9, (0, 1, 1, 0))] 0) = true by decide +kernel) t ht) a1 ha rfl, zcn (a1 (48, 5, cn 9) (by decide +kernel)), Int32.toInt_inj.mp (zcn (a1 (0, 9, cn 1) (by decide +kernel))), ?_⟩
    rw [a2, show u = nI 9 from Int32.toInt_inj.mp ((zcn (a3 _ rfl)).trans (by decide))])
  subst z3
  exact ⟨h1, q1, hh1, hj1, f1, z1, z2, z4⟩
theorem keep_all (hh : HI HT h) (hj : JT h) (hR : RJ h) : ∃ (m : Nat) (h1 : List pC), m ≤ 9 ∧ (ri h 34 5).toInt = m ∧ Run prog E pV1 120 mX7_keep [.ref 0] h (some (.int (nI m)), h1, 0, 0) ∧ HI HT h1 ∧ JT h1 ∧ Fr [(48, 48, 5, 9), (49, 49, 0, 15), (52, 52, 0, 2), (53, 61, 0, 5), (0, 0, 9, 9)] h h1 ∧ (∀ t ∈ ML_keep m, ri h1 t.1.1 t.1.2 = ri h t.2.1 t.2.2) ∧ (ri h1 48 5).toInt = m ∧ ri h1 0 9 = 1 := by
  have t5 := ty_34_5 hh hR
  rcases (show (ri h 34 5).toInt = 0 ∨ (ri h 34 5).toInt = 1 ∨ (ri h 34 5).toInt = 2 ∨ (ri h 34 5).toInt = 3 ∨ (ri h 34 5).toInt = 4 ∨ (ri h 34 5).toInt = 5 ∨ (ri h 34 5).toInt = 6 ∨ (ri h 34 5).toInt = 7 ∨ (ri h 34 5).toInt = 8 ∨ (ri h 34 5).toInt = 9 by omega) with e | e | e | e | e | e | e | e | e | e
  · obtain ⟨h1, k⟩ := keep_0 (E := E) hh hj hR e
    exact ⟨0, h1, by decide, e, k⟩
  · obtain ⟨h1, k⟩ := keep_1 (E := E) hh hj hR e
    exact ⟨1, h1, by decide, e, k⟩
  · obtain ⟨h1, k⟩ := keep_2 (E := E) hh hj hR e
    exact ⟨2, h1, by decide, e, k⟩
  · obtain ⟨h1, k⟩ := keep_3 (E := E) hh hj hR e
    exact ⟨3, h1, by decide, e, k⟩
  · obtain ⟨h1, k⟩ := keep_4 (E := E) hh hj hR e
    exact ⟨4, h1, by decide, e, k⟩
  · obtain ⟨h1, k⟩ := keep_5 (E := E) hh hj hR e
    exact ⟨5, h1, by decide, e, k⟩
  · obtain ⟨h1, k⟩ := keep_6 (E := E) hh hj hR e
    exact ⟨6, h1, by decide, e, k⟩
  · obtain ⟨h1, k⟩ := keep_7 (E := E) hh hj hR e
    exact ⟨7, h1, by decide, e, k⟩
  · obtain ⟨h1, k⟩ := keep_8 (E := E) hh hj hR e
    exact ⟨8, h1, by decide, e, k⟩
  · obtain ⟨h1, k⟩ := keep_9 (E := E) hh hj hR e
    exact ⟨9, h1, by decide, e, k⟩
def ML_backy (m : Nat) : List ((Nat × Nat) × (Nat × Nat)) := [((34, 9), (48, 9)), ((34, 7), (48, 7))] ++ MLr 48 34 m
theorem backy_0 (hh : HI HT h) (hj : JT h) (hR : RJ h) (hm : (ri h 48 5).toInt = 0) (hi : (ri h 0 9).toInt = 1) : ∃ h1 : List pC, Run prog E pV1 120 mX7_back [.ref 0] h (some (.int (nI 0)), h1, 0, 0) ∧ HI HT h1 ∧ JT h1 ∧ Fr [(34, 34, 5, 9), (35, 35, 0, 15), (38, 38, 0, 2), (39, 47, 0, 5)] h h1 ∧ (∀ t ∈ ML_backy 0, ri h1 t.1.1 t.1.2 = ri h t.2.1 t.2.2) ∧ (ri h1 34 5).toInt = 0 := by
  have hB : pBd ro_backy0 h := (pBd.cs (by show (0 : Int) ≤ (ri h 48 5).toInt; omega) (by show (ri h 48 5).toInt ≤ 0; omega) (pBd.cs (i32_b _).1 (i32_b _).2 (pBd.cs (i32_b _).1 (i32_b _).2 (pBd.cs (by show (1 : Int) ≤ (ri h 0 9).toInt; omega) (by show (ri h 0 9).toInt ≤ 1; omega) pBd.nl))))
  obtain ⟨r1, h1, q1, hh1, hj1, f1, z1, z2, z3⟩ := ox_ok (E := E) (xs := []) (R' := ro_backy0) (Q := fun r h' => (∀ t ∈ ML_backy 0, ri h' t.1.1 t.1.2 = ri h t.2.1 t.2.2) ∧ (ri h' 34 5).toInt = 0 ∧ r = some (.int (nI 0))) ox_backy0 rfl (fun _ h => absurd h List.not_mem_nil) hj hh (kn_rel hR.1 hR.2.1 hB (by decide +kernel)) hB trivial (fun e he => by cases he) (fun σ Γ C Δ x r h' he ha _ hC _ hr => by
    obtain ⟨a1, u, a2, a3⟩ := ecV_ok he hC hr
    refine ⟨fun t ht => mv_ok (xs := []) (bx := []) (R' := ro_backy0) (List.all_eq_true.mp (show (ML_backy 0).all (mvB ro_backy0 [(34, 9, (1, 1, 0, 2)), (34, 7, (1, 1, 0, 3)), (34, 5, (0, 0, 0, 0))] 0) = true by decide +kernel) t ht) a1 ha rfl, zcn (a1 (34, 5, cn 0) (by decide +kernel)), ?_⟩
    rw [a2, show u = nI 0 from Int32.toInt_inj.mp ((zcn (a3 _ rfl)).trans (by decide))])
  subst z3
  exact ⟨h1, q1, hh1, hj1, f1, z1, z2⟩
theorem backy_1 (hh : HI HT h) (hj : JT h) (hR : RJ h) (hm : (ri h 48 5).toInt = 1) (hi : (ri h 0 9).toInt = 1) : ∃ h1 : List pC, Run prog E pV1 120 mX7_back [.ref 0] h (some (.int (nI 1)), h1, 0, 0) ∧ HI HT h1 ∧ JT h1 ∧ Fr [(34, 34, 5, 9), (35, 35, 0, 15), (38, 38, 0, 2), (39, 47, 0, 5)] h h1 ∧ (∀ t ∈ ML_backy 1, ri h1 t.1.1 t.1.2 = ri h t.2.1 t.2.2) ∧ (ri h1 34 5).toInt = 1 := by
  have hB : pBd ro_backy1 h := (pBd.cs (by show (1 : Int) ≤ (ri h 48 5).toInt; omega) (by show (ri h 48 5).toInt ≤ 1; omega) (pBd.cs (i32_b _).1 (i32_b _).2 (pBd.cs (i32_b _).1 (i32_b _).2 (pBd.cs (i32_b _).1 (i32_b _).2 (pBd.cs (i32_b _).1 (i32_b _).2 (pBd.cs (rub_ty (a := 53) hh rfl).1 (rub_ty (a := 53) hh rfl).2 (pBd.cs (i32_b _).1 (i32_b _).2 (pBd.cs (by show (1 : Int) ≤ (ri h 0 9).toInt; omega) (by show (ri h 0 9).toInt ≤ 1; omega) pBd.nl))))))))
  obtain ⟨r1, h1, q1, hh1, hj1, f1, z1, z2, z3⟩ := ox_ok (E := E) (xs := []) (R' := ro_backy1) (Q := fun r h' => (∀ t ∈ ML_backy 1, ri h' t.1.1 t.1.2 = ri h t.2.1 t.2.2) ∧ (ri h' 34 5).toInt = 1 ∧ r = some (.int (nI 1))) ox_backy1 rfl (fun _ h => absurd h List.not_mem_nil) hj hh (kn_rel hR.1 hR.2.1 hB (by decide +kernel)) hB trivial (fun e he => by cases he) (fun σ Γ C Δ x r h' he ha _ hC _ hr => by
    obtain ⟨a1, u, a2, a3⟩ := ecV_ok he hC hr
    refine ⟨fun t ht => mv_ok (xs := []) (bx := []) (R' := ro_backy1) (List.all_eq_true.mp (show (ML_backy 1).all (mvB ro_backy1 [(34, 9, (1, 1, 0, 2)), (34, 7, (1, 1, 0, 3)), (39, 0, (1, 1, 0, 4)), (39, 1, (1, 1, 0, 5)), (39, 2, (1, 1, 0, 6)), (39, 3, (1, 1, 0, 7)), (34, 5, (0, 1, 1, 0))] 0) = true by decide +kernel) t ht) a1 ha rfl, zcn (a1 (34, 5, cn 1) (by decide +kernel)), ?_⟩
    rw [a2, show u = nI 1 from Int32.toInt_inj.mp ((zcn (a3 _ rfl)).trans (by decide))])
  subst z3
  exact ⟨h1, q1, hh1, hj1, f1, z1, z2⟩
theorem backy_2 (hh : HI HT h) (hj : JT h) (hR : RJ h) (hm : (ri h 48 5).toInt = 2) (hi : (ri h 0 9).toInt = 1) : ∃ h1 : List pC, Run prog E pV1 120 mX7_back [.ref 0] h (some (.int (nI 2)), h1, 0, 0) ∧ HI HT h1 ∧ JT h1 ∧ Fr [(34, 34, 5, 9), (35, 35, 0, 15), (38, 38, 0, 2), (39, 47, 0, 5)] h h1 ∧ (∀ t ∈ ML_backy 2, ri h1 t.1.1 t.1.2 = ri h t.2.1 t.2.2) ∧ (ri h1 34 5).toInt = 2 := by
  have hB : pBd ro_backy2 h := (pBd.cs (by show (2 : Int) ≤ (ri h 48 5).toInt; omega) (by show (ri h 48 5).toInt ≤ 2; omega) (pBd.cs (i32_b _).1 (i32_b _).2 (pBd.cs (i32_b _).1 (i32_b _).2 (pBd.cs (i32_b _).1 (i32_b _).2 (pBd.cs (i32_b _).1 (i32_b _).2 (pBd.cs (rub_ty (a := 53) hh rfl).1 (rub_ty (a := 53) hh rfl).2 (pBd.cs (i32_b _).1 (i32_b _).2 (pBd.cs (i32_b _).1 (i32_b _).2 (pBd.cs (i32_b _).1 (i32_b _).2 (pBd.cs (rub_ty (a := 54) hh rfl).1 (rub_ty (a := 54) hh rfl).2 (pBd.cs (i32_b _).1 (i32_b _).2 (pBd.cs (by show (1 : Int) ≤ (ri h 0 9).toInt; omega) (by show (ri h 0 9).toInt ≤ 1; omega) pBd.nl))))))))))))
  obtain ⟨r1, h1, q1, hh1, hj1, f1, z1, z2, z3⟩ := ox_ok (E := E) (xs := []) (R' := ro_backy2) (Q := fun r h' => (∀ t ∈ ML_backy 2, ri h' t.1.1 t.1.2 = ri h t.2.1 t.2.2) ∧ (ri h' 34 5).toInt = 2 ∧ r = some (.int (nI 2))) ox_backy2 rfl (fun _ h => absurd h List.not_mem_nil) hj hh (kn_rel hR.1 hR.2.1 hB (by decide +kernel)) hB trivial (fun e he => by cases he) (fun σ Γ C Δ x r h' he ha _ hC _ hr => by
    obtain ⟨a1, u, a2, a3⟩ := ecV_ok he hC hr
    refine ⟨fun t ht => mv_ok (xs := []) (bx := []) (R' := ro_backy2) (List.all_eq_true.mp (show (ML_backy 2).all (mvB ro_backy2 [(34, 9, (1, 1, 0, 2)), (34, 7, (1, 1, 0, 3)), (39, 0, (1, 1, 0, 4)), (39, 1, (1, 1, 0, 5)), (39, 2, (1, 1, 0, 6)), (39, 3, (1, 1, 0, 7)), (40, 0, (1, 1, 0, 8)), (40, 1, (1, 1, 0, 9)), (40, 2, (1, 1, 0, 10)), (40, 3, (1, 1, 0, 11)), (34, 5, (0, 2, 2, 0))] 0) = true by decide +kernel) t ht) a1 ha rfl, zcn (a1 (34, 5, cn 2) (by decide +kernel)), ?_⟩
    rw [a2, show u = nI 2 from Int32.toInt_inj.mp ((zcn (a3 _ rfl)).trans (by decide))])
  subst z3
  exact ⟨h1, q1, hh1, hj1, f1, z1, z2⟩
theorem backy_3 (hh : HI HT h) (hj : JT h) (hR : RJ h) (hm : (ri h 48 5).toInt = 3) (hi : (ri h 0 9).toInt = 1) : ∃ h1 : List pC, Run prog E pV1 120 mX7_back [.ref 0] h (some (.int (nI 3)), h1, 0, 0) ∧ HI HT h1 ∧ JT h1 ∧ Fr [(34, 34, 5, 9), (35, 35, 0, 15), (38, 38, 0, 2), (39, 47, 0, 5)] h h1 ∧ (∀ t ∈ ML_backy 3, ri h1 t.1.1 t.1.2 = ri h t.2.1 t.2.2) ∧ (ri h1 34 5).toInt = 3 := by
  have hB : pBd ro_backy3 h := (pBd.cs (by show (3 : Int) ≤ (ri h 48 5).toInt; omega) (by show (ri h 48 5).toInt ≤ 3; omega) (pBd.cs (i32_b _).1 (i32_b _).2 (pBd.cs (i32_b _).1 (i32_b _).2 (pBd.cs (i32_b _).1 (i32_b _).2 (pBd.cs (i32_b _).1 (i32_b _).2 (pBd.cs (rub_ty (a := 53) hh rfl).1 (rub_ty (a := 53) hh rfl).2 (pBd.cs (i32_b _).1 (i32_b _).2 (pBd.cs (i32_b _).1 (i32_b _).2 (pBd.cs (i32_b _).1 (i32_b _).2 (pBd.cs (rub_ty (a := 54) hh rfl).1 (rub_ty (a := 54) hh rfl).2 (pBd.cs (i32_b _).1 (i32_b _).2 (pBd.cs (i32_b _).1 (i32_b _).2 (pBd.cs (i32_b _).1 (i32_b _).2 (pBd.cs (rub_ty (a := 55) hh rfl).1 (rub_ty (a := 55) hh rfl).2 (pBd.cs (i32_b _).1 (i32_b _).2 (pBd.cs (by show (1 : Int) ≤ (ri h 0 9).toInt; omega) (by show (ri h 0 9).toInt ≤ 1; omega) pBd.nl))))))))))))))))
  obtain ⟨r1, h1, q1, hh1, hj1, f1, z1, z2, z3⟩ := ox_ok (E := E) (xs := []) (R' := ro_backy3) (Q := fun r h' => (∀ t ∈ ML_backy 3, ri h' t.1.1 t.1.2 = ri h t.2.1 t.2.2) ∧ (ri h' 34 5).toInt = 3 ∧ r = some (.int (nI 3))) ox_backy3 rfl (fun _ h => absurd h List.not_mem_nil) hj hh (kn_rel hR.1 hR.2.1 hB (by decide +kernel)) hB trivial (fun e he => by cases he) (fun σ Γ C Δ x r h' he ha _ hC _ hr => by
    obtain ⟨a1, u, a2, a3⟩ := ecV_ok he hC hr
    refine ⟨fun t ht => mv_ok (xs := []) (bx := []) (R' := ro_backy3) (List.all_eq_true.mp (show (ML_backy 3).all (mvB ro_backy3 [(34, 9, (1, 1, 0, 2)), (34, 7, (1, 1, 0, 3)), (39, 0, (1, 1, 0, 4)), (39, 1, (1, 1, 0, 5)), (39, 2, (1, 1, 0, 6)), (39, 3, (1, 1, 0, 7)), (40, 0, (1, 1, 0, 8)), (40, 1, (1, 1, 0, 9)), (40, 2, (1, 1, 0, 10)), (40, 3, (1, 1, 0, 11)), (41, 0, (1, 1, 0, 12)), (41, 1, (1, 1, 0, 13)), (41, 2, (1, 1, 0, 14)), (41, 3, (1, 1, 0, 15)), (34, 5, (0, 3, 3, 0))] 0) = true by decide +kernel) t ht) a1 ha rfl, zcn (a1 (34, 5, cn 3) (by decide +kernel)), ?_⟩
    rw [a2, show u = nI 3 from Int32.toInt_inj.mp ((zcn (a3 _ rfl)).trans (by decide))])
  subst z3
  exact ⟨h1, q1, hh1, hj1, f1, z1, z2⟩
theorem backy_4 (hh : HI HT h) (hj : JT h) (hR : RJ h) (hm : (ri h 48 5).toInt = 4) (hi : (ri h 0 9).toInt = 1) : ∃ h1 : List pC, Run prog E pV1 120 mX7_back [.ref 0] h (some (.int (nI 4)), h1, 0, 0) ∧ HI HT h1 ∧ JT h1 ∧ Fr [(34, 34, 5, 9), (35, 35, 0, 15), (38, 38, 0, 2), (39, 47, 0, 5)] h h1 ∧ (∀ t ∈ ML_backy 4, ri h1 t.1.1 t.1.2 = ri h t.2.1 t.2.2) ∧ (ri h1 34 5).toInt = 4 := by
  have hB : pBd ro_backy4 h := (pBd.cs (by show (4 : Int) ≤ (ri h 48 5).toInt; omega) (by show (ri h 48 5).toInt ≤ 4; omega) (pBd.cs (i32_b _).1 (i32_b _).2 (pBd.cs (i32_b _).1 (i32_b _).2 (pBd.cs (i32_b _).1 (i32_b _).2 (pBd.cs (i32_b _).1 (i32_b _).2 (pBd.cs (rub_ty (a := 53) hh rfl).1 (rub_ty (a := 53) hh rfl).2 (pBd.cs (i32_b _).1 (i32_b _).2 (pBd.cs (i32_b _).1 (i32_b _).2 (pBd.cs (i32_b _).1 (i32_b _).2 (pBd.cs (rub_ty (a := 54) hh rfl).1 (rub_ty (a := 54) hh rfl).2 (pBd.cs (i32_b _).1 (i32_b _).2 (pBd.cs (i32_b _).1 (i32_b _).2 (pBd.cs (i32_b _).1 (i32_b _).2 (pBd.cs (rub_ty (a := 55) hh rfl).1 (rub_ty (a := 55) hh rfl).2 (pBd.cs (i32_b _).1 (i32_b _).2 (pBd.cs (i32_b _).1 (i32_b _).2 (pBd.cs (i32_b _).1 (i32_b _).2 (pBd.cs (rub_ty (a := 56) hh rfl).1 (rub_ty (a := 56) hh rfl).2 (pBd.cs (i32_b _).1 (i32_b _).2 (pBd.cs (by show (1 : Int) ≤ (ri h 0 9).toInt; omega) (by show (ri h 0 9).toInt ≤ 1; omega) pBd.nl))))))))))))))))))))
  obtain ⟨r1, h1, q1, hh1, hj1, f1, z1, z2, z3⟩ := ox_ok (E := E) (xs := []) (R' := ro_backy4) (Q := fun r h' => (∀ t ∈ ML_backy 4, ri h' t.1.1 t.1.2 = ri h t.2.1 t.2.2) ∧ (ri h' 34 5).toInt = 4 ∧ r = some (.int (nI 4))) ox_backy4 rfl (fun _ h => absurd h List.not_mem_nil) hj hh (kn_rel hR.1 hR.2.1 hB (by decide +kernel)) hB trivial (fun e he => by cases he) (fun σ Γ C Δ x r h' he ha _ hC _ hr => by
    obtain ⟨a1, u, a2, a3⟩ := ecV_ok he hC hr
    refine ⟨fun t ht => mv_ok (xs := []) (bx := []) (R' := ro_backy4) (List.all_eq_true.mp (show (ML_backy 4).all (mvB ro_backy4 [(34, 9, (1, 1, 0, 2)), (34, 7, (1, 1, 0, 3)), (39, 0, (1, 1, 0, 4)), (39, 1, (1, 1, 0, 5)), (39, 2, (1, 1, 0, 6)), (39, 3, (1, 1, 0, 7)), (40, 0, (1, 1, 0, 8)), (40, 1, (1, 1, 0, 9)), (40, 2, (1, 1, 0, 10)), (40, 3, (1, 1, 0, 11)), (41, 0, (1, 1, 0, 12)), (41, 1, (1, 1, 0, 13)), (41, 2, (1, 1, 0, 14)), (41, 3, (1, 1, 0, 15)), (42, 0, (1, 1, 0, 16)), (42, 1, (1, 1, 0, 17)), (42, 2, (1, 1, 0, 18)), (42, 3, (1, 1, 0, 19)), (34, 5, (0, 4, 4, 0))] 0) = true by decide +kernel) t ht) a1 ha rfl, zcn (a1 (34, 5, cn 4) (by decide +kernel)), ?_⟩
    rw [a2, show u = nI 4 from Int32.toInt_inj.mp ((zcn (a3 _ rfl)).trans (by decide))])
  subst z3
  exact ⟨h1, q1, hh1, hj1, f1, z1, z2⟩
theorem backy_5 (hh : HI HT h) (hj : JT h) (hR : RJ h) (hm : (ri h 48 5).toInt = 5) (hi : (ri h 0 9).toInt = 1) : ∃ h1 : List pC, Run prog E pV1 120 mX7_back [.ref 0] h (some (.int (nI 5)), h1, 0, 0) ∧ HI HT h1 ∧ JT h1 ∧ Fr [(34, 34, 5, 9), (35, 35, 0, 15), (38, 38, 0, 2), (39, 47, 0, 5)] h h1 ∧ (∀ t ∈ ML_backy 5, ri h1 t.1.1 t.1.2 = ri h t.2.1 t.2.2) ∧ (ri h1 34 5).toInt = 5 := by
  have hB : pBd ro_backy5 h := (pBd.cs (by show (5 : Int) ≤ (ri h 48 5).toInt; omega) (by show (ri h 48 5).toInt ≤ 5; omega) (pBd.cs (i32_b _).1 (i32_b _).2 (pBd.cs (i32_b _).1 (i32_b _).2 (pBd.cs (i32_b _).1 (i32_b _).2 (pBd.cs (i32_b _).1 (i32_b _).2 (pBd.cs (rub_ty (a := 53) hh rfl).1 (rub_ty (a := 53) hh rfl).2 (pBd.cs (i32_b _).1 (i32_b _).2 (pBd.cs (i32_b _).1 (i32_b _).2 (pBd.cs (i32_b _).1 (i32_b _).2 (pBd.cs (rub_ty (a := 54) hh rfl).1 (rub_ty (a := 54) hh rfl).2 (pBd.cs (i32_b _).1 (i32_b _).2 (pBd.cs (i32_b _).1 (i32_b _).2 (pBd.cs (i32_b _).1 (i32_b _).2 (pBd.cs (rub_ty (a := 55) hh rfl).1 (rub_ty (a := 55) hh rfl).2 (pBd.cs (i32_b _).1 (i32_b _).2 (pBd.cs (i32_b _).1 (i32_b _).2 (pBd.cs (i32_b _).1 (i32_b _).2 (pBd.cs (rub_ty (a := 56) hh rfl).1 (rub_ty (a := 56) hh rfl).2 (pBd.cs (i32_b _).1 (i32_b _).2 (pBd.cs (i32_b _).1 (i32_b _).2 (pBd.cs (i32_b _).1 (i32_b _).2 (pBd.cs (rub_ty (a := 57) hh rfl).1 (rub_ty (a := 57) hh rfl).2 (pBd.cs (i32_b _).1 (i32_b _).2 (pBd.cs (by show (1 : Int) ≤ (ri h 0 9).toInt; omega) (by show (ri h 0 9).toInt ≤ 1; omega) pBd.nl))))))))))))))))))))))))
  obtain ⟨r1, h1, q1, hh1, hj1, f1, z1, z2, z3⟩ := ox_ok (E := E) (xs := []) (R' := ro_backy5) (Q := fun r h' => (∀ t ∈ ML_backy 5, ri h' t.1.1 t.1.2 = ri h t.2.1 t.2.2) ∧ (ri h' 34 5).toInt = 5 ∧ r = some (.int (nI 5))) ox_backy5 rfl (fun _ h => absurd h List.not_mem_nil) hj hh (kn_rel hR.1 hR.2.1 hB (by decide +kernel)) hB trivial (fun e he => by cases he) (fun σ Γ C Δ x r h' he ha _ hC _ hr => by
    obtain ⟨a1, u, a2, a3⟩ := ecV_ok he hC hr
    refine ⟨fun t ht => mv_ok (xs := []) (bx := []) (R' := ro_backy5) (List.all_eq_true.mp (show (ML_backy 5).all (mvB ro_backy5 [(34, 9, (1, 1, 0, 2)), (34, 7, (1, 1, 0, 3)), (39, 0, (1, 1, 0, 4)), (39, 1, (1, 1, 0, 5)), (39, 2, (1, 1, 0, 6)), (39, 3, (1, 1, 0, 7)), (40, 0, (1, 1, 0, 8)), (40, 1, (1, 1, 0, 9)), (40, 2, (1, 1, 0, 10)), (40, 3, (1, 1, 0, 11)), (41, 0, (1, 1, 0, 12)), (41, 1, (1, 1, 0, 13)), (41, 2, (1, 1, 0, 14)), (41, 3, (1, 1, 0, 15)), (42, 0, (1, 1, 0, 16)), (42, 1, (1, 1, 0, 17)), (42, 2, (1, 1, 0, 18)), (42, 3, (1, 1, 0, 19)), (43, 0, (1, 1, 0, 20)), (43, 1, (1, 1, 0, 21)), (43, 2, (1, 1, 0, 22)), (43, 3, (1, 1, 0, 23)), (34, 5, (0, 5, 5, 0))] 0) = true by decide +kernel) t ht) a1 ha rfl, zcn (a1 (34, 5, cn 5) (by decide +kernel)), ?_⟩
    rw [a2, show u = nI 5 from Int32.toInt_inj.mp ((zcn (a3 _ rfl)).trans (by decide))])
  subst z3
  exact ⟨h1, q1, hh1, hj1, f1, z1, z2⟩
theorem backy_6 (hh : HI HT h) (hj : JT h) (hR : RJ h) (hm : (ri h 48 5).toInt = 6) (hi : (ri h 0 9).toInt = 1) : ∃ h1 : List pC, Run prog E pV1 120 mX7_back [.ref 0] h (some (.int (nI 6)), h1, 0, 0) ∧ HI HT h1 ∧ JT h1 ∧ Fr [(34, 34, 5, 9), (35, 35, 0, 15), (38, 38, 0, 2), (39, 47, 0, 5)] h h1 ∧ (∀ t ∈ ML_backy 6, ri h1 t.1.1 t.1.2 = ri h t.2.1 t.2.2) ∧ (ri h1 34 5).toInt = 6 := by
  have hB : pBd ro_backy6 h := (pBd.cs (by show (6 : Int) ≤ (ri h 48 5).toInt; omega) (by show (ri h 48 5).toInt ≤ 6; omega) (pBd.cs (i32_b _).1 (i32_b _).2 (pBd.cs (i32_b _).1 (i32_b _).2 (pBd.cs (i32_b _).1 (i32_b _).2 (pBd.cs (i32_b _).1 (i32_b _).2 (pBd.cs (rub_ty (a := 53) hh rfl).1 (rub_ty (a := 53) hh rfl).2 (pBd.cs (i32_b _).1 (i32_b _).2 (pBd.cs (i32_b _).1 (i32_b _).2 (pBd.cs (i32_b _).1 (i32_b _).2 (pBd.cs (rub_ty (a := 54) hh rfl).1 (rub_ty (a := 54) hh rfl).2 (pBd.cs (i32_b _).1 (i32_b _).2 (pBd.cs (i32_b _).1 (i32_b _).2 (pBd.cs (i32_b _).1 (i32_b _).2 (pBd.cs (rub_ty (a := 55) hh rfl).1 (rub_ty (a := 55) hh rfl).2 (pBd.cs (i32_b _).1 (i32_b _).2 (pBd.cs (i32_b _).1 (i32_b _).2 (pBd.cs (i32_b _).1 (i32_b _).2 (pBd.cs (rub_ty (a := 56) hh rfl).1 (rub_ty (a := 56) hh rfl).2 (pBd.cs (i32_b _).1 (i32_b _).2 (pBd.cs (i32_b _).1 (i32_b _).2 (pBd.cs (i32_b _).1 (i32_b _).2 (pBd.cs (rub_ty (a := 57) hh rfl).1 (rub_ty (a := 57) hh rfl).2 (pBd.cs (i32_b _).1 (i32_b _).2 (pBd.cs (i32_b _).1 (i32_b _).2 (pBd.cs (i32_b _).1 (i32_b _).2 (pBd.cs (rub_ty (a := 58) hh rfl).1 (rub_ty (a := 58) hh rfl).2 (pBd.cs (i32_b _).1 (i32_b _).2 (pBd.cs (by show (1 : Int) ≤ (ri h 0 9).toInt; omega) (by show (ri h 0 9).toInt ≤ 1; omega) pBd.nl))))))))))))))))))))))))))))
  obtain ⟨r1, h1, q1, hh1, hj1, f1, z1, z2, z3⟩ := ox_ok (E := E) (xs := []) (R' := ro_backy6) (Q := fun r h' => (∀ t ∈ ML_backy 6, ri h' t.1.1 t.1.2 = ri h t.2.1 t.2.2) ∧ (ri h' 34 5).toInt = 6 ∧ r = some (.int (nI 6))) ox_backy6 rfl (fun _ h => absurd h List.not_mem_nil) hj hh (kn_rel hR.1 hR.2.1 hB (by decide +kernel)) hB trivial (fun e he => by cases he) (fun σ Γ C Δ x r h' he ha _ hC _ hr => by
    obtain ⟨a1, u, a2, a3⟩ := ecV_ok he hC hr
    refine ⟨fun t ht => mv_ok (xs := []) (bx := []) (R' := ro_backy6) (List.all_eq_true.mp (show (ML_backy 6).all (mvB ro_backy6 [(34, 9, (1, 1, 0, 2)), (34, 7, (1, 1, 0, 3)), (39, 0, (1, 1, 0, 4)), (39, 1, (1, 1, 0, 5)), (39, 2, (1, 1, 0, 6)), (39, 3, (1, 1, 0, 7)), (40, 0, (1, 1, 0, 8)), (40, 1, (1, 1, 0, 9)), (40, 2, (1, 1, 0, 10)), (40, 3, (1, 1, 0, 11)), (41, 0, (1, 1, 0, 12)), (41, 1, (1, 1, 0, 13)), (41, 2, (1, 1, 0, 14)), (41, 3, (1, 1, 0, 15)), (42, 0, (1, 1, 0, 16)), (42, 1, (1, 1, 0, 17)), (42, 2, (1, 1, 0, 18)), (42, 3, (1, 1, 0, 19)), (43, 0, (1, 1, 0, 20)), (43, 1, (1, 1, 0, 21)), (43, 2, (1, 1, 0, 22)), (43, 3, (1, 1, 0, 23)), (44, 0, (1, 1, 0, 24)), (44, 1, (1, 1, 0, 25)), (44, 2, (1, 1, 0, 26)), (44, 3, (1, 1, 0, 27)), (34, 5, (0, 6, 6, 0))] 0) = true by decide +kernel) t ht) a1 ha rfl, zcn (a1 (34, 5, cn 6) (by decide +kernel)), ?_⟩
    rw [a2, show u = nI 6 from Int32.toInt_inj.mp ((zcn (a3 _ rfl)).trans (by decide))])
  subst z3
  exact ⟨h1, q1, hh1, hj1, f1, z1, z2⟩
theorem backy_7 (hh : HI HT h) (hj : JT h) (hR : RJ h) (hm : (ri h 48 5).toInt = 7) (hi : (ri h 0 9).toInt = 1) : ∃ h1 : List pC, Run prog E pV1 120 mX7_back [.ref 0] h (some (.int (nI 7)), h1, 0, 0) ∧ HI HT h1 ∧ JT h1 ∧ Fr [(34, 34, 5, 9), (35, 35, 0, 15), (38, 38, 0, 2), (39, 47, 0, 5)] h h1 ∧ (∀ t ∈ ML_backy 7, ri h1 t.1.1 t.1.2 = ri h t.2.1 t.2.2) ∧ (ri h1 34 5).toInt = 7 := by
  have hB : pBd ro_backy7 h := (pBd.cs (by show (7 : Int) ≤ (ri h 48 5).toInt; omega) (by show (ri h 48 5).toInt ≤ 7; omega) (pBd.cs (i32_b _).1 (i32_b _).2 (pBd.cs (i32_b _).1 (i32_b _).2 (pBd.cs (i32_b _).1 (i32_b _).2 (pBd.cs (i32_b _).1 (i32_b _).2 (pBd.cs (rub_ty (a := 53) hh rfl).1 (rub_ty (a := 53) hh rfl).2 (pBd.cs (i32_b _).1 (i32_b _).2 (pBd.cs (i32_b _).1 (i32_b _).2 (pBd.cs (i32_b _).1 (i32_b _).2 (pBd.cs (rub_ty (a := 54) hh rfl).1 (rub_ty (a := 54) hh rfl).2 (pBd.cs (i32_b _).1 (i32_b _).2 (pBd.cs (i32_b _).1 (i32_b _).2 (pBd.cs (i32_b _).1 (i32_b _).2 (pBd.cs (rub_ty (a := 55) hh rfl).1 (rub_ty (a := 55) hh rfl).2 (pBd.cs (i32_b _).1 (i32_b _).2 (pBd.cs (i32_b _).1 (i32_b _).2 (pBd.cs (i32_b _).1 (i32_b _).2 (pBd.cs (rub_ty (a := 56) hh rfl).1 (rub_ty (a := 56) hh rfl).2 (pBd.cs (i32_b _).1 (i32_b _).2 (pBd.cs (i32_b _).1 (i32_b _).2 (pBd.cs (i32_b _).1 (i32_b _).2 (pBd.cs (rub_ty (a := 57) hh rfl).1 (rub_ty (a := 57) hh rfl).2 (pBd.cs (i32_b _).1 (i32_b _).2 (pBd.cs (i32_b _).1 (i32_b _).2 (pBd.cs (i32_b _).1 (i32_b _).2 (pBd.cs (rub_ty (a := 58) hh rfl).1 (rub_ty (a := 58) hh rfl).2 (pBd.cs (i32_b _).1 (i32_b _).2 (pBd.cs (i32_b _).1 (i32_b _).2 (pBd.cs (i32_b _).1 (i32_b _).2 (pBd.cs (rub_ty (a := 59) hh rfl).1 (rub_ty (a := 59) hh rfl).2 (pBd.cs (i32_b _).1 (i32_b _).2 (pBd.cs (by show (1 : Int) ≤ (ri h 0 9).toInt; omega) (by show (ri h 0 9).toInt ≤ 1; omega) pBd.nl))))))))))))))))))))))))))))))))
  obtain ⟨r1, h1, q1, hh1, hj1, f1, z1, z2, z3⟩ := ox_ok (E := E) (xs := []) (R' := ro_backy7) (Q := fun r h' => (∀ t ∈ ML_backy 7, ri h' t.1.1 t.1.2 = ri h t.2.1 t.2.2) ∧ (ri h' 34 5).toInt = 7 ∧ r = some (.int (nI 7))) ox_backy7 rfl (fun _ h => absurd h List.not_mem_nil) hj hh (kn_rel hR.1 hR.2.1 hB (by decide +kernel)) hB trivial (fun e he => by cases he) (fun σ Γ C Δ x r h' he ha _ hC _ hr => by
    obtain ⟨a1, u, a2, a3⟩ := ecV_ok he hC hr
    refine ⟨fun t ht => mv_ok (xs := []) (bx := []) (R' := ro_backy7) (List.all_eq_true.mp (show (ML_backy 7).all (mvB ro_backy7 [(34, 9, (1, 1, 0, 2)), (34, 7, (1, 1, 0, 3)), (39, 0, (1, 1, 0, 4)), (39, 1, (1, 1, 0, 5)), (39, 2, (1, 1, 0, 6)), (39, 3, (1, 1, 0, 7)), (40, 0, (1, 1, 0, 8)), (40, 1, (1, 1, 0, 9)), (40, 2, (1, 1, 0, 10)), (40, 3, (1, 1, 0, 11)), (41, 0, (1, 1, 0, 12)), (41, 1, (1, 1, 0, 13)), (41, 2, (1, 1, 0, 14)), (41, 3, (1, 1, 0, 15)), (42, 0, (1, 1, 0, 16)), (42, 1, (1, 1, 0, 17)), (42, 2, (1, 1, 0, 18)), (42, 3, (1, 1, 0, 19)), (43, 0, (1, 1, 0, 20)), (43, 1, (1, 1, 0, 21)), (43, 2, (1, 1, 0, 22)), (43, 3, (1, 1, 0, 23)), (44, 0, (1, 1, 0, 24)), (44, 1, (1, 1, 0, 25)), (44, 2, (1, 1, 0, 26)), (44, 3, (1, 1, 0, 27)), (45, 0, (1, 1, 0, 28)), (45, 1, (1, 1, 0, 29)), (45, 2, (1, 1, 0, 30)), (45, 3, (1, 1, 0, 31)), (34, 5, (0, 7, 7, 0))] 0) = true by decide +kernel) t ht) a1 ha rfl, zcn (a1 (34, 5, cn 7) (by decide +kernel)), ?_⟩
    rw [a2, show u = nI 7 from Int32.toInt_inj.mp ((zcn (a3 _ rfl)).trans (by decide))])
  subst z3
  exact ⟨h1, q1, hh1, hj1, f1, z1, z2⟩
theorem backy_8 (hh : HI HT h) (hj : JT h) (hR : RJ h) (hm : (ri h 48 5).toInt = 8) (hi : (ri h 0 9).toInt = 1) : ∃ h1 : List pC, Run prog E pV1 120 mX7_back [.ref 0] h (some (.int (nI 8)), h1, 0, 0) ∧ HI HT h1 ∧ JT h1 ∧ Fr [(34, 34, 5, 9), (35, 35, 0, 15), (38, 38, 0, 2), (39, 47, 0, 5)] h h1 ∧ (∀ t ∈ ML_backy 8, ri h1 t.1.1 t.1.2 = ri h t.2.1 t.2.2) ∧ (ri h1 34 5).toInt = 8 := by
  have hB : pBd ro_backy8 h := (pBd.cs (by show (8 : Int) ≤ (ri h 48 5).toInt; omega) (by show (ri h 48 5).toInt ≤ 8; omega) (pBd.cs (i32_b _).1 (i32_b _).2 (pBd.cs (i32_b _).1 (i32_b _).2 (pBd.cs (i32_b _).1 (i32_b _).2 (pBd.cs (i32_b _).1 (i32_b _).2 (pBd.cs (rub_ty (a := 53) hh rfl).1 (rub_ty (a := 53) hh rfl).2 (pBd.cs (i32_b _).1 (i32_b _).2 (pBd.cs (i32_b _).1 (i32_b _).2 (pBd.cs (i32_b _).1 (i32_b _).2 (pBd.cs (rub_ty (a := 54) hh rfl).1 (rub_ty (a := 54) hh rfl).2 (pBd.cs (i32_b _).1 (i32_b _).2 (pBd.cs (i32_b _).1 (i32_b _).2 (pBd.cs (i32_b _).1 (i32_b _).2 (pBd.cs (rub_ty (a := 55) hh rfl).1 (rub_ty (a := 55) hh rfl).2 (pBd.cs (i32_b _).1 (i32_b _).2 (pBd.cs (i32_b _).1 (i32_b _).2 (pBd.cs (i32_b _).1 (i32_b _).2 (pBd.cs (rub_ty (a := 56) hh rfl).1 (rub_ty (a := 56) hh rfl).2 (pBd.cs (i32_b _).1 (i32_b _).2 (pBd.cs (i32_b _).1 (i32_b _).2 (pBd.cs (i32_b _).1 (i32_b _).2 (pBd.cs (rub_ty (a := 57) hh rfl).1 (rub_ty (a := 57) hh rfl).2 (pBd.cs (i32_b _).1 (i32_b _).2 (pBd.cs (i32_b _).1 (i32_b _).2 (pBd.cs (i32_b _).1 (i32_b _).2 (pBd.cs (rub_ty (a := 58) hh rfl).1 (rub_ty (a := 58) hh rfl).2 (pBd.cs (i32_b _).1 (i32_b _).2 (pBd.cs (i32_b _).1 (i32_b _).2 (pBd.cs (i32_b _).1 (i32_b _).2 (pBd.cs (rub_ty (a := 59) hh rfl).1 (rub_ty (a := 59) hh rfl).2 (pBd.cs (i32_b _).1 (i32_b _).2 (pBd.cs (i32_b _).1 (i32_b _).2 (pBd.cs (i32_b _).1 (i32_b _).2 (pBd.cs (rub_ty (a := 60) hh rfl).1 (rub_ty (a := 60) hh rfl).2 (pBd.cs (i32_b _).1 (i32_b _).2 (pBd.cs (by show (1 : Int) ≤ (ri h 0 9).toInt; omega) (by show (ri h 0 9).toInt ≤ 1; omega) pBd.nl))))))))))))))))))))))))))))))))))))
  obtain ⟨r1, h1, q1, hh1, hj1, f1, z1, z2, z3⟩ := ox_ok (E := E) (xs := []) (R' := ro_backy8) (Q := fun r h' => (∀ t ∈ ML_backy 8, ri h' t.1.1 t.1.2 = ri h t.2.1 t.2.2) ∧ (ri h' 34 5).toInt = 8 ∧ r = some (.int (nI 8))) ox_backy8 rfl (fun _ h => absurd h List.not_mem_nil) hj hh (kn_rel hR.1 hR.2.1 hB (by decide +kernel)) hB trivial (fun e he => by cases he) (fun σ Γ C Δ x r h' he ha _ hC _ hr => by
    obtain ⟨a1, u, a2, a3⟩ := ecV_ok he hC hr
    refine ⟨fun t ht => mv_ok (xs := []) (bx := []) (R' := ro_backy8) (List.all_eq_true.mp (show (ML_backy 8).all (mvB ro_backy8 [(34, 9, (1, 1, 0, 2)), (34, 7, (1, 1, 0, 3)), (39, 0, (1, 1, 0, 4)), (39, 1, (1, 1, 0, 5)), (39, 2, (1, 1, 0, 6)), (39, 3, (1, 1, 0, 7)), (40, 0, (1, 1, 0, 8)), (40, 1, (1, 1, 0, 9)), (40, 2, (1, 1, 0, 10)), (40, 3, (1, 1, 0, 11)), (41, 0, (1, 1, 0, 12)), (41, 1, (1, 1, 0, 13)), (41, 2, (1, 1, 0, 14)), (41, 3, (1, 1, 0, 15)), (42, 0, (1, 1, 0, 16)), (42, 1, (1, 1, 0, 17)), (42, 2, (1, 1, 0, 18)), (42, 3, (1, 1, 0, 19)), (43, 0, (1, 1, 0, 20)), (43, 1, (1, 1, 0, 21)), (43, 2, (1, 1, 0, 22)), (43, 3, (1, 1, 0, 23)), (44, 0, (1, 1, 0, 24)), (44, 1, (1, 1, 0, 25)), (44, 2, (1, 1, 0, 26)), (44, 3, (1, 1, 0, 27)), (45, 0, (1, 1, 0, 28)), (45, 1, (1, 1, 0, 29)), (45, 2, (1, 1, 0, 30)), (45, 3, (1, 1, 0, 31)), (46, 0, (1, 1, 0, 32)), (46, 1, (1, 1, 0, 33)), (46, 2, (1, 1, 0, 34)), (46, 3, (1, 1, 0, 35)), (34, 5, (0, 8, 8, 0))] 0) = true by decide +kernel) t ht) a1 ha rfl, zcn (a1 (34, 5, cn 8) (by decide +kernel)), ?_⟩
    rw [a2, show u = nI 8 from Int32.toInt_inj.mp ((zcn (a3 _ rfl)).trans (by decide))])
  subst z3
  exact ⟨h1, q1, hh1, hj1, f1, z1, z2⟩
theorem backy_9 (hh : HI HT h) (hj : JT h) (hR : RJ h) (hm : (ri h 48 5).toInt = 9) (hi : (ri h 0 9).toInt = 1) : ∃ h1 : List pC, Run prog E pV1 120 mX7_back [.ref 0] h (some (.int (nI 9)), h1, 0, 0) ∧ HI HT h1 ∧ JT h1 ∧ Fr [(34, 34, 5, 9), (35, 35, 0, 15), (38, 38, 0, 2), (39, 47, 0, 5)] h h1 ∧ (∀ t ∈ ML_backy 9, ri h1 t.1.1 t.1.2 = ri h t.2.1 t.2.2) ∧ (ri h1 34 5).toInt = 9 := by
  have hB : pBd ro_backy9 h := (pBd.cs (by show (9 : Int) ≤ (ri h 48 5).toInt; omega) (by show (ri h 48 5).toInt ≤ 9; omega) (pBd.cs (i32_b _).1 (i32_b _).2 (pBd.cs (i32_b _).1 (i32_b _).2 (pBd.cs (i32_b _).1 (i32_b _).2 (pBd.cs (i32_b _).1 (i32_b _).2 (pBd.cs (rub_ty (a := 53) hh rfl).1 (rub_ty (a := 53) hh rfl).2 (pBd.cs (i32_b _).1 (i32_b _).2 (pBd.cs (i32_b _).1 (i32_b _).2 (pBd.cs (i32_b _).1 (i32_b _).2 (pBd.cs (rub_ty (a := 54) hh rfl).1 (rub_ty (a := 54) hh rfl).2 (pBd.cs (i32_b _).1 (i32_b _).2 (pBd.cs (i32_b _).1 (i32_b _).2 (pBd.cs (i32_b _).1 (i32_b _).2 (pBd.cs (rub_ty (a := 55) hh rfl).1 (rub_ty (a := 55) hh rfl).2 (pBd.cs (i32_b _).1 (i32_b _).2 (pBd.cs (i32_b _).1 (i32_b _).2 (pBd.cs (i32_b _).1 (i32_b _).2 (pBd.cs (rub_ty (a := 56) hh rfl).1 (rub_ty (a := 56) hh rfl).2 (pBd.cs (i32_b _).1 (i32_b _).2 (pBd.cs (i32_b _).1 (i32_b _).2 (pBd.cs (i32_b _).1 (i32_b _).2 (pBd.cs (rub_ty (a := 57) hh rfl).1 (rub_ty (a := 57) hh rfl).2 (pBd.cs (i32_b _).1 (i32_b _).2 (pBd.cs (i32_b _).1 (i32_b _).2 (pBd.cs (i32_b _).1 (i32_b _).2 (pBd.cs (rub_ty (a := 58) hh rfl).1 (rub_ty (a := 58) hh rfl).2 (pBd.cs (i32_b _).1 (i32_b _).2 (pBd.cs (i32_b _).1 (i32_b _).2 (pBd.cs (i32_b _).1 (i32_b _).2 (pBd.cs (rub_ty (a := 59) hh rfl).1 (rub_ty (a := 59) hh rfl).2 (pBd.cs (i32_b _).1 (i32_b _).2 (pBd.cs (i32_b _).1 (i32_b _).2 (pBd.cs (i32_b _).1 (i32_b _).2 (pBd.cs (rub_ty (a := 60) hh rfl).1 (rub_ty (a := 60) hh rfl).2 (pBd.cs (i32_b _).1 (i32_b _).2 (pBd.cs (i32_b _).1 (i32_b _).2 (pBd.cs (i32_b _).1 (i32_b _).2 (pBd.cs (rub_ty (a := 61) hh rfl).1 (rub_ty (a := 61) hh rfl).2 (pBd.cs (i32_b _).1 (i32_b _).2 (pBd.cs (by show (1 : Int) ≤ (ri h 0 9).toInt; omega) (by show (ri h 0 9).toInt ≤ 1; omega) pBd.nl))))))))))))))))))))))))))))))))))))))))
  obtain ⟨r1, h1, q1, hh1, hj1, f1, z1, z2, z3⟩ := ox_ok (E := E) (xs := []) (R' := ro_backy9) (Q := fun r h' => (∀ t ∈ ML_backy 9, ri h' t.1.1 t.1.2 = ri h t.2.1 t.2.2) ∧ (ri h' 34 5).toInt = 9 ∧ r = some (.int (nI 9))) ox_backy9 rfl (fun _ h => absurd h List.not_mem_nil) hj hh (kn_rel hR.1 hR.2.1 hB (by decide +kernel)) hB trivial (fun e he => by cases he) (fun σ Γ C Δ x r h' he ha _ hC _ hr => by
    obtain ⟨a1, u, a2, a3⟩ := ecV_ok he hC hr
    refine ⟨fun t ht => mv_ok (xs := []) (bx := []) (R' := ro_backy9) (List.all_eq_true.mp (show (ML_backy 9).all (mvB ro_backy9 [(34, 9, (1, 1, 0, 2)), (34, 7, (1, 1, 0, 3)), (39, 0, (1, 1, 0, 4)), (39, 1, (1, 1, 0, 5)), (39, 2, (1, 1, 0, 6)), (39, 3, (1, 1, 0, 7)), (40, 0, (1, 1, 0, 8)), (40, 1, (1, 1, 0, 9)), (40, 2, (1, 1, 0, 10)), (40, 3, (1, 1, 0, 11)), (41, 0, (1, 1, 0, 12)), (41, 1, (1, 1, 0, 13)), (41, 2, (1, 1, 0, 14)), (41, 3, (1, 1, 0, 15)), (42, 0, (1, 1, 0, 16)), (42, 1, (1, 1, 0, 17)), (42, 2, (1, 1, 0, 18)), (42, 3, (1, 1, 0, 19)), (43, 0, (1, 1, 0, 20)), (43, 1, (1, 1, 0, 21)), (43, 2, (1, 1, 0, 22)), (43, 3, (1, 1, 0, 23)), (44, 0, (1, 1, 0, 24)), (44, 1, (1, 1, 0, 25)), (44, 2, (1, 1, 0, 26)), (44, 3, (1, 1, 0, 27)), (45, 0, (1, 1, 0, 28)), (45, 1, (1, 1, 0, 29)), (45, 2, (1, 1, 0, 30)), (45, 3, (1, 1, 0, 31)), (46, 0, (1, 1, 0, 32)), (46, 1, (1, 1, 0, 33)), (46, 2, (1, 1, 0, 34)), (46, 3, (1, 1, 0, 35)), (47, 0, (1, 1, 0, 36)), (47, 1, (1, 1, 0, 37)), (47, 2, (1, 1, 0, 38)), (47, 3, (1, 1, 0, 39)), (34, 5, (0, 9, 9, 0))] 0) = true by decide +kernel) t ht) a1 ha rfl, zcn (a1 (34, 5, cn 9) (by decide +kernel)), ?_⟩
    rw [a2, show u = nI 9 from Int32.toInt_inj.mp ((zcn (a3 _ rfl)).trans (by decide))])
  subst z3
  exact ⟨h1, q1, hh1, hj1, f1, z1, z2⟩
theorem backy_all (hh : HI HT h) (hj : JT h) (hR : RJ h) (hi : (ri h 0 9).toInt = 1) : ∃ (m : Nat) (h1 : List pC), m ≤ 9 ∧ (ri h 48 5).toInt = m ∧ Run prog E pV1 120 mX7_back [.ref 0] h (some (.int (nI m)), h1, 0, 0) ∧ HI HT h1 ∧ JT h1 ∧ Fr [(34, 34, 5, 9), (35, 35, 0, 15), (38, 38, 0, 2), (39, 47, 0, 5)] h h1 ∧ (∀ t ∈ ML_backy m, ri h1 t.1.1 t.1.2 = ri h t.2.1 t.2.2) ∧ (ri h1 34 5).toInt = m := by
  have t5 := ty_48_5 hh hR
  rcases (show (ri h 48 5).toInt = 0 ∨ (ri h 48 5).toInt = 1 ∨ (ri h 48 5).toInt = 2 ∨ (ri h 48 5).toInt = 3 ∨ (ri h 48 5).toInt = 4 ∨ (ri h 48 5).toInt = 5 ∨ (ri h 48 5).toInt = 6 ∨ (ri h 48 5).toInt = 7 ∨ (ri h 48 5).toInt = 8 ∨ (ri h 48 5).toInt = 9 by omega) with e | e | e | e | e | e | e | e | e | e
  · obtain ⟨h1, k⟩ := backy_0 (E := E) hh hj hR e hi
    exact ⟨0, h1, by decide, e, k⟩
  · obtain ⟨h1, k⟩ := backy_1 (E := E) hh hj hR e hi
    exact ⟨1, h1, by decide, e, k⟩
  · obtain ⟨h1, k⟩ := backy_2 (E := E) hh hj hR e hi
    exact ⟨2, h1, by decide, e, k⟩
  · obtain ⟨h1, k⟩ := backy_3 (E := E) hh hj hR e hi
    exact ⟨3, h1, by decide, e, k⟩
  · obtain ⟨h1, k⟩ := backy_4 (E := E) hh hj hR e hi
    exact ⟨4, h1, by decide, e, k⟩
  · obtain ⟨h1, k⟩ := backy_5 (E := E) hh hj hR e hi
    exact ⟨5, h1, by decide, e, k⟩
  · obtain ⟨h1, k⟩ := backy_6 (E := E) hh hj hR e hi
    exact ⟨6, h1, by decide, e, k⟩
  · obtain ⟨h1, k⟩ := backy_7 (E := E) hh hj hR e hi
    exact ⟨7, h1, by decide, e, k⟩
  · obtain ⟨h1, k⟩ := backy_8 (E := E) hh hj hR e hi
    exact ⟨8, h1, by decide, e, k⟩
  · obtain ⟨h1, k⟩ := backy_9 (E := E) hh hj hR e hi
    exact ⟨9, h1, by decide, e, k⟩
theorem lf_rubbing0 (x1 x2 x3 : Int32) (hh : HI HT h) (hj : JT h) (hR : RJ h) (b34_5 : 0 ≤ (ri h 34 5).toInt ∧ (ri h 34 5).toInt ≤ 0) : ∃ (r1 r2 : Int32) (h1 h2 : List pC), Run prog E pV1 120 mX7_rubbing [.ref 0, .int x1, .int x2, .int x3] h (some (.int r1), h1, 0, 0) ∧ Run prog E pV1 120 mX8_rubbing [.ref 110, .int x1, .int x2, .int x3] h1 (some (.int r2), h2, 0, 0) ∧ (∃ o, pobj h1 110 = some o ∧ o.1 = 8) ∧ HI HT h2 ∧ JT h2 ∧ RJ h2 := by
  obtain ⟨r, h1, h2, q1, q2, q3, p1, p2, p3, p4⟩ := pr_ok3 (E := E) (x1 := x1) (x2 := x2) (x3 := x3) cp_rubbing0 rfl rfl (List.cons_ne_nil _ _) (List.cons_ne_nil _ _) (fun _ h => absurd h List.not_mem_nil) hh hj hR.1 hR.2.1 ⟨i32_b x1, i32_b x2, i32_b x3, trivial⟩ (pBd.cs b34_5.1 b34_5.2 pBd.nl) (fun e he => by cases he)
  exact ⟨r, r, h1, h2, q1, q2, q3, p1, p2, p3.1, p3.2, xj_fr hR.2.2 p4 (by decide +kernel)⟩
theorem lf_rubbing1 (x1 x2 x3 : Int32) (hh : HI HT h) (hj : JT h) (hR : RJ h) (b34_5 : 1 ≤ (ri h 34 5).toInt ∧ (ri h 34 5).toInt ≤ 1) : ∃ (r1 r2 : Int32) (h1 h2 : List pC), Run prog E pV1 120 mX7_rubbing [.ref 0, .int x1, .int x2, .int x3] h (some (.int r1), h1, 0, 0) ∧ Run prog E pV1 120 mX8_rubbing [.ref 110, .int x1, .int x2, .int x3] h1 (some (.int r2), h2, 0, 0) ∧ (∃ o, pobj h1 110 = some o ∧ o.1 = 8) ∧ HI HT h2 ∧ JT h2 ∧ RJ h2 := by
  obtain ⟨r, h1, h2, q1, q2, q3, p1, p2, p3, p4⟩ := pr_ok3 (E := E) (x1 := x1) (x2 := x2) (x3 := x3) cp_rubbing1 rfl rfl (List.cons_ne_nil _ _) (List.cons_ne_nil _ _) (fun _ h => absurd h List.not_mem_nil) hh hj hR.1 hR.2.1 ⟨i32_b x1, i32_b x2, i32_b x3, trivial⟩ (pBd.cs b34_5.1 b34_5.2 pBd.nl) (fun e he => by cases he)
  exact ⟨r, r, h1, h2, q1, q2, q3, p1, p2, p3.1, p3.2, xj_fr hR.2.2 p4 (by decide +kernel)⟩
theorem lf_rubbing2 (x1 x2 x3 : Int32) (hh : HI HT h) (hj : JT h) (hR : RJ h) (b34_5 : 2 ≤ (ri h 34 5).toInt ∧ (ri h 34 5).toInt ≤ 2) : ∃ (r1 r2 : Int32) (h1 h2 : List pC), Run prog E pV1 120 mX7_rubbing [.ref 0, .int x1, .int x2, .int x3] h (some (.int r1), h1, 0, 0) ∧ Run prog E pV1 120 mX8_rubbing [.ref 110, .int x1, .int x2, .int x3] h1 (some (.int r2), h2, 0, 0) ∧ (∃ o, pobj h1 110 = some o ∧ o.1 = 8) ∧ HI HT h2 ∧ JT h2 ∧ RJ h2 := by
  obtain ⟨r, h1, h2, q1, q2, q3, p1, p2, p3, p4⟩ := pr_ok3 (E := E) (x1 := x1) (x2 := x2) (x3 := x3) cp_rubbing2 rfl rfl (List.cons_ne_nil _ _) (List.cons_ne_nil _ _) (fun _ h => absurd h List.not_mem_nil) hh hj hR.1 hR.2.1 ⟨i32_b x1, i32_b x2, i32_b x3, trivial⟩ (pBd.cs b34_5.1 b34_5.2 pBd.nl) (fun e he => by cases he)
  exact ⟨r, r, h1, h2, q1, q2, q3, p1, p2, p3.1, p3.2, xj_fr hR.2.2 p4 (by decide +kernel)⟩
theorem lf_rubbing3 (x1 x2 x3 : Int32) (hh : HI HT h) (hj : JT h) (hR : RJ h) (b34_5 : 3 ≤ (ri h 34 5).toInt ∧ (ri h 34 5).toInt ≤ 3) : ∃ (r1 r2 : Int32) (h1 h2 : List pC), Run prog E pV1 120 mX7_rubbing [.ref 0, .int x1, .int x2, .int x3] h (some (.int r1), h1, 0, 0) ∧ Run prog E pV1 120 mX8_rubbing [.ref 110, .int x1, .int x2, .int x3] h1 (some (.int r2), h2, 0, 0) ∧ (∃ o, pobj h1 110 = some o ∧ o.1 = 8) ∧ HI HT h2 ∧ JT h2 ∧ RJ h2 := by
  obtain ⟨r, h1, h2, q1, q2, q3, p1, p2, p3, p4⟩ := pr_ok3 (E := E) (x1 := x1) (x2 := x2) (x3 := x3) cp_rubbing3 rfl rfl (List.cons_ne_nil _ _) (List.cons_ne_nil _ _) (fun _ h => absurd h List.not_mem_nil) hh hj hR.1 hR.2.1 ⟨i32_b x1, i32_b x2, i32_b x3, trivial⟩ (pBd.cs b34_5.1 b34_5.2 pBd.nl) (fun e he => by cases he)
  exact ⟨r, r, h1, h2, q1, q2, q3, p1, p2, p3.1, p3.2, xj_fr hR.2.2 p4 (by decide +kernel)⟩
theorem lf_rubbing4 (x1 x2 x3 : Int32) (hh : HI HT h) (hj : JT h) (hR : RJ h) (b34_5 : 4 ≤ (ri h 34 5).toInt ∧ (ri h 34 5).toInt ≤ 4) : ∃ (r1 r2 : Int32) (h1 h2 : List pC), Run prog E pV1 120 mX7_rubbing [.ref 0, .int x1, .int x2, .int x3] h (some (.int r1), h1, 0, 0) ∧ Run prog E pV1 120 mX8_rubbing [.ref 110, .int x1, .int x2, .int x3] h1 (some (.int r2), h2, 0, 0) ∧ (∃ o, pobj h1 110 = some o ∧ o.1 = 8) ∧ HI HT h2 ∧ JT h2 ∧ RJ h2 := by
  obtain ⟨r, h1, h2, q1, q2, q3, p1, p2, p3, p4⟩ := pr_ok3 (E := E) (x1 := x1) (x2 := x2) (x3 := x3) cp_rubbing4 rfl rfl (List.cons_ne_nil _ _) (List.cons_ne_nil _ _) (fun _ h => absurd h List.not_mem_nil) hh hj hR.1 hR.2.1 ⟨i32_b x1, i32_b x2, i32_b x3, trivial⟩ (pBd.cs b34_5.1 b34_5.2 pBd.nl) (fun e he => by cases he)
  exact ⟨r, r, h1, h2, q1, q2, q3, p1, p2, p3.1, p3.2, xj_fr hR.2.2 p4 (by decide +kernel)⟩
theorem lf_rubbing5 (x1 x2 x3 : Int32) (hh : HI HT h) (hj : JT h) (hR : RJ h) (b34_5 : 5 ≤ (ri h 34 5).toInt ∧ (ri h 34 5).toInt ≤ 5) : ∃ (r1 r2 : Int32) (h1 h2 : List pC), Run prog E pV1 120 mX7_rubbing [.ref 0, .int x1, .int x2, .int x3] h (some (.int r1), h1, 0, 0) ∧ Run prog E pV1 120 mX8_rubbing [.ref 110, .int x1, .int x2, .int x3] h1 (some (.int r2), h2, 0, 0) ∧ (∃ o, pobj h1 110 = some o ∧ o.1 = 8) ∧ HI HT h2 ∧ JT h2 ∧ RJ h2 := by
  obtain ⟨r, h1, h2, q1, q2, q3, p1, p2, p3, p4⟩ := pr_ok3 (E := E) (x1 := x1) (x2 := x2) (x3 := x3) cp_rubbing5 rfl rfl (List.cons_ne_nil _ _) (List.cons_ne_nil _ _) (fun _ h => absurd h List.not_mem_nil) hh hj hR.1 hR.2.1 ⟨i32_b x1, i32_b x2, i32_b x3, trivial⟩ (pBd.cs b34_5.1 b34_5.2 pBd.nl) (fun e he => by cases he)
  exact ⟨r, r, h1, h2, q1, q2, q3, p1, p2, p3.1, p3.2, xj_fr hR.2.2 p4 (by decide +kernel)⟩
theorem lf_rubbing6 (x1 x2 x3 : Int32) (hh : HI HT h) (hj : JT h) (hR : RJ h) (b34_5 : 6 ≤ (ri h 34 5).toInt ∧ (ri h 34 5).toInt ≤ 6) : ∃ (r1 r2 : Int32) (h1 h2 : List pC), Run prog E pV1 120 mX7_rubbing [.ref 0, .int x1, .int x2, .int x3] h (some (.int r1), h1, 0, 0) ∧ Run prog E pV1 120 mX8_rubbing [.ref 110, .int x1, .int x2, .int x3] h1 (some (.int r2), h2, 0, 0) ∧ (∃ o, pobj h1 110 = some o ∧ o.1 = 8) ∧ HI HT h2 ∧ JT h2 ∧ RJ h2 := by
  obtain ⟨r, h1, h2, q1, q2, q3, p1, p2, p3, p4⟩ := pr_ok3 (E := E) (x1 := x1) (x2 := x2) (x3 := x3) cp_rubbing6 rfl rfl (List.cons_ne_nil _ _) (List.cons_ne_nil _ _) (fun _ h => absurd h List.not_mem_nil) hh hj hR.1 hR.2.1 ⟨i32_b x1, i32_b x2, i32_b x3, trivial⟩ (pBd.cs b34_5.1 b34_5.2 pBd.nl) (fun e he => by cases he)
  exact ⟨r, r, h1, h2, q1, q2, q3, p1, p2, p3.1, p3.2, xj_fr hR.2.2 p4 (by decide +kernel)⟩
theorem lf_rubbing7 (x1 x2 x3 : Int32) (hh : HI HT h) (hj : JT h) (hR : RJ h) (b34_5 : 7 ≤ (ri h 34 5).toInt ∧ (ri h 34 5).toInt ≤ 7) : ∃ (r1 r2 : Int32) (h1 h2 : List pC), Run prog E pV1 120 mX7_rubbing [.ref 0, .int x1, .int x2, .int x3] h (some (.int r1), h1, 0, 0) ∧ Run prog E pV1 120 mX8_rubbing [.ref 110, .int x1, .int x2, .int x3] h1 (some (.int r2), h2, 0, 0) ∧ (∃ o, pobj h1 110 = some o ∧ o.1 = 8) ∧ HI HT h2 ∧ JT h2 ∧ RJ h2 := by
  obtain ⟨r, h1, h2, q1, q2, q3, p1, p2, p3, p4⟩ := pr_ok3 (E := E) (x1 := x1) (x2 := x2) (x3 := x3) cp_rubbing7 rfl rfl (List.cons_ne_nil _ _) (List.cons_ne_nil _ _) (fun _ h => absurd h List.not_mem_nil) hh hj hR.1 hR.2.1 ⟨i32_b x1, i32_b x2, i32_b x3, trivial⟩ (pBd.cs b34_5.1 b34_5.2 pBd.nl) (fun e he => by cases he)
  exact ⟨r, r, h1, h2, q1, q2, q3, p1, p2, p3.1, p3.2, xj_fr hR.2.2 p4 (by decide +kernel)⟩
theorem lf_rubbing8 (x1 x2 x3 : Int32) (hh : HI HT h) (hj : JT h) (hR : RJ h) (b34_5 : 8 ≤ (ri h 34 5).toInt ∧ (ri h 34 5).toInt ≤ 8) : ∃ (r1 r2 : Int32) (h1 h2 : List pC), Run prog E pV1 120 mX7_rubbing [.ref 0, .int x1, .int x2, .int x3] h (some (.int r1), h1, 0, 0) ∧ Run prog E pV1 120 mX8_rubbing [.ref 110, .int x1, .int x2, .int x3] h1 (some (.int r2), h2, 0, 0) ∧ (∃ o, pobj h1 110 = some o ∧ o.1 = 8) ∧ HI HT h2 ∧ JT h2 ∧ RJ h2 := by
  obtain ⟨r, h1, h2, q1, q2, q3, p1, p2, p3, p4⟩ := pr_ok3 (E := E) (x1 := x1) (x2 := x2) (x3 := x3) cp_rubbing8 rfl rfl (List.cons_ne_nil _ _) (List.cons_ne_nil _ _) (fun _ h => absurd h List.not_mem_nil) hh hj hR.1 hR.2.1 ⟨i32_b x1, i32_b x2, i32_b x3, trivial⟩ (pBd.cs b34_5.1 b34_5.2 pBd.nl) (fun e he => by cases he)
  exact ⟨r, r, h1, h2, q1, q2, q3, p1, p2, p3.1, p3.2, xj_fr hR.2.2 p4 (by decide +kernel)⟩
theorem lf_rubbing9 (x1 x2 x3 : Int32) (hh : HI HT h) (hj : JT h) (hR : RJ h) (b34_5 : 9 ≤ (ri h 34 5).toInt ∧ (ri h 34 5).toInt ≤ 9) : ∃ (r1 r2 : Int32) (h1 h2 : List pC), Run prog E pV1 120 mX7_rubbing [.ref 0, .int x1, .int x2, .int x3] h (some (.int r1), h1, 0, 0) ∧ Run prog E pV1 120 mX8_rubbing [.ref 110, .int x1, .int x2, .int x3] h1 (some (.int r2), h2, 0, 0) ∧ (∃ o, pobj h1 110 = some o ∧ o.1 = 8) ∧ HI HT h2 ∧ JT h2 ∧ RJ h2 := by
  obtain ⟨r, h1, h2, q1, q2, q3, p1, p2, p3, p4⟩ := pr_ok3 (E := E) (x1 := x1) (x2 := x2) (x3 := x3) cp_rubbing9 rfl rfl (List.cons_ne_nil _ _) (List.cons_ne_nil _ _) (fun _ h => absurd h List.not_mem_nil) hh hj hR.1 hR.2.1 ⟨i32_b x1, i32_b x2, i32_b x3, trivial⟩ (pBd.cs b34_5.1 b34_5.2 pBd.nl) (fun e he => by cases he)
  exact ⟨r, r, h1, h2, q1, q2, q3, p1, p2, p3.1, p3.2, xj_fr hR.2.2 p4 (by decide +kernel)⟩
theorem lw_rubbing (x1 x2 x3 : Int32) (hh : HI HT h) (hj : JT h) (hR : RJ h) : ∃ (r1 r2 : Int32) (h1 h2 : List pC), Run prog E pV1 120 mX7_rubbing [.ref 0, .int x1, .int x2, .int x3] h (some (.int r1), h1, 0, 0) ∧ Run prog E pV1 120 mX8_rubbing [.ref 110, .int x1, .int x2, .int x3] h1 (some (.int r2), h2, 0, 0) ∧ (∃ o, pobj h1 110 = some o ∧ o.1 = 8) ∧ HI HT h2 ∧ JT h2 ∧ RJ h2 := by
  have ex1 := i32_b x1
  have ex2 := i32_b x2
  have ex3 := i32_b x3
  have t34_5 := ty_34_5 hh hR
  by_cases c1 : (ri h 34 5).toInt ≤ 0
  · exact lf_rubbing0 x1 x2 x3 hh hj hR ⟨by omega, by omega⟩
  by_cases c2 : (ri h 34 5).toInt ≤ 1
  · exact lf_rubbing1 x1 x2 x3 hh hj hR ⟨by omega, by omega⟩
  by_cases c3 : (ri h 34 5).toInt ≤ 2
  · exact lf_rubbing2 x1 x2 x3 hh hj hR ⟨by omega, by omega⟩
  by_cases c4 : (ri h 34 5).toInt ≤ 3
  · exact lf_rubbing3 x1 x2 x3 hh hj hR ⟨by omega, by omega⟩
  by_cases c5 : (ri h 34 5).toInt ≤ 4
  · exact lf_rubbing4 x1 x2 x3 hh hj hR ⟨by omega, by omega⟩
  by_cases c6 : (ri h 34 5).toInt ≤ 5
  · exact lf_rubbing5 x1 x2 x3 hh hj hR ⟨by omega, by omega⟩
  by_cases c7 : (ri h 34 5).toInt ≤ 6
  · exact lf_rubbing6 x1 x2 x3 hh hj hR ⟨by omega, by omega⟩
  by_cases c8 : (ri h 34 5).toInt ≤ 7
  · exact lf_rubbing7 x1 x2 x3 hh hj hR ⟨by omega, by omega⟩
  by_cases c9 : (ri h 34 5).toInt ≤ 8
  · exact lf_rubbing8 x1 x2 x3 hh hj hR ⟨by omega, by omega⟩
  exact lf_rubbing9 x1 x2 x3 hh hj hR ⟨by omega, by omega⟩
theorem lw_told (x1 x2 : Int32) (hh : HI HT h) (hj : JT h) (hR : RJ h) : ∃ (r1 r2 : Int32) (h1 h2 : List pC), Run prog E pV1 120 mX7_told [.ref 0, .int x1, .int x2] h (some (.int r1), h1, 0, 0) ∧ Run prog E pV1 120 mX8_told [.ref 110, .int x1, .int x2] h1 (some (.int r2), h2, 0, 0) ∧ (∃ o, pobj h1 110 = some o ∧ o.1 = 8) ∧ HI HT h2 ∧ JT h2 ∧ RJ h2 := by
  obtain ⟨r1, h1, q1, hh1, f1, hj1⟩ := pub_of (E := E) (a := 0) (kg_c_told JT_P hands) (N := mX7_told) rfl (List.cons_ne_nil _ _) [x1, x2] rfl (fun q => by cases q) (Nat.le_of_ble_eq_true rfl) hh hj
  obtain ⟨r2, h2, q2, hh2, f2, hj2⟩ := pub_of (E := E) (a := 110) (kg_r_told JT_P hands) (N := mX8_told) rfl (List.cons_ne_nil _ _) [x1, x2] rfl (fun q => by cases q) (Nat.le_of_ble_eq_true rfl) hh1 hj1
  exact ⟨r1, r2, h1, h2, q1, q2, mobj hh1, hh2, hj2, ⟨pRel_fr (pRel_fr hR.1 f1 (by decide +kernel)) f2 (by decide +kernel), cRel_fr (cRel_fr hR.2.1 f1 (by decide +kernel)) f2 (by decide +kernel), xj_fr (xj_fr hR.2.2 f1 (by decide +kernel)) f2 (by decide +kernel)⟩⟩
theorem lw_says (x1 x2 : Int32) (hh : HI HT h) (hj : JT h) (hR : RJ h) : ∃ (r1 r2 : Int32) (h1 h2 : List pC), Run prog E pV1 120 mX7_says [.ref 0, .int x1, .int x2] h (some (.int r1), h1, 0, 0) ∧ Run prog E pV1 120 mX8_says [.ref 110, .int x1, .int x2] h1 (some (.int r2), h2, 0, 0) ∧ (∃ o, pobj h1 110 = some o ∧ o.1 = 8) ∧ HI HT h2 ∧ JT h2 ∧ RJ h2 := by
  obtain ⟨r1, h1, q1, hh1, f1, hj1⟩ := pub_of (E := E) (a := 0) (kg_c_says JT_P hands) (N := mX7_says) rfl (List.cons_ne_nil _ _) [x1, x2] rfl (fun q => by cases q) (Nat.le_of_ble_eq_true rfl) hh hj
  obtain ⟨r2, h2, q2, hh2, f2, hj2⟩ := pub_of (E := E) (a := 110) (kg_r_says JT_P hands) (N := mX8_says) rfl (List.cons_ne_nil _ _) [x1, x2] rfl (fun q => by cases q) (Nat.le_of_ble_eq_true rfl) hh1 hj1
  exact ⟨r1, r2, h1, h2, q1, q2, mobj hh1, hh2, hj2, ⟨pRel_fr (pRel_fr hR.1 f1 (by decide +kernel)) f2 (by decide +kernel), cRel_fr (cRel_fr hR.2.1 f1 (by decide +kernel)) f2 (by decide +kernel), xj_fr (xj_fr hR.2.2 f1 (by decide +kernel)) f2 (by decide +kernel)⟩⟩
theorem lw_as (x1 x2 : Int32) (hh : HI HT h) (hj : JT h) (hR : RJ h) : ∃ (r1 r2 : Int32) (h1 h2 : List pC), Run prog E pV1 120 mX7_as [.ref 0, .int x1, .int x2] h (some (.int r1), h1, 0, 0) ∧ Run prog E pV1 120 mX8_as [.ref 110, .int x1, .int x2] h1 (some (.int r2), h2, 0, 0) ∧ (∃ o, pobj h1 110 = some o ∧ o.1 = 8) ∧ HI HT h2 ∧ JT h2 ∧ RJ h2 := by
  obtain ⟨r1, h1, q1, hh1, f1, hj1⟩ := pub_of (E := E) (a := 0) (kg_c_as JT_P hands) (N := mX7_as) rfl (List.cons_ne_nil _ _) [x1, x2] rfl (fun q => by cases q) (Nat.le_of_ble_eq_true rfl) hh hj
  obtain ⟨r2, h2, q2, hh2, f2, hj2⟩ := pub_of (E := E) (a := 110) (kg_r_as JT_P hands) (N := mX8_as) rfl (List.cons_ne_nil _ _) [x1, x2] rfl (fun q => by cases q) (Nat.le_of_ble_eq_true rfl) hh1 hj1
  exact ⟨r1, r2, h1, h2, q1, q2, mobj hh1, hh2, hj2, ⟨pRel_fr (pRel_fr hR.1 f1 (by decide +kernel)) f2 (by decide +kernel), cRel_fr (cRel_fr hR.2.1 f1 (by decide +kernel)) f2 (by decide +kernel), xj_fr (xj_fr hR.2.2 f1 (by decide +kernel)) f2 (by decide +kernel)⟩⟩
theorem lf_turns0n (x1 x2 : Int32) (hh : HI HT h) (hj : JT h) (hR : RJ h) (a1 : 0 ≤ x1.toInt ∧ x1.toInt ≤ 0) (b34_5 : 0 ≤ (ri h 34 5).toInt ∧ (ri h 34 5).toInt ≤ 0) : ∃ (r1 r2 : Int32) (h1 h2 : List pC), Run prog E pV1 120 mX7_turns [.ref 0, .int x1, .int x2] h (some (.int r1), h1, 0, 0) ∧ Run prog E pV1 120 mX8_turns [.ref 110, .int x1, .int x2] h1 (some (.int r2), h2, 0, 0) ∧ (∃ o, pobj h1 110 = some o ∧ o.1 = 8) ∧ HI HT h2 ∧ JT h2 ∧ RJ h2 := by
  obtain ⟨r1, r2, h1, h2, q1, q2, q3, p1, p2, p3, p4⟩ := po_ok2 (E := E) (x1 := x1) (x2 := x2) cp_turns0n rfl rfl (List.cons_ne_nil _ _) (List.cons_ne_nil _ _) (fun _ h => absurd h List.not_mem_nil) hh hj hR.1 hR.2.1 ⟨a1, i32_b x2, trivial⟩ (pBd.cs b34_5.1 b34_5.2 pBd.nl) (fun e he => by cases he)
  exact ⟨r1, r2, h1, h2, q1, q2, q3, p1, p2, p3.1, p3.2, xj_fr hR.2.2 p4 (by decide +kernel)⟩
theorem lf_turns0y (x1 x2 : Int32) (hh : HI HT h) (hj : JT h) (hR : RJ h) (a1 : 0 ≤ x1.toInt ∧ x1.toInt ≤ 0) (b34_5 : 1 ≤ (ri h 34 5).toInt ∧ (ri h 34 5).toInt ≤ 9) : ∃ (r1 r2 : Int32) (h1 h2 : List pC), Run prog E pV1 120 mX7_turns [.ref 0, .int x1, .int x2] h (some (.int r1), h1, 0, 0) ∧ Run prog E pV1 120 mX8_turns [.ref 110, .int x1, .int x2] h1 (some (.int r2), h2, 0, 0) ∧ (∃ o, pobj h1 110 = some o ∧ o.1 = 8) ∧ HI HT h2 ∧ JT h2 ∧ RJ h2 := by
  obtain ⟨r1, r2, h1, h2, q1, q2, q3, p1, p2, p3, p4⟩ := po_ok2 (E := E) (x1 := x1) (x2 := x2) cp_turns0y rfl rfl (List.cons_ne_nil _ _) (List.cons_ne_nil _ _) (fun _ h => absurd h List.not_mem_nil) hh hj hR.1 hR.2.1 ⟨a1, i32_b x2, trivial⟩ (pBd.cs b34_5.1 b34_5.2 (pBd.cs (i32_b (ri h 39 0)).1 (i32_b (ri h 39 0)).2 pBd.nl)) (fun e he => by cases he)
  exact ⟨r1, r2, h1, h2, q1, q2, q3, p1, p2, p3.1, p3.2, xj_fr hR.2.2 p4 (by decide +kernel)⟩
theorem lf_turns1n (x1 x2 : Int32) (hh : HI HT h) (hj : JT h) (hR : RJ h) (a1 : 1 ≤ x1.toInt ∧ x1.toInt ≤ 1) (b34_5 : 0 ≤ (ri h 34 5).toInt ∧ (ri h 34 5).toInt ≤ 1) : ∃ (r1 r2 : Int32) (h1 h2 : List pC), Run prog E pV1 120 mX7_turns [.ref 0, .int x1, .int x2] h (some (.int r1), h1, 0, 0) ∧ Run prog E pV1 120 mX8_turns [.ref 110, .int x1, .int x2] h1 (some (.int r2), h2, 0, 0) ∧ (∃ o, pobj h1 110 = some o ∧ o.1 = 8) ∧ HI HT h2 ∧ JT h2 ∧ RJ h2 := by
  obtain ⟨r1, r2, h1, h2, q1, q2, q3, p1, p2, p3, p4⟩ := po_ok2 (E := E) (x1 := x1) (x2 := x2) cp_turns1n rfl rfl (List.cons_ne_nil _ _) (List.cons_ne_nil _ _) (fun _ h => absurd h List.not_mem_nil) hh hj hR.1 hR.2.1 ⟨a1, i32_b x2, trivial⟩ (pBd.cs b34_5.1 b34_5.2 pBd.nl) (fun e he => by cases he)
  exact ⟨r1, r2, h1, h2, q1, q2, q3, p1, p2, p3.1, p3.2, xj_fr hR.2.2 p4 (by decide +kernel)⟩
theorem lf_turns1y (x1 x2 : Int32) (hh : HI HT h) (hj : JT h) (hR : RJ h) (a1 : 1 ≤ x1.toInt ∧ x1.toInt ≤ 1) (b34_5 : 2 ≤ (ri h 34 5).toInt ∧ (ri h 34 5).toInt ≤ 9) : ∃ (r1 r2 : Int32) (h1 h2 : List pC), Run prog E pV1 120 mX7_turns [.ref 0, .int x1, .int x2] h (some (.int r1), h1, 0, 0) ∧ Run prog E pV1 120 mX8_turns [.ref 110, .int x1, .int x2] h1 (some (.int r2), h2, 0, 0) ∧ (∃ o, pobj h1 110 = some o ∧ o.1 = 8) ∧ HI HT h2 ∧ JT h2 ∧ RJ h2 := by
  obtain ⟨r1, r2, h1, h2, q1, q2, q3, p1, p2, p3, p4⟩ := po_ok2 (E := E) (x1 := x1) (x2 := x2) cp_turns1y rfl rfl (List.cons_ne_nil _ _) (List.cons_ne_nil _ _) (fun _ h => absurd h List.not_mem_nil) hh hj hR.1 hR.2.1 ⟨a1, i32_b x2, trivial⟩ (pBd.cs b34_5.1 b34_5.2 (pBd.cs (i32_b (ri h 40 0)).1 (i32_b (ri h 40 0)).2 pBd.nl)) (fun e he => by cases he)
  exact ⟨r1, r2, h1, h2, q1, q2, q3, p1, p2, p3.1, p3.2, xj_fr hR.2.2 p4 (by decide +kernel)⟩
theorem lf_turns2n (x1 x2 : Int32) (hh : HI HT h) (hj : JT h) (hR : RJ h) (a1 : 2 ≤ x1.toInt ∧ x1.toInt ≤ 2) (b34_5 : 0 ≤ (ri h 34 5).toInt ∧ (ri h 34 5).toInt ≤ 2) : ∃ (r1 r2 : Int32) (h1 h2 : List pC), Run prog E pV1 120 mX7_turns [.ref 0, .int x1, .int x2] h (some (.int r1), h1, 0, 0) ∧ Run prog E pV1 120 mX8_turns [.ref 110, .int x1, .int x2] h1 (some (.int r2), h2, 0, 0) ∧ (∃ o, pobj h1 110 = some o ∧ o.1 = 8) ∧ HI HT h2 ∧ JT h2 ∧ RJ h2 := by
  obtain ⟨r1, r2, h1, h2, q1, q2, q3, p1, p2, p3, p4⟩ := po_ok2 (E := E) (x1 := x1) (x2 := x2) cp_turns2n rfl rfl (List.cons_ne_nil _ _) (List.cons_ne_nil _ _) (fun _ h => absurd h List.not_mem_nil) hh hj hR.1 hR.2.1 ⟨a1, i32_b x2, trivial⟩ (pBd.cs b34_5.1 b34_5.2 pBd.nl) (fun e he => by cases he)
  exact ⟨r1, r2, h1, h2, q1, q2, q3, p1, p2, p3.1, p3.2, xj_fr hR.2.2 p4 (by decide +kernel)⟩
theorem lf_turns2y (x1 x2 : Int32) (hh : HI HT h) (hj : JT h) (hR : RJ h) (a1 : 2 ≤ x1.toInt ∧ x1.toInt ≤ 2) (b34_5 : 3 ≤ (ri h 34 5).toInt ∧ (ri h 34 5).toInt ≤ 9) : ∃ (r1 r2 : Int32) (h1 h2 : List pC), Run prog E pV1 120 mX7_turns [.ref 0, .int x1, .int x2] h (some (.int r1), h1, 0, 0) ∧ Run prog E pV1 120 mX8_turns [.ref 110, .int x1, .int x2] h1 (some (.int r2), h2, 0, 0) ∧ (∃ o, pobj h1 110 = some o ∧ o.1 = 8) ∧ HI HT h2 ∧ JT h2 ∧ RJ h2 := by
  obtain ⟨r1, r2, h1, h2, q1, q2, q3, p1, p2, p3, p4⟩ := po_ok2 (E := E) (x1 := x1) (x2 := x2) cp_turns2y rfl rfl (List.cons_ne_nil _ _) (List.cons_ne_nil _ _) (fun _ h => absurd h List.not_mem_nil) hh hj hR.1 hR.2.1 ⟨a1, i32_b x2, trivial⟩ (pBd.cs b34_5.1 b34_5.2 (pBd.cs (i32_b (ri h 41 0)).1 (i32_b (ri h 41 0)).2 pBd.nl)) (fun e he => by cases he)
  exact ⟨r1, r2, h1, h2, q1, q2, q3, p1, p2, p3.1, p3.2, xj_fr hR.2.2 p4 (by decide +kernel)⟩
theorem lf_turns3n (x1 x2 : Int32) (hh : HI HT h) (hj : JT h) (hR : RJ h) (a1 : 3 ≤ x1.toInt ∧ x1.toInt ≤ 3) (b34_5 : 0 ≤ (ri h 34 5).toInt ∧ (ri h 34 5).toInt ≤ 3) : ∃ (r1 r2 : Int32) (h1 h2 : List pC), Run prog E pV1 120 mX7_turns [.ref 0, .int x1, .int x2] h (some (.int r1), h1, 0, 0) ∧ Run prog E pV1 120 mX8_turns [.ref 110, .int x1, .int x2] h1 (some (.int r2), h2, 0, 0) ∧ (∃ o, pobj h1 110 = some o ∧ o.1 = 8) ∧ HI HT h2 ∧ JT h2 ∧ RJ h2 := by
  obtain ⟨r1, r2, h1, h2, q1, q2, q3, p1, p2, p3, p4⟩ := po_ok2 (E := E) (x1 := x1) (x2 := x2) cp_turns3n rfl rfl (List.cons_ne_nil _ _) (List.cons_ne_nil _ _) (fun _ h => absurd h List.not_mem_nil) hh hj hR.1 hR.2.1 ⟨a1, i32_b x2, trivial⟩ (pBd.cs b34_5.1 b34_5.2 pBd.nl) (fun e he => by cases he)
  exact ⟨r1, r2, h1, h2, q1, q2, q3, p1, p2, p3.1, p3.2, xj_fr hR.2.2 p4 (by decide +kernel)⟩
theorem lf_turns3y (x1 x2 : Int32) (hh : HI HT h) (hj : JT h) (hR : RJ h) (a1 : 3 ≤ x1.toInt ∧ x1.toInt ≤ 3) (b34_5 : 4 ≤ (ri h 34 5).toInt ∧ (ri h 34 5).toInt ≤ 9) : ∃ (r1 r2 : Int32) (h1 h2 : List pC), Run prog E pV1 120 mX7_turns [.ref 0, .int x1, .int x2] h (some (.int r1), h1, 0, 0) ∧ Run prog E pV1 120 mX8_turns [.ref 110, .int x1, .int x2] h1 (some (.int r2), h2, 0, 0) ∧ (∃ o, pobj h1 110 = some o ∧ o.1 = 8) ∧ HI HT h2 ∧ JT h2 ∧ RJ h2 := by
  obtain ⟨r1, r2, h1, h2, q1, q2, q3, p1, p2, p3, p4⟩ := po_ok2 (E := E) (x1 := x1) (x2 := x2) cp_turns3y rfl rfl (List.cons_ne_nil _ _) (List.cons_ne_nil _ _) (fun _ h => absurd h List.not_mem_nil) hh hj hR.1 hR.2.1 ⟨a1, i32_b x2, trivial⟩ (pBd.cs b34_5.1 b34_5.2 (pBd.cs (i32_b (ri h 42 0)).1 (i32_b (ri h 42 0)).2 pBd.nl)) (fun e he => by cases he)
  exact ⟨r1, r2, h1, h2, q1, q2, q3, p1, p2, p3.1, p3.2, xj_fr hR.2.2 p4 (by decide +kernel)⟩
theorem lf_turns4n (x1 x2 : Int32) (hh : HI HT h) (hj : JT h) (hR : RJ h) (a1 : 4 ≤ x1.toInt ∧ x1.toInt ≤ 4) (b34_5 : 0 ≤ (ri h 34 5).toInt ∧ (ri h 34 5).toInt ≤ 4) : ∃ (r1 r2 : Int32) (h1 h2 : List pC), Run prog E pV1 120 mX7_turns [.ref 0, .int x1, .int x2] h (some (.int r1), h1, 0, 0) ∧ Run prog E pV1 120 mX8_turns [.ref 110, .int x1, .int x2] h1 (some (.int r2), h2, 0, 0) ∧ (∃ o, pobj h1 110 = some o ∧ o.1 = 8) ∧ HI HT h2 ∧ JT h2 ∧ RJ h2 := by
  obtain ⟨r1, r2, h1, h2, q1, q2, q3, p1, p2, p3, p4⟩ := po_ok2 (E := E) (x1 := x1) (x2 := x2) cp_turns4n rfl rfl (List.cons_ne_nil _ _) (List.cons_ne_nil _ _) (fun _ h => absurd h List.not_mem_nil) hh hj hR.1 hR.2.1 ⟨a1, i32_b x2, trivial⟩ (pBd.cs b34_5.1 b34_5.2 pBd.nl) (fun e he => by cases he)
  exact ⟨r1, r2, h1, h2, q1, q2, q3, p1, p2, p3.1, p3.2, xj_fr hR.2.2 p4 (by decide +kernel)⟩
theorem lf_turns4y (x1 x2 : Int32) (hh : HI HT h) (hj : JT h) (hR : RJ h) (a1 : 4 ≤ x1.toInt ∧ x1.toInt ≤ 4) (b34_5 : 5 ≤ (ri h 34 5).toInt ∧ (ri h 34 5).toInt ≤ 9) : ∃ (r1 r2 : Int32) (h1 h2 : List pC), Run prog E pV1 120 mX7_turns [.ref 0, .int x1, .int x2] h (some (.int r1), h1, 0, 0) ∧ Run prog E pV1 120 mX8_turns [.ref 110, .int x1, .int x2] h1 (some (.int r2), h2, 0, 0) ∧ (∃ o, pobj h1 110 = some o ∧ o.1 = 8) ∧ HI HT h2 ∧ JT h2 ∧ RJ h2 := by
  obtain ⟨r1, r2, h1, h2, q1, q2, q3, p1, p2, p3, p4⟩ := po_ok2 (E := E) (x1 := x1) (x2 := x2) cp_turns4y rfl rfl (List.cons_ne_nil _ _) (List.cons_ne_nil _ _) (fun _ h => absurd h List.not_mem_nil) hh hj hR.1 hR.2.1 ⟨a1, i32_b x2, trivial⟩ (pBd.cs b34_5.1 b34_5.2 (pBd.cs (i32_b (ri h 43 0)).1 (i32_b (ri h 43 0)).2 pBd.nl)) (fun e he => by cases he)
  exact ⟨r1, r2, h1, h2, q1, q2, q3, p1, p2, p3.1, p3.2, xj_fr hR.2.2 p4 (by decide +kernel)⟩
theorem lf_turns5n (x1 x2 : Int32) (hh : HI HT h) (hj : JT h) (hR : RJ h) (a1 : 5 ≤ x1.toInt ∧ x1.toInt ≤ 5) (b34_5 : 0 ≤ (ri h 34 5).toInt ∧ (ri h 34 5).toInt ≤ 5) : ∃ (r1 r2 : Int32) (h1 h2 : List pC), Run prog E pV1 120 mX7_turns [.ref 0, .int x1, .int x2] h (some (.int r1), h1, 0, 0) ∧ Run prog E pV1 120 mX8_turns [.ref 110, .int x1, .int x2] h1 (some (.int r2), h2, 0, 0) ∧ (∃ o, pobj h1 110 = some o ∧ o.1 = 8) ∧ HI HT h2 ∧ JT h2 ∧ RJ h2 := by
  obtain ⟨r1, r2, h1, h2, q1, q2, q3, p1, p2, p3, p4⟩ := po_ok2 (E := E) (x1 := x1) (x2 := x2) cp_turns5n rfl rfl (List.cons_ne_nil _ _) (List.cons_ne_nil _ _) (fun _ h => absurd h List.not_mem_nil) hh hj hR.1 hR.2.1 ⟨a1, i32_b x2, trivial⟩ (pBd.cs b34_5.1 b34_5.2 pBd.nl) (fun e he => by cases he)
  exact ⟨r1, r2, h1, h2, q1, q2, q3, p1, p2, p3.1, p3.2, xj_fr hR.2.2 p4 (by decide +kernel)⟩
theorem lf_turns5y (x1 x2 : Int32) (hh : HI HT h) (hj : JT h) (hR : RJ h) (a1 : 5 ≤ x1.toInt ∧ x1.toInt ≤ 5) (b34_5 : 6 ≤ (ri h 34 5).toInt ∧ (ri h 34 5).toInt ≤ 9) : ∃ (r1 r2 : Int32) (h1 h2 : List pC), Run prog E pV1 120 mX7_turns [.ref 0, .int x1, .int x2] h (some (.int r1), h1, 0, 0) ∧ Run prog E pV1 120 mX8_turns [.ref 110, .int x1, .int x2] h1 (some (.int r2), h2, 0, 0) ∧ (∃ o, pobj h1 110 = some o ∧ o.1 = 8) ∧ HI HT h2 ∧ JT h2 ∧ RJ h2 := by
  obtain ⟨r1, r2, h1, h2, q1, q2, q3, p1, p2, p3, p4⟩ := po_ok2 (E := E) (x1 := x1) (x2 := x2) cp_turns5y rfl rfl (List.cons_ne_nil _ _) (List.cons_ne_nil _ _) (fun _ h => absurd h List.not_mem_nil) hh hj hR.1 hR.2.1 ⟨a1, i32_b x2, trivial⟩ (pBd.cs b34_5.1 b34_5.2 (pBd.cs (i32_b (ri h 44 0)).1 (i32_b (ri h 44 0)).2 pBd.nl)) (fun e he => by cases he)
  exact ⟨r1, r2, h1, h2, q1, q2, q3, p1, p2, p3.1, p3.2, xj_fr hR.2.2 p4 (by decide +kernel)⟩
theorem lf_turns6n (x1 x2 : Int32) (hh : HI HT h) (hj : JT h) (hR : RJ h) (a1 : 6 ≤ x1.toInt ∧ x1.toInt ≤ 6) (b34_5 : 0 ≤ (ri h 34 5).toInt ∧ (ri h 34 5).toInt ≤ 6) : ∃ (r1 r2 : Int32) (h1 h2 : List pC), Run prog E pV1 120 mX7_turns [.ref 0, .int x1, .int x2] h (some (.int r1), h1, 0, 0) ∧ Run prog E pV1 120 mX8_turns [.ref 110, .int x1, .int x2] h1 (some (.int r2), h2, 0, 0) ∧ (∃ o, pobj h1 110 = some o ∧ o.1 = 8) ∧ HI HT h2 ∧ JT h2 ∧ RJ h2 := by
  obtain ⟨r1, r2, h1, h2, q1, q2, q3, p1, p2, p3, p4⟩ := po_ok2 (E := E) (x1 := x1) (x2 := x2) cp_turns6n rfl rfl (List.cons_ne_nil _ _) (List.cons_ne_nil _ _) (fun _ h => absurd h List.not_mem_nil) hh hj hR.1 hR.2.1 ⟨a1, i32_b x2, trivial⟩ (pBd.cs b34_5.1 b34_5.2 pBd.nl) (fun e he => by cases he)
  exact ⟨r1, r2, h1, h2, q1, q2, q3, p1, p2, p3.1, p3.2, xj_fr hR.2.2 p4 (by decide +kernel)⟩
theorem lf_turns6y (x1 x2 : Int32) (hh : HI HT h) (hj : JT h) (hR : RJ h) (a1 : 6 ≤ x1.toInt ∧ x1.toInt ≤ 6) (b34_5 : 7 ≤ (ri h 34 5).toInt ∧ (ri h 34 5).toInt ≤ 9) : ∃ (r1 r2 : Int32) (h1 h2 : List pC), Run prog E pV1 120 mX7_turns [.ref 0, .int x1, .int x2] h (some (.int r1), h1, 0, 0) ∧ Run prog E pV1 120 mX8_turns [.ref 110, .int x1, .int x2] h1 (some (.int r2), h2, 0, 0) ∧ (∃ o, pobj h1 110 = some o ∧ o.1 = 8) ∧ HI HT h2 ∧ JT h2 ∧ RJ h2 := by
  obtain ⟨r1, r2, h1, h2, q1, q2, q3, p1, p2, p3, p4⟩ := po_ok2 (E := E) (x1 := x1) (x2 := x2) cp_turns6y rfl rfl (List.cons_ne_nil _ _) (List.cons_ne_nil _ _) (fun _ h => absurd h List.not_mem_nil) hh hj hR.1 hR.2.1 ⟨a1, i32_b x2, trivial⟩ (pBd.cs b34_5.1 b34_5.2 (pBd.cs (i32_b (ri h 45 0)).1 (i32_b (ri h 45 0)).2 pBd.nl)) (fun e he => by cases he)
  exact ⟨r1, r2, h1, h2, q1, q2, q3, p1, p2, p3.1, p3.2, xj_fr hR.2.2 p4 (by decide +kernel)⟩
theorem lf_turns7n (x1 x2 : Int32) (hh : HI HT h) (hj : JT h) (hR : RJ h) (a1 : 7 ≤ x1.toInt ∧ x1.toInt ≤ 7) (b34_5 : 0 ≤ (ri h 34 5).toInt ∧ (ri h 34 5).toInt ≤ 7) : ∃ (r1 r2 : Int32) (h1 h2 : List pC), Run prog E pV1 120 mX7_turns [.ref 0, .int x1, .int x2] h (some (.int r1), h1, 0, 0) ∧ Run prog E pV1 120 mX8_turns [.ref 110, .int x1, .int x2] h1 (some (.int r2), h2, 0, 0) ∧ (∃ o, pobj h1 110 = some o ∧ o.1 = 8) ∧ HI HT h2 ∧ JT h2 ∧ RJ h2 := by
  obtain ⟨r1, r2, h1, h2, q1, q2, q3, p1, p2, p3, p4⟩ := po_ok2 (E := E) (x1 := x1) (x2 := x2) cp_turns7n rfl rfl (List.cons_ne_nil _ _) (List.cons_ne_nil _ _) (fun _ h => absurd h List.not_mem_nil) hh hj hR.1 hR.2.1 ⟨a1, i32_b x2, trivial⟩ (pBd.cs b34_5.1 b34_5.2 pBd.nl) (fun e he => by cases he)
  exact ⟨r1, r2, h1, h2, q1, q2, q3, p1, p2, p3.1, p3.2, xj_fr hR.2.2 p4 (by decide +kernel)⟩
theorem lf_turns7y (x1 x2 : Int32) (hh : HI HT h) (hj : JT h) (hR : RJ h) (a1 : 7 ≤ x1.toInt ∧ x1.toInt ≤ 7) (b34_5 : 8 ≤ (ri h 34 5).toInt ∧ (ri h 34 5).toInt ≤ 9) : ∃ (r1 r2 : Int32) (h1 h2 : List pC), Run prog E pV1 120 mX7_turns [.ref 0, .int x1, .int x2] h (some (.int r1), h1, 0, 0) ∧ Run prog E pV1 120 mX8_turns [.ref 110, .int x1, .int x2] h1 (some (.int r2), h2, 0, 0) ∧ (∃ o, pobj h1 110 = some o ∧ o.1 = 8) ∧ HI HT h2 ∧ JT h2 ∧ RJ h2 := by
  obtain ⟨r1, r2, h1, h2, q1, q2, q3, p1, p2, p3, p4⟩ := po_ok2 (E := E) (x1 := x1) (x2 := x2) cp_turns7y rfl rfl (List.cons_ne_nil _ _) (List.cons_ne_nil _ _) (fun _ h => absurd h List.not_mem_nil) hh hj hR.1 hR.2.1 ⟨a1, i32_b x2, trivial⟩ (pBd.cs b34_5.1 b34_5.2 (pBd.cs (i32_b (ri h 46 0)).1 (i32_b (ri h 46 0)).2 pBd.nl)) (fun e he => by cases he)
  exact ⟨r1, r2, h1, h2, q1, q2, q3, p1, p2, p3.1, p3.2, xj_fr hR.2.2 p4 (by decide +kernel)⟩
theorem lf_turns8n (x1 x2 : Int32) (hh : HI HT h) (hj : JT h) (hR : RJ h) (a1 : 8 ≤ x1.toInt ∧ x1.toInt ≤ 8) (b34_5 : 0 ≤ (ri h 34 5).toInt ∧ (ri h 34 5).toInt ≤ 8) : ∃ (r1 r2 : Int32) (h1 h2 : List pC), Run prog E pV1 120 mX7_turns [.ref 0, .int x1, .int x2] h (some (.int r1), h1, 0, 0) ∧ Run prog E pV1 120 mX8_turns [.ref 110, .int x1, .int x2] h1 (some (.int r2), h2, 0, 0) ∧ (∃ o, pobj h1 110 = some o ∧ o.1 = 8) ∧ HI HT h2 ∧ JT h2 ∧ RJ h2 := by
  obtain ⟨r1, r2, h1, h2, q1, q2, q3, p1, p2, p3, p4⟩ := po_ok2 (E := E) (x1 := x1) (x2 := x2) cp_turns8n rfl rfl (List.cons_ne_nil _ _) (List.cons_ne_nil _ _) (fun _ h => absurd h List.not_mem_nil) hh hj hR.1 hR.2.1 ⟨a1, i32_b x2, trivial⟩ (pBd.cs b34_5.1 b34_5.2 pBd.nl) (fun e he => by cases he)
  exact ⟨r1, r2, h1, h2, q1, q2, q3, p1, p2, p3.1, p3.2, xj_fr hR.2.2 p4 (by decide +kernel)⟩
theorem lf_turns8y (x1 x2 : Int32) (hh : HI HT h) (hj : JT h) (hR : RJ h) (a1 : 8 ≤ x1.toInt ∧ x1.toInt ≤ 8) (b34_5 : 9 ≤ (ri h 34 5).toInt ∧ (ri h 34 5).toInt ≤ 9) : ∃ (r1 r2 : Int32) (h1 h2 : List pC), Run prog E pV1 120 mX7_turns [.ref 0, .int x1, .int x2] h (some (.int r1), h1, 0, 0) ∧ Run prog E pV1 120 mX8_turns [.ref 110, .int x1, .int x2] h1 (some (.int r2), h2, 0, 0) ∧ (∃ o, pobj h1 110 = some o ∧ o.1 = 8) ∧ HI HT h2 ∧ JT h2 ∧ RJ h2 := by
  obtain ⟨r1, r2, h1, h2, q1, q2, q3, p1, p2, p3, p4⟩ := po_ok2 (E := E) (x1 := x1) (x2 := x2) cp_turns8y rfl rfl (List.cons_ne_nil _ _) (List.cons_ne_nil _ _) (fun _ h => absurd h List.not_mem_nil) hh hj hR.1 hR.2.1 ⟨a1, i32_b x2, trivial⟩ (pBd.cs b34_5.1 b34_5.2 (pBd.cs (i32_b (ri h 47 0)).1 (i32_b (ri h 47 0)).2 pBd.nl)) (fun e he => by cases he)
  exact ⟨r1, r2, h1, h2, q1, q2, q3, p1, p2, p3.1, p3.2, xj_fr hR.2.2 p4 (by decide +kernel)⟩
theorem lf_turnsl (x1 x2 : Int32) (hh : HI HT h) (hj : JT h) (hR : RJ h) (a1 : (-2147483648) ≤ x1.toInt ∧ x1.toInt ≤ (-1)) : ∃ (r1 r2 : Int32) (h1 h2 : List pC), Run prog E pV1 120 mX7_turns [.ref 0, .int x1, .int x2] h (some (.int r1), h1, 0, 0) ∧ Run prog E pV1 120 mX8_turns [.ref 110, .int x1, .int x2] h1 (some (.int r2), h2, 0, 0) ∧ (∃ o, pobj h1 110 = some o ∧ o.1 = 8) ∧ HI HT h2 ∧ JT h2 ∧ RJ h2 := by
  obtain ⟨r1, r2, h1, h2, q1, q2, q3, p1, p2, p3, p4⟩ := po_ok2 (E := E) (x1 := x1) (x2 := x2) cp_turnsl rfl rfl (List.cons_ne_nil _ _) (List.cons_ne_nil _ _) (fun _ h => absurd h List.not_mem_nil) hh hj hR.1 hR.2.1 ⟨a1, i32_b x2, trivial⟩ pBd.nl (fun e he => by cases he)
  exact ⟨r1, r2, h1, h2, q1, q2, q3, p1, p2, p3.1, p3.2, xj_fr hR.2.2 p4 (by decide +kernel)⟩
theorem lf_turnsh (x1 x2 : Int32) (hh : HI HT h) (hj : JT h) (hR : RJ h) (a1 : 9 ≤ x1.toInt ∧ x1.toInt ≤ 2147483647) : ∃ (r1 r2 : Int32) (h1 h2 : List pC), Run prog E pV1 120 mX7_turns [.ref 0, .int x1, .int x2] h (some (.int r1), h1, 0, 0) ∧ Run prog E pV1 120 mX8_turns [.ref 110, .int x1, .int x2] h1 (some (.int r2), h2, 0, 0) ∧ (∃ o, pobj h1 110 = some o ∧ o.1 = 8) ∧ HI HT h2 ∧ JT h2 ∧ RJ h2 := by
  obtain ⟨r1, r2, h1, h2, q1, q2, q3, p1, p2, p3, p4⟩ := po_ok2 (E := E) (x1 := x1) (x2 := x2) cp_turnsh rfl rfl (List.cons_ne_nil _ _) (List.cons_ne_nil _ _) (fun _ h => absurd h List.not_mem_nil) hh hj hR.1 hR.2.1 ⟨a1, i32_b x2, trivial⟩ pBd.nl (fun e he => by cases he)
  exact ⟨r1, r2, h1, h2, q1, q2, q3, p1, p2, p3.1, p3.2, xj_fr hR.2.2 p4 (by decide +kernel)⟩
theorem lw_turns (x1 x2 : Int32) (hh : HI HT h) (hj : JT h) (hR : RJ h) : ∃ (r1 r2 : Int32) (h1 h2 : List pC), Run prog E pV1 120 mX7_turns [.ref 0, .int x1, .int x2] h (some (.int r1), h1, 0, 0) ∧ Run prog E pV1 120 mX8_turns [.ref 110, .int x1, .int x2] h1 (some (.int r2), h2, 0, 0) ∧ (∃ o, pobj h1 110 = some o ∧ o.1 = 8) ∧ HI HT h2 ∧ JT h2 ∧ RJ h2 := by
  have ex1 := i32_b x1
  have ex2 := i32_b x2
  have t34_5 := ty_34_5 hh hR
  by_cases c1 : x1.toInt ≤ (-1)
  · exact lf_turnsl x1 x2 hh hj hR ⟨by omega, by omega⟩
  by_cases c2 : x1.toInt ≤ 0
  · by_cases c3 : (ri h 34 5).toInt ≤ 0
    · exact lf_turns0n x1 x2 hh hj hR ⟨by omega, by omega⟩ ⟨by omega, by omega⟩
    exact lf_turns0y x1 x2 hh hj hR ⟨by omega, by omega⟩ ⟨by omega, by omega⟩
  by_cases c4 : x1.toInt ≤ 1
  · by_cases c5 : (ri h 34 5).toInt ≤ 1
    · exact lf_turns1n x1 x2 hh hj hR ⟨by omega, by omega⟩ ⟨by omega, by omega⟩
    exact lf_turns1y x1 x2 hh hj hR ⟨by omega, by omega⟩ ⟨by omega, by omega⟩
  by_cases c6 : x1.toInt ≤ 2
  · by_cases c7 : (ri h 34 5).toInt ≤ 2
    · exact lf_turns2n x1 x2 hh hj hR ⟨by omega, by omega⟩ ⟨by omega, by omega⟩
    exact lf_turns2y x1 x2 hh hj hR ⟨by omega, by omega⟩ ⟨by omega, by omega⟩
  by_cases c8 : x1.toInt ≤ 3
  · by_cases c9 : (ri h 34 5).toInt ≤ 3
    · exact lf_turns3n x1 x2 hh hj hR ⟨by omega, by omega⟩ ⟨by omega, by omega⟩
    exact lf_turns3y x1 x2 hh hj hR ⟨by omega, by omega⟩ ⟨by omega, by omega⟩
  by_cases c10 : x1.toInt ≤ 4
  · by_cases c11 : (ri h 34 5).toInt ≤ 4
    · exact lf_turns4n x1 x2 hh hj hR ⟨by omega, by omega⟩ ⟨by omega, by omega⟩
    exact lf_turns4y x1 x2 hh hj hR ⟨by omega, by omega⟩ ⟨by omega, by omega⟩
  by_cases c12 : x1.toInt ≤ 5
  · by_cases c13 : (ri h 34 5).toInt ≤ 5
    · exact lf_turns5n x1 x2 hh hj hR ⟨by omega, by omega⟩ ⟨by omega, by omega⟩
    exact lf_turns5y x1 x2 hh hj hR ⟨by omega, by omega⟩ ⟨by omega, by omega⟩
  by_cases c14 : x1.toInt ≤ 6
  · by_cases c15 : (ri h 34 5).toInt ≤ 6
    · exact lf_turns6n x1 x2 hh hj hR ⟨by omega, by omega⟩ ⟨by omega, by omega⟩
    exact lf_turns6y x1 x2 hh hj hR ⟨by omega, by omega⟩ ⟨by omega, by omega⟩
  by_cases c16 : x1.toInt ≤ 7
  · by_cases c17 : (ri h 34 5).toInt ≤ 7
    · exact lf_turns7n x1 x2 hh hj hR ⟨by omega, by omega⟩ ⟨by omega, by omega⟩
    exact lf_turns7y x1 x2 hh hj hR ⟨by omega, by omega⟩ ⟨by omega, by omega⟩
  by_cases c18 : x1.toInt ≤ 8
  · by_cases c19 : (ri h 34 5).toInt ≤ 8
    · exact lf_turns8n x1 x2 hh hj hR ⟨by omega, by omega⟩ ⟨by omega, by omega⟩
    exact lf_turns8y x1 x2 hh hj hR ⟨by omega, by omega⟩ ⟨by omega, by omega⟩
  exact lf_turnsh x1 x2 hh hj hR ⟨by omega, by omega⟩
theorem lf_set0n (x1 x2 x3 : Int32) (hh : HI HT h) (hj : JT h) (hR : RJ h) (a1 : 0 ≤ x1.toInt ∧ x1.toInt ≤ 0) (b34_5 : 0 ≤ (ri h 34 5).toInt ∧ (ri h 34 5).toInt ≤ 0) : ∃ (r1 r2 : Int32) (h1 h2 : List pC), Run prog E pV1 120 mX7_set [.ref 0, .int x1, .int x2, .int x3] h (some (.int r1), h1, 0, 0) ∧ Run prog E pV1 120 mX8_set [.ref 110, .int x1, .int x2, .int x3] h1 (some (.int r2), h2, 0, 0) ∧ (∃ o, pobj h1 110 = some o ∧ o.1 = 8) ∧ HI HT h2 ∧ JT h2 ∧ RJ h2 := by
  obtain ⟨r1, r2, h1, h2, q1, q2, q3, p1, p2, p3, p4⟩ := po_ok3 (E := E) (x1 := x1) (x2 := x2) (x3 := x3) cp_set0n rfl rfl (List.cons_ne_nil _ _) (List.cons_ne_nil _ _) (fun _ h => absurd h List.not_mem_nil) hh hj hR.1 hR.2.1 ⟨a1, i32_b x2, i32_b x3, trivial⟩ (pBd.cs b34_5.1 b34_5.2 pBd.nl) (fun e he => by cases he)
  exact ⟨r1, r2, h1, h2, q1, q2, q3, p1, p2, p3.1, p3.2, xj_fr hR.2.2 p4 (by decide +kernel)⟩
theorem lf_set0y (x1 x2 x3 : Int32) (hh : HI HT h) (hj : JT h) (hR : RJ h) (a1 : 0 ≤ x1.toInt ∧ x1.toInt ≤ 0) (b34_5 : 1 ≤ (ri h 34 5).toInt ∧ (ri h 34 5).toInt ≤ 9) : ∃ (r1 r2 : Int32) (h1 h2 : List pC), Run prog E pV1 120 mX7_set [.ref 0, .int x1, .int x2, .int x3] h (some (.int r1), h1, 0, 0) ∧ Run prog E pV1 120 mX8_set [.ref 110, .int x1, .int x2, .int x3] h1 (some (.int r2), h2, 0, 0) ∧ (∃ o, pobj h1 110 = some o ∧ o.1 = 8) ∧ HI HT h2 ∧ JT h2 ∧ RJ h2 := by
  obtain ⟨r1, r2, h1, h2, q1, q2, q3, p1, p2, p3, p4⟩ := po_ok3 (E := E) (x1 := x1) (x2 := x2) (x3 := x3) cp_set0y rfl rfl (List.cons_ne_nil _ _) (List.cons_ne_nil _ _) (fun _ h => absurd h List.not_mem_nil) hh hj hR.1 hR.2.1 ⟨a1, i32_b x2, i32_b x3, trivial⟩ (pBd.cs b34_5.1 b34_5.2 (pBd.cs (i32_b (ri h 39 1)).1 (i32_b (ri h 39 1)).2 (pBd.cs (rub_ty (a := 39) hh rfl).1 (rub_ty (a := 39) hh rfl).2 (pBd.cs (i32_b (ri h 39 3)).1 (i32_b (ri h 39 3)).2 pBd.nl)))) (fun e he => by cases he)
  exact ⟨r1, r2, h1, h2, q1, q2, q3, p1, p2, p3.1, p3.2, xj_fr hR.2.2 p4 (by decide +kernel)⟩
theorem lf_set1n (x1 x2 x3 : Int32) (hh : HI HT h) (hj : JT h) (hR : RJ h) (a1 : 1 ≤ x1.toInt ∧ x1.toInt ≤ 1) (b34_5 : 0 ≤ (ri h 34 5).toInt ∧ (ri h 34 5).toInt ≤ 1) : ∃ (r1 r2 : Int32) (h1 h2 : List pC), Run prog E pV1 120 mX7_set [.ref 0, .int x1, .int x2, .int x3] h (some (.int r1), h1, 0, 0) ∧ Run prog E pV1 120 mX8_set [.ref 110, .int x1, .int x2, .int x3] h1 (some (.int r2), h2, 0, 0) ∧ (∃ o, pobj h1 110 = some o ∧ o.1 = 8) ∧ HI HT h2 ∧ JT h2 ∧ RJ h2 := by
  obtain ⟨r1, r2, h1, h2, q1, q2, q3, p1, p2, p3, p4⟩ := po_ok3 (E := E) (x1 := x1) (x2 := x2) (x3 := x3) cp_set1n rfl rfl (List.cons_ne_nil _ _) (List.cons_ne_nil _ _) (fun _ h => absurd h List.not_mem_nil) hh hj hR.1 hR.2.1 ⟨a1, i32_b x2, i32_b x3, trivial⟩ (pBd.cs b34_5.1 b34_5.2 pBd.nl) (fun e he => by cases he)
  exact ⟨r1, r2, h1, h2, q1, q2, q3, p1, p2, p3.1, p3.2, xj_fr hR.2.2 p4 (by decide +kernel)⟩
theorem lf_set1y (x1 x2 x3 : Int32) (hh : HI HT h) (hj : JT h) (hR : RJ h) (a1 : 1 ≤ x1.toInt ∧ x1.toInt ≤ 1) (b34_5 : 2 ≤ (ri h 34 5).toInt ∧ (ri h 34 5).toInt ≤ 9) : ∃ (r1 r2 : Int32) (h1 h2 : List pC), Run prog E pV1 120 mX7_set [.ref 0, .int x1, .int x2, .int x3] h (some (.int r1), h1, 0, 0) ∧ Run prog E pV1 120 mX8_set [.ref 110, .int x1, .int x2, .int x3] h1 (some (.int r2), h2, 0, 0) ∧ (∃ o, pobj h1 110 = some o ∧ o.1 = 8) ∧ HI HT h2 ∧ JT h2 ∧ RJ h2 := by
  obtain ⟨r1, r2, h1, h2, q1, q2, q3, p1, p2, p3, p4⟩ := po_ok3 (E := E) (x1 := x1) (x2 := x2) (x3 := x3) cp_set1y rfl rfl (List.cons_ne_nil _ _) (List.cons_ne_nil _ _) (fun _ h => absurd h List.not_mem_nil) hh hj hR.1 hR.2.1 ⟨a1, i32_b x2, i32_b x3, trivial⟩ (pBd.cs b34_5.1 b34_5.2 (pBd.cs (i32_b (ri h 40 1)).1 (i32_b (ri h 40 1)).2 (pBd.cs (rub_ty (a := 40) hh rfl).1 (rub_ty (a := 40) hh rfl).2 (pBd.cs (i32_b (ri h 40 3)).1 (i32_b (ri h 40 3)).2 pBd.nl)))) (fun e he => by cases he)
  exact ⟨r1, r2, h1, h2, q1, q2, q3, p1, p2, p3.1, p3.2, xj_fr hR.2.2 p4 (by decide +kernel)⟩
theorem lf_set2n (x1 x2 x3 : Int32) (hh : HI HT h) (hj : JT h) (hR : RJ h) (a1 : 2 ≤ x1.toInt ∧ x1.toInt ≤ 2) (b34_5 : 0 ≤ (ri h 34 5).toInt ∧ (ri h 34 5).toInt ≤ 2) : ∃ (r1 r2 : Int32) (h1 h2 : List pC), Run prog E pV1 120 mX7_set [.ref 0, .int x1, .int x2, .int x3] h (some (.int r1), h1, 0, 0) ∧ Run prog E pV1 120 mX8_set [.ref 110, .int x1, .int x2, .int x3] h1 (some (.int r2), h2, 0, 0) ∧ (∃ o, pobj h1 110 = some o ∧ o.1 = 8) ∧ HI HT h2 ∧ JT h2 ∧ RJ h2 := by
  obtain ⟨r1, r2, h1, h2, q1, q2, q3, p1, p2, p3, p4⟩ := po_ok3 (E := E) (x1 := x1) (x2 := x2) (x3 := x3) cp_set2n rfl rfl (List.cons_ne_nil _ _) (List.cons_ne_nil _ _) (fun _ h => absurd h List.not_mem_nil) hh hj hR.1 hR.2.1 ⟨a1, i32_b x2, i32_b x3, trivial⟩ (pBd.cs b34_5.1 b34_5.2 pBd.nl) (fun e he => by cases he)
  exact ⟨r1, r2, h1, h2, q1, q2, q3, p1, p2, p3.1, p3.2, xj_fr hR.2.2 p4 (by decide +kernel)⟩
theorem lf_set2y (x1 x2 x3 : Int32) (hh : HI HT h) (hj : JT h) (hR : RJ h) (a1 : 2 ≤ x1.toInt ∧ x1.toInt ≤ 2) (b34_5 : 3 ≤ (ri h 34 5).toInt ∧ (ri h 34 5).toInt ≤ 9) : ∃ (r1 r2 : Int32) (h1 h2 : List pC), Run prog E pV1 120 mX7_set [.ref 0, .int x1, .int x2, .int x3] h (some (.int r1), h1, 0, 0) ∧ Run prog E pV1 120 mX8_set [.ref 110, .int x1, .int x2, .int x3] h1 (some (.int r2), h2, 0, 0) ∧ (∃ o, pobj h1 110 = some o ∧ o.1 = 8) ∧ HI HT h2 ∧ JT h2 ∧ RJ h2 := by
  obtain ⟨r1, r2, h1, h2, q1, q2, q3, p1, p2, p3, p4⟩ := po_ok3 (E := E) (x1 := x1) (x2 := x2) (x3 := x3) cp_set2y rfl rfl (List.cons_ne_nil _ _) (List.cons_ne_nil _ _) (fun _ h => absurd h List.not_mem_nil) hh hj hR.1 hR.2.1 ⟨a1, i32_b x2, i32_b x3, trivial⟩ (pBd.cs b34_5.1 b34_5.2 (pBd.cs (i32_b (ri h 41 1)).1 (i32_b (ri h 41 1)).2 (pBd.cs (rub_ty (a := 41) hh rfl).1 (rub_ty (a := 41) hh rfl).2 (pBd.cs (i32_b (ri h 41 3)).1 (i32_b (ri h 41 3)).2 pBd.nl)))) (fun e he => by cases he)
  exact ⟨r1, r2, h1, h2, q1, q2, q3, p1, p2, p3.1, p3.2, xj_fr hR.2.2 p4 (by decide +kernel)⟩
theorem lf_set3n (x1 x2 x3 : Int32) (hh : HI HT h) (hj : JT h) (hR : RJ h) (a1 : 3 ≤ x1.toInt ∧ x1.toInt ≤ 3) (b34_5 : 0 ≤ (ri h 34 5).toInt ∧ (ri h 34 5).toInt ≤ 3) : ∃ (r1 r2 : Int32) (h1 h2 : List pC), Run prog E pV1 120 mX7_set [.ref 0, .int x1, .int x2, .int x3] h (some (.int r1), h1, 0, 0) ∧ Run prog E pV1 120 mX8_set [.ref 110, .int x1, .int x2, .int x3] h1 (some (.int r2), h2, 0, 0) ∧ (∃ o, pobj h1 110 = some o ∧ o.1 = 8) ∧ HI HT h2 ∧ JT h2 ∧ RJ h2 := by
  obtain ⟨r1, r2, h1, h2, q1, q2, q3, p1, p2, p3, p4⟩ := po_ok3 (E := E) (x1 := x1) (x2 := x2) (x3 := x3) cp_set3n rfl rfl (List.cons_ne_nil _ _) (List.cons_ne_nil _ _) (fun _ h => absurd h List.not_mem_nil) hh hj hR.1 hR.2.1 ⟨a1, i32_b x2, i32_b x3, trivial⟩ (pBd.cs b34_5.1 b34_5.2 pBd.nl) (fun e he => by cases he)
  exact ⟨r1, r2, h1, h2, q1, q2, q3, p1, p2, p3.1, p3.2, xj_fr hR.2.2 p4 (by decide +kernel)⟩
theorem lf_set3y (x1 x2 x3 : Int32) (hh : HI HT h) (hj : JT h) (hR : RJ h) (a1 : 3 ≤ x1.toInt ∧ x1.toInt ≤ 3) (b34_5 : 4 ≤ (ri h 34 5).toInt ∧ (ri h 34 5).toInt ≤ 9) : ∃ (r1 r2 : Int32) (h1 h2 : List pC), Run prog E pV1 120 mX7_set [.ref 0, .int x1, .int x2, .int x3] h (some (.int r1), h1, 0, 0) ∧ Run prog E pV1 120 mX8_set [.ref 110, .int x1, .int x2, .int x3] h1 (some (.int r2), h2, 0, 0) ∧ (∃ o, pobj h1 110 = some o ∧ o.1 = 8) ∧ HI HT h2 ∧ JT h2 ∧ RJ h2 := by
  obtain ⟨r1, r2, h1, h2, q1, q2, q3, p1, p2, p3, p4⟩ := po_ok3 (E := E) (x1 := x1) (x2 := x2) (x3 := x3) cp_set3y rfl rfl (List.cons_ne_nil _ _) (List.cons_ne_nil _ _) (fun _ h => absurd h List.not_mem_nil) hh hj hR.1 hR.2.1 ⟨a1, i32_b x2, i32_b x3, trivial⟩ (pBd.cs b34_5.1 b34_5.2 (pBd.cs (i32_b (ri h 42 1)).1 (i32_b (ri h 42 1)).2 (pBd.cs (rub_ty (a := 42) hh rfl).1 (rub_ty (a := 42) hh rfl).2 (pBd.cs (i32_b (ri h 42 3)).1 (i32_b (ri h 42 3)).2 pBd.nl)))) (fun e he => by cases he)
  exact ⟨r1, r2, h1, h2, q1, q2, q3, p1, p2, p3.1, p3.2, xj_fr hR.2.2 p4 (by decide +kernel)⟩
theorem lf_set4n (x1 x2 x3 : Int32) (hh : HI HT h) (hj : JT h) (hR : RJ h) (a1 : 4 ≤ x1.toInt ∧ x1.toInt ≤ 4) (b34_5 : 0 ≤ (ri h 34 5).toInt ∧ (ri h 34 5).toInt ≤ 4) : ∃ (r1 r2 : Int32) (h1 h2 : List pC), Run prog E pV1 120 mX7_set [.ref 0, .int x1, .int x2, .int x3] h (some (.int r1), h1, 0, 0) ∧ Run prog E pV1 120 mX8_set [.ref 110, .int x1, .int x2, .int x3] h1 (some (.int r2), h2, 0, 0) ∧ (∃ o, pobj h1 110 = some o ∧ o.1 = 8) ∧ HI HT h2 ∧ JT h2 ∧ RJ h2 := by
  obtain ⟨r1, r2, h1, h2, q1, q2, q3, p1, p2, p3, p4⟩ := po_ok3 (E := E) (x1 := x1) (x2 := x2) (x3 := x3) cp_set4n rfl rfl (List.cons_ne_nil _ _) (List.cons_ne_nil _ _) (fun _ h => absurd h List.not_mem_nil) hh hj hR.1 hR.2.1 ⟨a1, i32_b x2, i32_b x3, trivial⟩ (pBd.cs b34_5.1 b34_5.2 pBd.nl) (fun e he => by cases he)
  exact ⟨r1, r2, h1, h2, q1, q2, q3, p1, p2, p3.1, p3.2, xj_fr hR.2.2 p4 (by decide +kernel)⟩
theorem lf_set4y (x1 x2 x3 : Int32) (hh : HI HT h) (hj : JT h) (hR : RJ h) (a1 : 4 ≤ x1.toInt ∧ x1.toInt ≤ 4) (b34_5 : 5 ≤ (ri h 34 5).toInt ∧ (ri h 34 5).toInt ≤ 9) : ∃ (r1 r2 : Int32) (h1 h2 : List pC), Run prog E pV1 120 mX7_set [.ref 0, .int x1, .int x2, .int x3] h (some (.int r1), h1, 0, 0) ∧ Run prog E pV1 120 mX8_set [.ref 110, .int x1, .int x2, .int x3] h1 (some (.int r2), h2, 0, 0) ∧ (∃ o, pobj h1 110 = some o ∧ o.1 = 8) ∧ HI HT h2 ∧ JT h2 ∧ RJ h2 := by
  obtain ⟨r1, r2, h1, h2, q1, q2, q3, p1, p2, p3, p4⟩ := po_ok3 (E := E) (x1 := x1) (x2 := x2) (x3 := x3) cp_set4y rfl rfl (List.cons_ne_nil _ _) (List.cons_ne_nil _ _) (fun _ h => absurd h List.not_mem_nil) hh hj hR.1 hR.2.1 ⟨a1, i32_b x2, i32_b x3, trivial⟩ (pBd.cs b34_5.1 b34_5.2 (pBd.cs (i32_b (ri h 43 1)).1 (i32_b (ri h 43 1)).2 (pBd.cs (rub_ty (a := 43) hh rfl).1 (rub_ty (a := 43) hh rfl).2 (pBd.cs (i32_b (ri h 43 3)).1 (i32_b (ri h 43 3)).2 pBd.nl)))) (fun e he => by cases he)
  exact ⟨r1, r2, h1, h2, q1, q2, q3, p1, p2, p3.1, p3.2, xj_fr hR.2.2 p4 (by decide +kernel)⟩
theorem lf_set5n (x1 x2 x3 : Int32) (hh : HI HT h) (hj : JT h) (hR : RJ h) (a1 : 5 ≤ x1.toInt ∧ x1.toInt ≤ 5) (b34_5 : 0 ≤ (ri h 34 5).toInt ∧ (ri h 34 5).toInt ≤ 5) : ∃ (r1 r2 : Int32) (h1 h2 : List pC), Run prog E pV1 120 mX7_set [.ref 0, .int x1, .int x2, .int x3] h (some (.int r1), h1, 0, 0) ∧ Run prog E pV1 120 mX8_set [.ref 110, .int x1, .int x2, .int x3] h1 (some (.int r2), h2, 0, 0) ∧ (∃ o, pobj h1 110 = some o ∧ o.1 = 8) ∧ HI HT h2 ∧ JT h2 ∧ RJ h2 := by
  obtain ⟨r1, r2, h1, h2, q1, q2, q3, p1, p2, p3, p4⟩ := po_ok3 (E := E) (x1 := x1) (x2 := x2) (x3 := x3) cp_set5n rfl rfl (List.cons_ne_nil _ _) (List.cons_ne_nil _ _) (fun _ h => absurd h List.not_mem_nil) hh hj hR.1 hR.2.1 ⟨a1, i32_b x2, i32_b x3, trivial⟩ (pBd.cs b34_5.1 b34_5.2 pBd.nl) (fun e he => by cases he)
  exact ⟨r1, r2, h1, h2, q1, q2, q3, p1, p2, p3.1, p3.2, xj_fr hR.2.2 p4 (by decide +kernel)⟩
theorem lf_set5y (x1 x2 x3 : Int32) (hh : HI HT h) (hj : JT h) (hR : RJ h) (a1 : 5 ≤ x1.toInt ∧ x1.toInt ≤ 5) (b34_5 : 6 ≤ (ri h 34 5).toInt ∧ (ri h 34 5).toInt ≤ 9) : ∃ (r1 r2 : Int32) (h1 h2 : List pC), Run prog E pV1 120 mX7_set [.ref 0, .int x1, .int x2, .int x3] h (some (.int r1), h1, 0, 0) ∧ Run prog E pV1 120 mX8_set [.ref 110, .int x1, .int x2, .int x3] h1 (some (.int r2), h2, 0, 0) ∧ (∃ o, pobj h1 110 = some o ∧ o.1 = 8) ∧ HI HT h2 ∧ JT h2 ∧ RJ h2 := by
  obtain ⟨r1, r2, h1, h2, q1, q2, q3, p1, p2, p3, p4⟩ := po_ok3 (E := E) (x1 := x1) (x2 := x2) (x3 := x3) cp_set5y rfl rfl (List.cons_ne_nil _ _) (List.cons_ne_nil _ _) (fun _ h => absurd h List.not_mem_nil) hh hj hR.1 hR.2.1 ⟨a1, i32_b x2, i32_b x3, trivial⟩ (pBd.cs b34_5.1 b34_5.2 (pBd.cs (i32_b (ri h 44 1)).1 (i32_b (ri h 44 1)).2 (pBd.cs (rub_ty (a := 44) hh rfl).1 (rub_ty (a := 44) hh rfl).2 (pBd.cs (i32_b (ri h 44 3)).1 (i32_b (ri h 44 3)).2 pBd.nl)))) (fun e he => by cases he)
  exact ⟨r1, r2, h1, h2, q1, q2, q3, p1, p2, p3.1, p3.2, xj_fr hR.2.2 p4 (by decide +kernel)⟩
theorem lf_set6n (x1 x2 x3 : Int32) (hh : HI HT h) (hj : JT h) (hR : RJ h) (a1 : 6 ≤ x1.toInt ∧ x1.toInt ≤ 6) (b34_5 : 0 ≤ (ri h 34 5).toInt ∧ (ri h 34 5).toInt ≤ 6) : ∃ (r1 r2 : Int32) (h1 h2 : List pC), Run prog E pV1 120 mX7_set [.ref 0, .int x1, .int x2, .int x3] h (some (.int r1), h1, 0, 0) ∧ Run prog E pV1 120 mX8_set [.ref 110, .int x1, .int x2, .int x3] h1 (some (.int r2), h2, 0, 0) ∧ (∃ o, pobj h1 110 = some o ∧ o.1 = 8) ∧ HI HT h2 ∧ JT h2 ∧ RJ h2 := by
  obtain ⟨r1, r2, h1, h2, q1, q2, q3, p1, p2, p3, p4⟩ := po_ok3 (E := E) (x1 := x1) (x2 := x2) (x3 := x3) cp_set6n rfl rfl (List.cons_ne_nil _ _) (List.cons_ne_nil _ _) (fun _ h => absurd h List.not_mem_nil) hh hj hR.1 hR.2.1 ⟨a1, i32_b x2, i32_b x3, trivial⟩ (pBd.cs b34_5.1 b34_5.2 pBd.nl) (fun e he => by cases he)
  exact ⟨r1, r2, h1, h2, q1, q2, q3, p1, p2, p3.1, p3.2, xj_fr hR.2.2 p4 (by decide +kernel)⟩
theorem lf_set6y (x1 x2 x3 : Int32) (hh : HI HT h) (hj : JT h) (hR : RJ h) (a1 : 6 ≤ x1.toInt ∧ x1.toInt ≤ 6) (b34_5 : 7 ≤ (ri h 34 5).toInt ∧ (ri h 34 5).toInt ≤ 9) : ∃ (r1 r2 : Int32) (h1 h2 : List pC), Run prog E pV1 120 mX7_set [.ref 0, .int x1, .int x2, .int x3] h (some (.int r1), h1, 0, 0) ∧ Run prog E pV1 120 mX8_set [.ref 110, .int x1, .int x2, .int x3] h1 (some (.int r2), h2, 0, 0) ∧ (∃ o, pobj h1 110 = some o ∧ o.1 = 8) ∧ HI HT h2 ∧ JT h2 ∧ RJ h2 := by
  obtain ⟨r1, r2, h1, h2, q1, q2, q3, p1, p2, p3, p4⟩ := po_ok3 (E := E) (x1 := x1) (x2 := x2) (x3 := x3) cp_set6y rfl rfl (List.cons_ne_nil _ _) (List.cons_ne_nil _ _) (fun _ h => absurd h List.not_mem_nil) hh hj hR.1 hR.2.1 ⟨a1, i32_b x2, i32_b x3, trivial⟩ (pBd.cs b34_5.1 b34_5.2 (pBd.cs (i32_b (ri h 45 1)).1 (i32_b (ri h 45 1)).2 (pBd.cs (rub_ty (a := 45) hh rfl).1 (rub_ty (a := 45) hh rfl).2 (pBd.cs (i32_b (ri h 45 3)).1 (i32_b (ri h 45 3)).2 pBd.nl)))) (fun e he => by cases he)
  exact ⟨r1, r2, h1, h2, q1, q2, q3, p1, p2, p3.1, p3.2, xj_fr hR.2.2 p4 (by decide +kernel)⟩
theorem lf_set7n (x1 x2 x3 : Int32) (hh : HI HT h) (hj : JT h) (hR : RJ h) (a1 : 7 ≤ x1.toInt ∧ x1.toInt ≤ 7) (b34_5 : 0 ≤ (ri h 34 5).toInt ∧ (ri h 34 5).toInt ≤ 7) : ∃ (r1 r2 : Int32) (h1 h2 : List pC), Run prog E pV1 120 mX7_set [.ref 0, .int x1, .int x2, .int x3] h (some (.int r1), h1, 0, 0) ∧ Run prog E pV1 120 mX8_set [.ref 110, .int x1, .int x2, .int x3] h1 (some (.int r2), h2, 0, 0) ∧ (∃ o, pobj h1 110 = some o ∧ o.1 = 8) ∧ HI HT h2 ∧ JT h2 ∧ RJ h2 := by
  obtain ⟨r1, r2, h1, h2, q1, q2, q3, p1, p2, p3, p4⟩ := po_ok3 (E := E) (x1 := x1) (x2 := x2) (x3 := x3) cp_set7n rfl rfl (List.cons_ne_nil _ _) (List.cons_ne_nil _ _) (fun _ h => absurd h List.not_mem_nil) hh hj hR.1 hR.2.1 ⟨a1, i32_b x2, i32_b x3, trivial⟩ (pBd.cs b34_5.1 b34_5.2 pBd.nl) (fun e he => by cases he)
  exact ⟨r1, r2, h1, h2, q1, q2, q3, p1, p2, p3.1, p3.2, xj_fr hR.2.2 p4 (by decide +kernel)⟩
theorem lf_set7y (x1 x2 x3 : Int32) (hh : HI HT h) (hj : JT h) (hR : RJ h) (a1 : 7 ≤ x1.toInt ∧ x1.toInt ≤ 7) (b34_5 : 8 ≤ (ri h 34 5).toInt ∧ (ri h 34 5).toInt ≤ 9) : ∃ (r1 r2 : Int32) (h1 h2 : List pC), Run prog E pV1 120 mX7_set [.ref 0, .int x1, .int x2, .int x3] h (some (.int r1), h1, 0, 0) ∧ Run prog E pV1 120 mX8_set [.ref 110, .int x1, .int x2, .int x3] h1 (some (.int r2), h2, 0, 0) ∧ (∃ o, pobj h1 110 = some o ∧ o.1 = 8) ∧ HI HT h2 ∧ JT h2 ∧ RJ h2 := by
  obtain ⟨r1, r2, h1, h2, q1, q2, q3, p1, p2, p3, p4⟩ := po_ok3 (E := E) (x1 := x1) (x2 := x2) (x3 := x3) cp_set7y rfl rfl (List.cons_ne_nil _ _) (List.cons_ne_nil _ _) (fun _ h => absurd h List.not_mem_nil) hh hj hR.1 hR.2.1 ⟨a1, i32_b x2, i32_b x3, trivial⟩ (pBd.cs b34_5.1 b34_5.2 (pBd.cs (i32_b (ri h 46 1)).1 (i32_b (ri h 46 1)).2 (pBd.cs (rub_ty (a := 46) hh rfl).1 (rub_ty (a := 46) hh rfl).2 (pBd.cs (i32_b (ri h 46 3)).1 (i32_b (ri h 46 3)).2 pBd.nl)))) (fun e he => by cases he)
  exact ⟨r1, r2, h1, h2, q1, q2, q3, p1, p2, p3.1, p3.2, xj_fr hR.2.2 p4 (by decide +kernel)⟩
theorem lf_set8n (x1 x2 x3 : Int32) (hh : HI HT h) (hj : JT h) (hR : RJ h) (a1 : 8 ≤ x1.toInt ∧ x1.toInt ≤ 8) (b34_5 : 0 ≤ (ri h 34 5).toInt ∧ (ri h 34 5).toInt ≤ 8) : ∃ (r1 r2 : Int32) (h1 h2 : List pC), Run prog E pV1 120 mX7_set [.ref 0, .int x1, .int x2, .int x3] h (some (.int r1), h1, 0, 0) ∧ Run prog E pV1 120 mX8_set [.ref 110, .int x1, .int x2, .int x3] h1 (some (.int r2), h2, 0, 0) ∧ (∃ o, pobj h1 110 = some o ∧ o.1 = 8) ∧ HI HT h2 ∧ JT h2 ∧ RJ h2 := by
  obtain ⟨r1, r2, h1, h2, q1, q2, q3, p1, p2, p3, p4⟩ := po_ok3 (E := E) (x1 := x1) (x2 := x2) (x3 := x3) cp_set8n rfl rfl (List.cons_ne_nil _ _) (List.cons_ne_nil _ _) (fun _ h => absurd h List.not_mem_nil) hh hj hR.1 hR.2.1 ⟨a1, i32_b x2, i32_b x3, trivial⟩ (pBd.cs b34_5.1 b34_5.2 pBd.nl) (fun e he => by cases he)
  exact ⟨r1, r2, h1, h2, q1, q2, q3, p1, p2, p3.1, p3.2, xj_fr hR.2.2 p4 (by decide +kernel)⟩
theorem lf_set8y (x1 x2 x3 : Int32) (hh : HI HT h) (hj : JT h) (hR : RJ h) (a1 : 8 ≤ x1.toInt ∧ x1.toInt ≤ 8) (b34_5 : 9 ≤ (ri h 34 5).toInt ∧ (ri h 34 5).toInt ≤ 9) : ∃ (r1 r2 : Int32) (h1 h2 : List pC), Run prog E pV1 120 mX7_set [.ref 0, .int x1, .int x2, .int x3] h (some (.int r1), h1, 0, 0) ∧ Run prog E pV1 120 mX8_set [.ref 110, .int x1, .int x2, .int x3] h1 (some (.int r2), h2, 0, 0) ∧ (∃ o, pobj h1 110 = some o ∧ o.1 = 8) ∧ HI HT h2 ∧ JT h2 ∧ RJ h2 := by
  obtain ⟨r1, r2, h1, h2, q1, q2, q3, p1, p2, p3, p4⟩ := po_ok3 (E := E) (x1 := x1) (x2 := x2) (x3 := x3) cp_set8y rfl rfl (List.cons_ne_nil _ _) (List.cons_ne_nil _ _) (fun _ h => absurd h List.not_mem_nil) hh hj hR.1 hR.2.1 ⟨a1, i32_b x2, i32_b x3, trivial⟩ (pBd.cs b34_5.1 b34_5.2 (pBd.cs (i32_b (ri h 47 1)).1 (i32_b (ri h 47 1)).2 (pBd.cs (rub_ty (a := 47) hh rfl).1 (rub_ty (a := 47) hh rfl).2 (pBd.cs (i32_b (ri h 47 3)).1 (i32_b (ri h 47 3)).2 pBd.nl)))) (fun e he => by cases he)
  exact ⟨r1, r2, h1, h2, q1, q2, q3, p1, p2, p3.1, p3.2, xj_fr hR.2.2 p4 (by decide +kernel)⟩
theorem lf_setl (x1 x2 x3 : Int32) (hh : HI HT h) (hj : JT h) (hR : RJ h) (a1 : (-2147483648) ≤ x1.toInt ∧ x1.toInt ≤ (-1)) : ∃ (r1 r2 : Int32) (h1 h2 : List pC), Run prog E pV1 120 mX7_set [.ref 0, .int x1, .int x2, .int x3] h (some (.int r1), h1, 0, 0) ∧ Run prog E pV1 120 mX8_set [.ref 110, .int x1, .int x2, .int x3] h1 (some (.int r2), h2, 0, 0) ∧ (∃ o, pobj h1 110 = some o ∧ o.1 = 8) ∧ HI HT h2 ∧ JT h2 ∧ RJ h2 := by
  obtain ⟨r1, r2, h1, h2, q1, q2, q3, p1, p2, p3, p4⟩ := po_ok3 (E := E) (x1 := x1) (x2 := x2) (x3 := x3) cp_setl rfl rfl (List.cons_ne_nil _ _) (List.cons_ne_nil _ _) (fun _ h => absurd h List.not_mem_nil) hh hj hR.1 hR.2.1 ⟨a1, i32_b x2, i32_b x3, trivial⟩ pBd.nl (fun e he => by cases he)
  exact ⟨r1, r2, h1, h2, q1, q2, q3, p1, p2, p3.1, p3.2, xj_fr hR.2.2 p4 (by decide +kernel)⟩
theorem lf_seth (x1 x2 x3 : Int32) (hh : HI HT h) (hj : JT h) (hR : RJ h) (a1 : 9 ≤ x1.toInt ∧ x1.toInt ≤ 2147483647) : ∃ (r1 r2 : Int32) (h1 h2 : List pC), Run prog E pV1 120 mX7_set [.ref 0, .int x1, .int x2, .int x3] h (some (.int r1), h1, 0, 0) ∧ Run prog E pV1 120 mX8_set [.ref 110, .int x1, .int x2, .int x3] h1 (some (.int r2), h2, 0, 0) ∧ (∃ o, pobj h1 110 = some o ∧ o.1 = 8) ∧ HI HT h2 ∧ JT h2 ∧ RJ h2 := by
  obtain ⟨r1, r2, h1, h2, q1, q2, q3, p1, p2, p3, p4⟩ := po_ok3 (E := E) (x1 := x1) (x2 := x2) (x3 := x3) cp_seth rfl rfl (List.cons_ne_nil _ _) (List.cons_ne_nil _ _) (fun _ h => absurd h List.not_mem_nil) hh hj hR.1 hR.2.1 ⟨a1, i32_b x2, i32_b x3, trivial⟩ pBd.nl (fun e he => by cases he)
  exact ⟨r1, r2, h1, h2, q1, q2, q3, p1, p2, p3.1, p3.2, xj_fr hR.2.2 p4 (by decide +kernel)⟩
theorem lw_set (x1 x2 x3 : Int32) (hh : HI HT h) (hj : JT h) (hR : RJ h) : ∃ (r1 r2 : Int32) (h1 h2 : List pC), Run prog E pV1 120 mX7_set [.ref 0, .int x1, .int x2, .int x3] h (some (.int r1), h1, 0, 0) ∧ Run prog E pV1 120 mX8_set [.ref 110, .int x1, .int x2, .int x3] h1 (some (.int r2), h2, 0, 0) ∧ (∃ o, pobj h1 110 = some o ∧ o.1 = 8) ∧ HI HT h2 ∧ JT h2 ∧ RJ h2 := by
  have ex1 := i32_b x1
  have ex2 := i32_b x2
  have ex3 := i32_b x3
  have t34_5 := ty_34_5 hh hR
  have t39_2 := rub_ty (a := 39) hh rfl
  have t40_2 := rub_ty (a := 40) hh rfl
  have t41_2 := rub_ty (a := 41) hh rfl
  have t42_2 := rub_ty (a := 42) hh rfl
  have t43_2 := rub_ty (a := 43) hh rfl
  have t44_2 := rub_ty (a := 44) hh rfl
  have t45_2 := rub_ty (a := 45) hh rfl
  have t46_2 := rub_ty (a := 46) hh rfl
  have t47_2 := rub_ty (a := 47) hh rfl
  by_cases c1 : x1.toInt ≤ (-1)
  · exact lf_setl x1 x2 x3 hh hj hR ⟨by omega, by omega⟩
  by_cases c2 : x1.toInt ≤ 0
  · by_cases c3 : (ri h 34 5).toInt ≤ 0
    · exact lf_set0n x1 x2 x3 hh hj hR ⟨by omega, by omega⟩ ⟨by omega, by omega⟩
    exact lf_set0y x1 x2 x3 hh hj hR ⟨by omega, by omega⟩ ⟨by omega, by omega⟩
  by_cases c4 : x1.toInt ≤ 1
  · by_cases c5 : (ri h 34 5).toInt ≤ 1
    · exact lf_set1n x1 x2 x3 hh hj hR ⟨by omega, by omega⟩ ⟨by omega, by omega⟩
    exact lf_set1y x1 x2 x3 hh hj hR ⟨by omega, by omega⟩ ⟨by omega, by omega⟩
  by_cases c6 : x1.toInt ≤ 2
  · by_cases c7 : (ri h 34 5).toInt ≤ 2
    · exact lf_set2n x1 x2 x3 hh hj hR ⟨by omega, by omega⟩ ⟨by omega, by omega⟩
    exact lf_set2y x1 x2 x3 hh hj hR ⟨by omega, by omega⟩ ⟨by omega, by omega⟩
  by_cases c8 : x1.toInt ≤ 3
  · by_cases c9 : (ri h 34 5).toInt ≤ 3
    · exact lf_set3n x1 x2 x3 hh hj hR ⟨by omega, by omega⟩ ⟨by omega, by omega⟩
    exact lf_set3y x1 x2 x3 hh hj hR ⟨by omega, by omega⟩ ⟨by omega, by omega⟩
  by_cases c10 : x1.toInt ≤ 4
  · by_cases c11 : (ri h 34 5).toInt ≤ 4
    · exact lf_set4n x1 x2 x3 hh hj hR ⟨by omega, by omega⟩ ⟨by omega, by omega⟩
    exact lf_set4y x1 x2 x3 hh hj hR ⟨by omega, by omega⟩ ⟨by omega, by omega⟩
  by_cases c12 : x1.toInt ≤ 5
  · by_cases c13 : (ri h 34 5).toInt ≤ 5
    · exact lf_set5n x1 x2 x3 hh hj hR ⟨by omega, by omega⟩ ⟨by omega, by omega⟩
    exact lf_set5y x1 x2 x3 hh hj hR ⟨by omega, by omega⟩ ⟨by omega, by omega⟩
  by_cases c14 : x1.toInt ≤ 6
  · by_cases c15 : (ri h 34 5).toInt ≤ 6
    · exact lf_set6n x1 x2 x3 hh hj hR ⟨by omega, by omega⟩ ⟨by omega, by omega⟩
    exact lf_set6y x1 x2 x3 hh hj hR ⟨by omega, by omega⟩ ⟨by omega, by omega⟩
  by_cases c16 : x1.toInt ≤ 7
  · by_cases c17 : (ri h 34 5).toInt ≤ 7
    · exact lf_set7n x1 x2 x3 hh hj hR ⟨by omega, by omega⟩ ⟨by omega, by omega⟩
    exact lf_set7y x1 x2 x3 hh hj hR ⟨by omega, by omega⟩ ⟨by omega, by omega⟩
  by_cases c18 : x1.toInt ≤ 8
  · by_cases c19 : (ri h 34 5).toInt ≤ 8
    · exact lf_set8n x1 x2 x3 hh hj hR ⟨by omega, by omega⟩ ⟨by omega, by omega⟩
    exact lf_set8y x1 x2 x3 hh hj hR ⟨by omega, by omega⟩ ⟨by omega, by omega⟩
  exact lf_seth x1 x2 x3 hh hj hR ⟨by omega, by omega⟩
theorem lw_carve (x1 x2 : Int32) (hh : HI HT h) (hj : JT h) (hR : RJ h) : ∃ (r1 r2 : Int32) (h1 h2 : List pC), Run prog E pV1 120 mX7_carve [.ref 0, .int x1, .int x2] h (some (.int r1), h1, 0, 0) ∧ Run prog E pV1 120 mX8_carve [.ref 110, .int x1, .int x2] h1 (some (.int r2), h2, 0, 0) ∧ (∃ o, pobj h1 110 = some o ∧ o.1 = 8) ∧ HI HT h2 ∧ JT h2 ∧ RJ h2 := by
  obtain ⟨r1, h1, q1, hh1, f1, hj1⟩ := pub_of (E := E) (a := 0) (kg_c_carveF) (N := mX7_carve) rfl (List.cons_ne_nil _ _) [x1, x2] rfl (fun q => by cases q) (Nat.le_of_ble_eq_true rfl) hh hj
  obtain ⟨r2, h2, q2, hh2, f2, hj2⟩ := pub_of (E := E) (a := 110) (kg_r_carveF) (N := mX8_carve) rfl (List.cons_ne_nil _ _) [x1, x2] rfl (fun q => by cases q) (Nat.le_of_ble_eq_true rfl) hh1 hj1
  exact ⟨r1, r2, h1, h2, q1, q2, mobj hh1, hh2, hj2, ⟨pRel_fr (pRel_fr hR.1 f1 (by decide +kernel)) f2 (by decide +kernel), cRel_fr (cRel_fr hR.2.1 f1 (by decide +kernel)) f2 (by decide +kernel), xj_fr (xj_fr hR.2.2 f1 (by decide +kernel)) f2 (by decide +kernel)⟩⟩
theorem lw_carved (x1 : Int32) (hh : HI HT h) (hj : JT h) (hR : RJ h) : ∃ (r1 r2 : Int32) (h1 h2 : List pC), Run prog E pV1 120 mX7_carved [.ref 0, .int x1] h (some (.int r1), h1, 0, 0) ∧ Run prog E pV1 120 mX8_carved [.ref 110, .int x1] h1 (some (.int r2), h2, 0, 0) ∧ (∃ o, pobj h1 110 = some o ∧ o.1 = 8) ∧ HI HT h2 ∧ JT h2 ∧ RJ h2 := by
  obtain ⟨r1, h1, q1, hh1, f1, hj1⟩ := pub_of (E := E) (a := 0) (kg_c_carved JT_P hands) (N := mX7_carved) rfl (List.cons_ne_nil _ _) [x1] rfl (fun q => by cases q) (Nat.le_of_ble_eq_true rfl) hh hj
  obtain ⟨r2, h2, q2, hh2, f2, hj2⟩ := pub_of (E := E) (a := 110) (kg_r_carved JT_P hands) (N := mX8_carved) rfl (List.cons_ne_nil _ _) [x1] rfl (fun q => by cases q) (Nat.le_of_ble_eq_true rfl) hh1 hj1
  exact ⟨r1, r2, h1, h2, q1, q2, mobj hh1, hh2, hj2, ⟨pRel_fr (pRel_fr hR.1 f1 (by decide +kernel)) f2 (by decide +kernel), cRel_fr (cRel_fr hR.2.1 f1 (by decide +kernel)) f2 (by decide +kernel), xj_fr (xj_fr hR.2.2 f1 (by decide +kernel)) f2 (by decide +kernel)⟩⟩
theorem lw_deal (x1 : Int32) (hh : HI HT h) (hj : JT h) (hR : RJ h) : ∃ (r1 r2 : Int32) (h1 h2 : List pC), Run prog E pV1 120 mX7_deal [.ref 0, .int x1] h (some (.int r1), h1, 0, 0) ∧ Run prog E pV1 120 mX8_deal [.ref 110, .int x1] h1 (some (.int r2), h2, 0, 0) ∧ (∃ o, pobj h1 110 = some o ∧ o.1 = 8) ∧ HI HT h2 ∧ JT h2 ∧ RJ h2 := by
  have ex1 := i32_b x1
  by_cases c1 : x1.toInt ≤ 0
  · obtain ⟨r, h1, h2, q1, q2, q3, p1, p2, p3, p4⟩ := pr_ok1 (E := E) (x1 := x1) cp_deall rfl rfl (List.cons_ne_nil _ _) (List.cons_ne_nil _ _) (fun _ h => absurd h List.not_mem_nil) hh hj hR.1 hR.2.1 ⟨⟨by omega, by omega⟩, trivial⟩ pBd.nl (fun e he => by cases he)
    exact ⟨r, r, h1, h2, q1, q2, q3, p1, p2, p3.1, p3.2, xj_fr hR.2.2 p4 (by decide +kernel)⟩
  by_cases c2 : 10 ≤ x1.toInt
  · obtain ⟨r, h1, h2, q1, q2, q3, p1, p2, p3, p4⟩ := pr_ok1 (E := E) (x1 := x1) cp_dealh rfl rfl (List.cons_ne_nil _ _) (List.cons_ne_nil _ _) (fun _ h => absurd h List.not_mem_nil) hh hj hR.1 hR.2.1 ⟨⟨by omega, by omega⟩, trivial⟩ pBd.nl (fun e he => by cases he)
    exact ⟨r, r, h1, h2, q1, q2, q3, p1, p2, p3.1, p3.2, xj_fr hR.2.2 p4 (by decide +kernel)⟩
  have t5 := ty_34_5 hh hR
  have m5 : ri h 34 5 = ri h 111 0 := (sub_rel (R' := [((8, 34, 5), (0, 111, 0), 0, 9)]) hR.1 (by decide) _ List.mem_cons_self)
  obtain ⟨m, em⟩ : ∃ m : Nat, (ri h 34 5).toInt = (m : Int) := ⟨_, (Int.toNat_of_nonneg t5.1).symm⟩
  obtain ⟨j, v1, h1, q1, b1, b2, hh1, hj1, f1, d1, d2, d3⟩ := deal_c (E := E) x1 ⟨by omega, by omega⟩ hh hj (m := m) (by omega) (by omega)
  have g0 : ri h1 111 0 = ri h 111 0 := ri_fr f1 (by decide)
  obtain ⟨j', v2, h2, q2, b3, b4, hh2, hj2, f2, k1, k2, k3⟩ := deal_r (E := E) x1 ⟨by omega, by omega⟩ hh1 hj1 (m := m) (by omega) (by rw [g0, ← m5]; omega)
  obtain rfl : j' = j := by omega
  obtain rfl : v2 = v1 := Int32.toInt_inj.mp (by omega)
  refine ⟨_, _, h1, h2, q1, q2, mobj hh1, hh2, hj2, fun q hq => ?_, cl_i (fun k f hk hf b => ?_) (fun k f hk hf b => ?_) (fun b1 b2 => ?_), xj_fr (xj_fr hR.2.2 f1 (by decide +kernel)) f2 (by decide +kernel)⟩
  · rcases List.mem_append.mp hq with hq | hq
    · rcases List.mem_cons.mp hq with rfl | hq
      · show ri h2 34 5 = ri h2 111 0
        exact Int32.toInt_inj.mp (by rw [ri_fr (a := 34) (i := 5) f2 (by decide), d1, k1])
      rcases List.mem_cons.mp hq with rfl | hq
      · exact pRel_fr (pRel_fr (R := [((8, 48, 5), (0, 112, 0), 0, 9)]) (sub_rel hR.1 (by decide)) f1 (by decide +kernel)) f2 (by decide +kernel) _ List.mem_cons_self
      rcases List.mem_cons.mp hq with rfl | hq
      · exact pRel_fr (pRel_fr (R := [((9, 0, 9), (10, 110, 3), 0, 1)]) (sub_rel hR.1 (by decide)) f1 (by decide +kernel)) f2 (by decide +kernel) _ List.mem_cons_self
      rcases List.mem_cons.mp hq with rfl | hq
      · show ri h2 34 9 = ri h2 111 4
        rw [ri_fr (a := 34) (i := 9) f2 (by decide), d2, k2, ri_fr (a := 111) (i := 4) f1 (by decide)]
        exact congrArg (dzN (3 * _)) (sub_rel (R' := [((8, 34, 9), (0, 111, 4), (-2147483648), 2147483647)]) hR.1 (by decide) _ List.mem_cons_self)
      rcases List.mem_cons.mp hq with rfl | hq
      · exact pRel_fr (pRel_fr (R := [((8, 34, 7), (0, 111, 2), (-2147483648), 2147483647)]) (sub_rel hR.1 (by decide)) f1 (by decide +kernel)) f2 (by decide +kernel) _ List.mem_cons_self
      rcases List.mem_cons.mp hq with rfl | hq
      · exact pRel_fr (pRel_fr (R := [((8, 48, 7), (0, 112, 2), (-2147483648), 2147483647)]) (sub_rel hR.1 (by decide)) f1 (by decide +kernel)) f2 (by decide +kernel) _ List.mem_cons_self
      rcases List.mem_cons.mp hq with rfl | hq
      · exact pRel_fr (pRel_fr (R := [((5, 82, 1), (0, 114, 0), (-1), 1)]) (sub_rel hR.1 (by decide)) f1 (by decide +kernel)) f2 (by decide +kernel) _ List.mem_cons_self
      rcases List.mem_cons.mp hq with rfl | hq
      · exact pRel_fr (pRel_fr (R := [((5, 84, 1), (0, 114, 1), (-1), 1)]) (sub_rel hR.1 (by decide)) f1 (by decide +kernel)) f2 (by decide +kernel) _ List.mem_cons_self
      rcases List.mem_cons.mp hq with rfl | hq
      · exact pRel_fr (pRel_fr (R := [((5, 86, 1), (0, 114, 2), (-1), 1)]) (sub_rel hR.1 (by decide)) f1 (by decide +kernel)) f2 (by decide +kernel) _ List.mem_cons_self
      rcases List.mem_cons.mp hq with rfl | hq
      · exact pRel_fr (pRel_fr (R := [((5, 88, 1), (0, 114, 3), (-1), 1)]) (sub_rel hR.1 (by decide)) f1 (by decide +kernel)) f2 (by decide +kernel) _ List.mem_cons_self
      rcases List.mem_cons.mp hq with rfl | hq
      · exact pRel_fr (pRel_fr (R := [((5, 82, 2), (0, 115, 0), 0, 24)]) (sub_rel hR.1 (by decide)) f1 (by decide +kernel)) f2 (by decide +kernel) _ List.mem_cons_self
      rcases List.mem_cons.mp hq with rfl | hq
      · exact pRel_fr (pRel_fr (R := [((5, 84, 2), (0, 115, 1), 0, 24)]) (sub_rel hR.1 (by decide)) f1 (by decide +kernel)) f2 (by decide +kernel) _ List.mem_cons_self
      rcases List.mem_cons.mp hq with rfl | hq
      · exact pRel_fr (pRel_fr (R := [((5, 86, 2), (0, 115, 2), 0, 24)]) (sub_rel hR.1 (by decide)) f1 (by decide +kernel)) f2 (by decide +kernel) _ List.mem_cons_self
      obtain rfl := List.mem_singleton.mp hq
      exact pRel_fr (pRel_fr (R := [((5, 88, 2), (0, 115, 3), 0, 24)]) (sub_rel hR.1 (by decide)) f1 (by decide +kernel)) f2 (by decide +kernel) _ List.mem_cons_self
    · exact pRel_fr (pRel_fr (R := VLs) (rl_v hR.1) f1 (by decide +kernel)) f2 (by decide +kernel) q hq
  · have rr := cl_1 hR.2.1 (ty_34_5 hh hR).2
    have n5 : (ri h2 34 5).toInt = ((m + j' : Nat) : Int) := by rw [ri_fr (a := 34) (i := 5) f2 (by decide), d1]
    rw [n5] at b
    have g1 : ri h2 (39 + k) f = ri h1 (39 + k) f := ri_fr f2 (nin_iff.mpr (by simp only [Wdr, List.forall_mem_cons]; exact ⟨by omega, by omega, by omega, fun _ h => absurd h List.not_mem_nil⟩))
    have g2 : ri h1 111 (21 + 6 * k + f) = ri h 111 (21 + 6 * k + f) := ri_fr f1 (nin_iff.mpr (by simp only [Wdc, List.forall_mem_cons]; exact ⟨by omega, by omega, by omega, fun _ h => absurd h List.not_mem_nil⟩))
    have g4 : ri h1 111 4 = ri h 111 4 := ri_fr f1 (by decide)
    have z4 : ri h 34 9 = ri h 111 4 := (sub_rel (R' := [((8, 34, 9), (0, 111, 4), (-2147483648), 2147483647)]) hR.1 (by decide) _ List.mem_cons_self)
    show ri h2 (39 + k) f = ri h2 111 (21 + 6 * k + f)
    rw [g1]
    by_cases hm : k < m
    · have e1 : ri h1 (39 + k) f = ri h (39 + k) f := (d3 k f hk (by omega)).2 (Or.inl hm)
      have e2 : ri h2 111 (21 + 6 * k + f) = ri h1 111 (21 + 6 * k + f) := (k3 k f hk (by omega)).2 (Or.inl hm)
      rw [e1, e2, g2]
      exact rr k f hk hf (by omega)
    · have e1 : (ri h1 (39 + k) f).toInt = rubT (dzN (3 * (k - m)) (ri h 34 9)) f := (d3 k f hk (by omega)).1 (by omega) (by omega)
      have e2 : (ri h2 111 (21 + 6 * k + f)).toInt = rubT (dzN (3 * (k - m)) (ri h1 111 4)) f := (k3 k f hk (by omega)).1 (by omega) (by omega)
      exact Int32.toInt_inj.mp (by rw [e1, e2, g4, z4])
  · have rr := cl_2 hR.2.1 (ty_48_5 hh hR).2
    have g : ∀ a i, 48 ≤ a → a ≤ 61 ∨ a = 112 → ri h2 a i = ri h a i := fun a i ha1 ha2 => by
      rw [ri_fr (a := a) (i := i) f2 (nin_iff.mpr (by simp only [Wdr, List.forall_mem_cons]; exact ⟨by omega, by omega, by omega, fun _ h => absurd h List.not_mem_nil⟩)), ri_fr (a := a) (i := i) f1 (nin_iff.mpr (by simp only [Wdc, List.forall_mem_cons]; exact ⟨by omega, by omega, by omega, fun _ h => absurd h List.not_mem_nil⟩))]
    rw [g _ _ (by omega) (Or.inl (by omega))] at b
    rw [g _ _ (by omega) (Or.inl (by omega)), g _ _ (by omega) (Or.inr rfl)]
    exact rr k f hk hf b
  · rw [ri_fr (a := 0) (i := 9) f2 (by decide), ri_fr (a := 0) (i := 9) f1 (by decide)] at b1 b2
    rw [ri_fr (a := 48) (i := 9) f2 (by decide), ri_fr (a := 48) (i := 9) f1 (by decide), ri_fr (a := 112) (i := 4) f2 (by decide), ri_fr (a := 112) (i := 4) f1 (by decide)]
    exact cl_3 hR.2.1 b1 b2
theorem lf_seed (x1 : Int32) (hh : HI HT h) (hj : JT h) (hR : RJ h) : ∃ (r1 r2 : Int32) (h1 h2 : List pC), Run prog E pV1 120 mX7_seed [.ref 0, .int x1] h (some (.int r1), h1, 0, 0) ∧ Run prog E pV1 120 mX8_seed [.ref 110, .int x1] h1 (some (.int r2), h2, 0, 0) ∧ (∃ o, pobj h1 110 = some o ∧ o.1 = 8) ∧ HI HT h2 ∧ JT h2 ∧ RJ h2 := by
  obtain ⟨r, h1, h2, q1, q2, q3, p1, p2, p3, p4⟩ := pr_ok1 (E := E) (x1 := x1) cp_seed rfl rfl (List.cons_ne_nil _ _) (List.cons_ne_nil _ _) (fun _ h => absurd h List.not_mem_nil) hh hj hR.1 hR.2.1 ⟨i32_b x1, trivial⟩ (pBd.cs (i32_b (ri h 34 9)).1 (i32_b (ri h 34 9)).2 pBd.nl) (fun e he => by cases he)
  exact ⟨r, r, h1, h2, q1, q2, q3, p1, p2, p3.1, p3.2, xj_fr hR.2.2 p4 (by decide +kernel)⟩
theorem lw_seed (x1 : Int32) (hh : HI HT h) (hj : JT h) (hR : RJ h) : ∃ (r1 r2 : Int32) (h1 h2 : List pC), Run prog E pV1 120 mX7_seed [.ref 0, .int x1] h (some (.int r1), h1, 0, 0) ∧ Run prog E pV1 120 mX8_seed [.ref 110, .int x1] h1 (some (.int r2), h2, 0, 0) ∧ (∃ o, pobj h1 110 = some o ∧ o.1 = 8) ∧ HI HT h2 ∧ JT h2 ∧ RJ h2 := by
  have ex1 := i32_b x1
  exact lf_seed x1 hh hj hR
theorem lw_falseAt (x1 x2 : Int32) (hh : HI HT h) (hj : JT h) (hR : RJ h) : ∃ (r1 r2 : Int32) (h1 h2 : List pC), Run prog E pV1 120 mX7_falseAt [.ref 0, .int x1, .int x2] h (some (.int r1), h1, 0, 0) ∧ Run prog E pV1 120 mX8_falseAt [.ref 110, .int x1, .int x2] h1 (some (.int r2), h2, 0, 0) ∧ (∃ o, pobj h1 110 = some o ∧ o.1 = 8) ∧ HI HT h2 ∧ JT h2 ∧ RJ h2 := by
  obtain ⟨r1, h1, q1, hh1, f1, hj1⟩ := pub_of (E := E) (a := 0) (kg_c_falseAt JT_P hands) (N := mX7_falseAt) rfl (List.cons_ne_nil _ _) [x1, x2] rfl (fun q => by cases q) (Nat.le_of_ble_eq_true rfl) hh hj
  obtain ⟨r2, h2, q2, hh2, f2, hj2⟩ := pub_of (E := E) (a := 110) (kg_r_falseAt JT_P hands) (N := mX8_falseAt) rfl (List.cons_ne_nil _ _) [x1, x2] rfl (fun q => by cases q) (Nat.le_of_ble_eq_true rfl) hh1 hj1
  exact ⟨r1, r2, h1, h2, q1, q2, mobj hh1, hh2, hj2, ⟨pRel_fr (pRel_fr hR.1 f1 (by decide +kernel)) f2 (by decide +kernel), cRel_fr (cRel_fr hR.2.1 f1 (by decide +kernel)) f2 (by decide +kernel), xj_fr (xj_fr hR.2.2 f1 (by decide +kernel)) f2 (by decide +kernel)⟩⟩
theorem lw_fits (x1 x2 : Int32) (hh : HI HT h) (hj : JT h) (hR : RJ h) : ∃ (r1 r2 : Int32) (h1 h2 : List pC), Run prog E pV1 120 mX7_fits [.ref 0, .int x1, .int x2] h (some (.int r1), h1, 0, 0) ∧ Run prog E pV1 120 mX8_fits [.ref 110, .int x1, .int x2] h1 (some (.int r2), h2, 0, 0) ∧ (∃ o, pobj h1 110 = some o ∧ o.1 = 8) ∧ HI HT h2 ∧ JT h2 ∧ RJ h2 := by
  obtain ⟨r1, h1, q1, hh1, f1, hj1⟩ := pub_of (E := E) (a := 0) (kg_c_fits JT_P hands) (N := mX7_fits) rfl (List.cons_ne_nil _ _) [x1, x2] rfl (fun q => by cases q) (Nat.le_of_ble_eq_true rfl) hh hj
  obtain ⟨r2, h2, q2, hh2, f2, hj2⟩ := pub_of (E := E) (a := 110) (kg_r_fits JT_P hands) (N := mX8_fits) rfl (List.cons_ne_nil _ _) [x1, x2] rfl (fun q => by cases q) (Nat.le_of_ble_eq_true rfl) hh1 hj1
  exact ⟨r1, r2, h1, h2, q1, q2, mobj hh1, hh2, hj2, ⟨pRel_fr (pRel_fr hR.1 f1 (by decide +kernel)) f2 (by decide +kernel), cRel_fr (cRel_fr hR.2.1 f1 (by decide +kernel)) f2 (by decide +kernel), xj_fr (xj_fr hR.2.2 f1 (by decide +kernel)) f2 (by decide +kernel)⟩⟩
theorem lw_join (x1 x2 x3 : Int32) (hh : HI HT h) (hj : JT h) (hR : RJ h) : ∃ (r1 r2 : Int32) (h1 h2 : List pC), Run prog E pV1 120 mX7_join [.ref 0, .int x1, .int x2, .int x3] h (some (.int r1), h1, 0, 0) ∧ Run prog E pV1 120 mX8_join [.ref 110, .int x1, .int x2, .int x3] h1 (some (.int r2), h2, 0, 0) ∧ (∃ o, pobj h1 110 = some o ∧ o.1 = 8) ∧ HI HT h2 ∧ JT h2 ∧ RJ h2 := by
  obtain ⟨r1, h1, q1, hh1, f1, hj1⟩ := pub_of (E := E) (a := 0) (kg_c_join JT_P hands) (N := mX7_join) rfl (List.cons_ne_nil _ _) [x1, x2, x3] rfl (fun q => by cases q) (Nat.le_of_ble_eq_true rfl) hh hj
  obtain ⟨r2, h2, q2, hh2, f2, hj2⟩ := pub_of (E := E) (a := 110) (kg_r_join JT_P hands) (N := mX8_join) rfl (List.cons_ne_nil _ _) [x1, x2, x3] rfl (fun q => by cases q) (Nat.le_of_ble_eq_true rfl) hh1 hj1
  exact ⟨r1, r2, h1, h2, q1, q2, mobj hh1, hh2, hj2, ⟨pRel_fr (pRel_fr hR.1 f1 (by decide +kernel)) f2 (by decide +kernel), cRel_fr (cRel_fr hR.2.1 f1 (by decide +kernel)) f2 (by decide +kernel), xj_fr (xj_fr hR.2.2 f1 (by decide +kernel)) f2 (by decide +kernel)⟩⟩
theorem lw_clash (x1 x2 : Int32) (hh : HI HT h) (hj : JT h) (hR : RJ h) : ∃ (r1 r2 : Int32) (h1 h2 : List pC), Run prog E pV1 120 mX7_clash [.ref 0, .int x1, .int x2] h (some (.int r1), h1, 0, 0) ∧ Run prog E pV1 120 mX8_clash [.ref 110, .int x1, .int x2] h1 (some (.int r2), h2, 0, 0) ∧ (∃ o, pobj h1 110 = some o ∧ o.1 = 8) ∧ HI HT h2 ∧ JT h2 ∧ RJ h2 := by
  obtain ⟨r1, h1, q1, hh1, f1, hj1⟩ := pub_of (E := E) (a := 0) (kg_c_clash JT_P hands) (N := mX7_clash) rfl (List.cons_ne_nil _ _) [x1, x2] rfl (fun q => by cases q) (Nat.le_of_ble_eq_true rfl) hh hj
  obtain ⟨r2, h2, q2, hh2, f2, hj2⟩ := pub_of (E := E) (a := 110) (kg_r_clash JT_P hands) (N := mX8_clash) rfl (List.cons_ne_nil _ _) [x1, x2] rfl (fun q => by cases q) (Nat.le_of_ble_eq_true rfl) hh1 hj1
  exact ⟨r1, r2, h1, h2, q1, q2, mobj hh1, hh2, hj2, ⟨pRel_fr (pRel_fr hR.1 f1 (by decide +kernel)) f2 (by decide +kernel), cRel_fr (cRel_fr hR.2.1 f1 (by decide +kernel)) f2 (by decide +kernel), xj_fr (xj_fr hR.2.2 f1 (by decide +kernel)) f2 (by decide +kernel)⟩⟩
theorem lw_undone (hh : HI HT h) (hj : JT h) (hR : RJ h) : ∃ (r1 r2 : Int32) (h1 h2 : List pC), Run prog E pV1 120 mX7_undone [.ref 0] h (some (.int r1), h1, 0, 0) ∧ Run prog E pV1 120 mX8_undone [.ref 110] h1 (some (.int r2), h2, 0, 0) ∧ (∃ o, pobj h1 110 = some o ∧ o.1 = 8) ∧ HI HT h2 ∧ JT h2 ∧ RJ h2 := by
  obtain ⟨r1, h1, q1, hh1, f1, hj1⟩ := pub_of (E := E) (a := 0) (kg_c_undone JT_P hands) (N := mX7_undone) rfl (List.cons_ne_nil _ _) [] rfl (fun q => by cases q) (Nat.le_of_ble_eq_true rfl) hh hj
  obtain ⟨r2, h2, q2, hh2, f2, hj2⟩ := pub_of (E := E) (a := 110) (kg_r_undone JT_P hands) (N := mX8_undone) rfl (List.cons_ne_nil _ _) [] rfl (fun q => by cases q) (Nat.le_of_ble_eq_true rfl) hh1 hj1
  exact ⟨r1, r2, h1, h2, q1, q2, mobj hh1, hh2, hj2, ⟨pRel_fr (pRel_fr hR.1 f1 (by decide +kernel)) f2 (by decide +kernel), cRel_fr (cRel_fr hR.2.1 f1 (by decide +kernel)) f2 (by decide +kernel), xj_fr (xj_fr hR.2.2 f1 (by decide +kernel)) f2 (by decide +kernel)⟩⟩
theorem lw_borne (hh : HI HT h) (hj : JT h) (hR : RJ h) : ∃ (r1 r2 : Int32) (h1 h2 : List pC), Run prog E pV1 120 mX7_borne [.ref 0] h (some (.int r1), h1, 0, 0) ∧ Run prog E pV1 120 mX8_borne [.ref 110] h1 (some (.int r2), h2, 0, 0) ∧ (∃ o, pobj h1 110 = some o ∧ o.1 = 8) ∧ HI HT h2 ∧ JT h2 ∧ RJ h2 := by
  obtain ⟨r1, h1, q1, hh1, f1, hj1⟩ := pub_of (E := E) (a := 0) (kg_c_borne JT_P hands) (N := mX7_borne) rfl (List.cons_ne_nil _ _) [] rfl (fun q => by cases q) (Nat.le_of_ble_eq_true rfl) hh hj
  obtain ⟨r2, h2, q2, hh2, f2, hj2⟩ := pub_of (E := E) (a := 110) (kg_r_borne JT_P hands) (N := mX8_borne) rfl (List.cons_ne_nil _ _) [] rfl (fun q => by cases q) (Nat.le_of_ble_eq_true rfl) hh1 hj1
  exact ⟨r1, r2, h1, h2, q1, q2, mobj hh1, hh2, hj2, ⟨pRel_fr (pRel_fr hR.1 f1 (by decide +kernel)) f2 (by decide +kernel), cRel_fr (cRel_fr hR.2.1 f1 (by decide +kernel)) f2 (by decide +kernel), xj_fr (xj_fr hR.2.2 f1 (by decide +kernel)) f2 (by decide +kernel)⟩⟩
theorem lw_look (x1 : Int32) (hh : HI HT h) (hj : JT h) (hR : RJ h) : ∃ (r1 r2 : Int32) (h1 h2 : List pC), Run prog E pV1 120 mX7_look [.ref 0, .int x1] h (some (.int r1), h1, 0, 0) ∧ Run prog E pV1 120 mX8_look [.ref 110, .int x1] h1 (some (.int r2), h2, 0, 0) ∧ (∃ o, pobj h1 110 = some o ∧ o.1 = 8) ∧ HI HT h2 ∧ JT h2 ∧ RJ h2 := by
  obtain ⟨r1, h1, q1, hh1, f1, hj1⟩ := pub_of (E := E) (a := 0) (kg_c_look JT_P hands) (N := mX7_look) rfl (List.cons_ne_nil _ _) [x1] rfl (fun q => by cases q) (Nat.le_of_ble_eq_true rfl) hh hj
  obtain ⟨r2, h2, q2, hh2, f2, hj2⟩ := pub_of (E := E) (a := 110) (kg_r_look JT_P hands) (N := mX8_look) rfl (List.cons_ne_nil _ _) [x1] rfl (fun q => by cases q) (Nat.le_of_ble_eq_true rfl) hh1 hj1
  exact ⟨r1, r2, h1, h2, q1, q2, mobj hh1, hh2, hj2, ⟨pRel_fr (pRel_fr hR.1 f1 (by decide +kernel)) f2 (by decide +kernel), cRel_fr (cRel_fr hR.2.1 f1 (by decide +kernel)) f2 (by decide +kernel), xj_fr (xj_fr hR.2.2 f1 (by decide +kernel)) f2 (by decide +kernel)⟩⟩
theorem lw_tides (x1 : Int32) (hh : HI HT h) (hj : JT h) (hR : RJ h) : ∃ (r1 r2 : Int32) (h1 h2 : List pC), Run prog E pV1 120 mX7_tides [.ref 0, .int x1] h (some (.int r1), h1, 0, 0) ∧ Run prog E pV1 120 mX8_tides [.ref 110, .int x1] h1 (some (.int r2), h2, 0, 0) ∧ (∃ o, pobj h1 110 = some o ∧ o.1 = 8) ∧ HI HT h2 ∧ JT h2 ∧ RJ h2 := by
  have ex1 := i32_b x1
  by_cases c1 : x1.toInt ≤ 0
  · obtain ⟨r, h1, h2, q1, q2, q3, p1, p2, p3, p4⟩ := pr_ok1 (E := E) (x1 := x1) cp_tidesl rfl rfl (List.cons_ne_nil _ _) (List.cons_ne_nil _ _) (fun _ h => absurd h List.not_mem_nil) hh hj hR.1 hR.2.1 ⟨⟨by omega, by omega⟩, trivial⟩ pBd.nl (fun e he => by cases he)
    exact ⟨r, r, h1, h2, q1, q2, q3, p1, p2, p3.1, p3.2, xj_fr hR.2.2 p4 (by decide +kernel)⟩
  by_cases c2 : 101 ≤ x1.toInt
  · obtain ⟨r, h1, h2, q1, q2, q3, p1, p2, p3, p4⟩ := pr_ok1 (E := E) (x1 := x1) cp_tidesh rfl rfl (List.cons_ne_nil _ _) (List.cons_ne_nil _ _) (fun _ h => absurd h List.not_mem_nil) hh hj hR.1 hR.2.1 ⟨⟨by omega, by omega⟩, trivial⟩ pBd.nl (fun e he => by cases he)
    exact ⟨r, r, h1, h2, q1, q2, q3, p1, p2, p3.1, p3.2, xj_fr hR.2.2 p4 (by decide +kernel)⟩
  obtain ⟨⟨b0, b1⟩, b2⟩ := hR.2.2.1
  have m2 : ri h 34 7 = ri h 111 2 := (sub_rel (R' := [((8, 34, 7), (0, 111, 2), (-2147483648), 2147483647)]) hR.1 (by decide) _ List.mem_cons_self)
  obtain ⟨v1, h1, q1, hh1, hj1, f1, j1, e1, e2, e3⟩ := tides_c (E := E) x1 ⟨by omega, by omega⟩ hh hj b0 b1
  have g2 : ri h1 111 2 = ri h 111 2 := ri_fr f1 (by decide)
  obtain ⟨v2, h2, q2, hh2, hj2, f2, j2, e4, e5, e6⟩ := tides_r (E := E) x1 ⟨by omega, by omega⟩ hh1 hj1 (by rw [g2, ← m2]; exact b0) (by rw [g2, ← m2]; exact b1)
  have ej : j1 = j2 := by
    rw [g2, ← m2] at e4
    omega
  refine ⟨v1, v2, h1, h2, q1, q2, mobj hh1, hh2, hj2, fun q hq => ?_, cRel_fr (cRel_fr hR.2.1 f1 (by decide +kernel)) f2 (by decide +kernel), ?_⟩
  rcases List.mem_append.mp hq with hq | hq
  · rcases List.mem_cons.mp hq with rfl | hq
    · exact pRel_fr (pRel_fr (R := [((8, 34, 5), (0, 111, 0), 0, 9)]) (sub_rel hR.1 (by decide)) f1 (by decide +kernel)) f2 (by decide +kernel) _ List.mem_cons_self
    rcases List.mem_cons.mp hq with rfl | hq
    · exact pRel_fr (pRel_fr (R := [((8, 48, 5), (0, 112, 0), 0, 9)]) (sub_rel hR.1 (by decide)) f1 (by decide +kernel)) f2 (by decide +kernel) _ List.mem_cons_self
    rcases List.mem_cons.mp hq with rfl | hq
    · exact pRel_fr (pRel_fr (R := [((9, 0, 9), (10, 110, 3), 0, 1)]) (sub_rel hR.1 (by decide)) f1 (by decide +kernel)) f2 (by decide +kernel) _ List.mem_cons_self
    rcases List.mem_cons.mp hq with rfl | hq
    · show ri h2 34 9 = ri h2 111 4
      rw [ri_fr (a := 34) (i := 9) f2 (by decide), e2, e5, ri_fr (a := 111) (i := 4) f1 (by decide), ej]
      exact congrArg (dzN j2) (sub_rel (R' := [((8, 34, 9), (0, 111, 4), (-2147483648), 2147483647)]) hR.1 (by decide) _ List.mem_cons_self)
    rcases List.mem_cons.mp hq with rfl | hq
    · show ri h2 34 7 = ri h2 111 2
      exact Int32.toInt_inj.mp (by rw [ri_fr (a := 34) (i := 7) f2 (by decide), e3, e6, g2, ← m2, ej])
    rcases List.mem_cons.mp hq with rfl | hq
    · exact pRel_fr (pRel_fr (R := [((8, 48, 7), (0, 112, 2), (-2147483648), 2147483647)]) (sub_rel hR.1 (by decide)) f1 (by decide +kernel)) f2 (by decide +kernel) _ List.mem_cons_self
    rcases List.mem_cons.mp hq with rfl | hq
    · exact pRel_fr (pRel_fr (R := [((5, 82, 1), (0, 114, 0), (-1), 1)]) (sub_rel hR.1 (by decide)) f1 (by decide +kernel)) f2 (by decide +kernel) _ List.mem_cons_self
    rcases List.mem_cons.mp hq with rfl | hq
    · exact pRel_fr (pRel_fr (R := [((5, 84, 1), (0, 114, 1), (-1), 1)]) (sub_rel hR.1 (by decide)) f1 (by decide +kernel)) f2 (by decide +kernel) _ List.mem_cons_self
    rcases List.mem_cons.mp hq with rfl | hq
    · exact pRel_fr (pRel_fr (R := [((5, 86, 1), (0, 114, 2), (-1), 1)]) (sub_rel hR.1 (by decide)) f1 (by decide +kernel)) f2 (by decide +kernel) _ List.mem_cons_self
    rcases List.mem_cons.mp hq with rfl | hq
    · exact pRel_fr (pRel_fr (R := [((5, 88, 1), (0, 114, 3), (-1), 1)]) (sub_rel hR.1 (by decide)) f1 (by decide +kernel)) f2 (by decide +kernel) _ List.mem_cons_self
    rcases List.mem_cons.mp hq with rfl | hq
    · exact pRel_fr (pRel_fr (R := [((5, 82, 2), (0, 115, 0), 0, 24)]) (sub_rel hR.1 (by decide)) f1 (by decide +kernel)) f2 (by decide +kernel) _ List.mem_cons_self
    rcases List.mem_cons.mp hq with rfl | hq
    · exact pRel_fr (pRel_fr (R := [((5, 84, 2), (0, 115, 1), 0, 24)]) (sub_rel hR.1 (by decide)) f1 (by decide +kernel)) f2 (by decide +kernel) _ List.mem_cons_self
    rcases List.mem_cons.mp hq with rfl | hq
    · exact pRel_fr (pRel_fr (R := [((5, 86, 2), (0, 115, 2), 0, 24)]) (sub_rel hR.1 (by decide)) f1 (by decide +kernel)) f2 (by decide +kernel) _ List.mem_cons_self
    obtain rfl := List.mem_singleton.mp hq
    exact pRel_fr (pRel_fr (R := [((5, 88, 2), (0, 115, 3), 0, 24)]) (sub_rel hR.1 (by decide)) f1 (by decide +kernel)) f2 (by decide +kernel) _ List.mem_cons_self
  · exact pRel_fr (pRel_fr (R := VLs) (rl_v hR.1) f1 (by decide +kernel)) f2 (by decide +kernel) q hq
  · refine ⟨⟨?_, ?_⟩, vb_fr (vb_fr hR.2.2.2 f1 (by decide +kernel)) f2 (by decide +kernel)⟩
    · unfold tdB
      rw [ri_fr (a := 34) (i := 7) f2 (by decide), e3]
      omega
    · unfold tdB
      rw [ri_fr (a := 48) (i := 7) f2 (by decide), ri_fr (a := 48) (i := 7) f1 (by decide)]
      exact b2
theorem lw_book (x1 : Int32) (hh : HI HT h) (hj : JT h) (hR : RJ h) : ∃ (r1 r2 : Int32) (h1 h2 : List pC), Run prog E pV1 120 mX7_book [.ref 0, .int x1] h (some (.int r1), h1, 0, 0) ∧ Run prog E pV1 120 mX8_book [.ref 110, .int x1] h1 (some (.int r2), h2, 0, 0) ∧ (∃ o, pobj h1 110 = some o ∧ o.1 = 8) ∧ HI HT h2 ∧ JT h2 ∧ RJ h2 := by
  obtain ⟨r1, h1, q1, hh1, f1, hj1⟩ := pub_of (E := E) (a := 0) (kg_c_book JT_P hands) (N := mX7_book) rfl (List.cons_ne_nil _ _) [x1] rfl (fun q => by cases q) (Nat.le_of_ble_eq_true rfl) hh hj
  obtain ⟨r2, h2, q2, hh2, f2, hj2⟩ := pub_of (E := E) (a := 110) (kg_r_book JT_P hands) (N := mX8_book) rfl (List.cons_ne_nil _ _) [x1] rfl (fun q => by cases q) (Nat.le_of_ble_eq_true rfl) hh1 hj1
  exact ⟨r1, r2, h1, h2, q1, q2, mobj hh1, hh2, hj2, ⟨pRel_fr (pRel_fr hR.1 f1 (by decide +kernel)) f2 (by decide +kernel), cRel_fr (cRel_fr hR.2.1 f1 (by decide +kernel)) f2 (by decide +kernel), xj_fr (xj_fr hR.2.2 f1 (by decide +kernel)) f2 (by decide +kernel)⟩⟩
theorem lw_behind (x1 x2 : Int32) (hh : HI HT h) (hj : JT h) (hR : RJ h) : ∃ (r1 r2 : Int32) (h1 h2 : List pC), Run prog E pV1 120 mX7_behind [.ref 0, .int x1, .int x2] h (some (.int r1), h1, 0, 0) ∧ Run prog E pV1 120 mX8_behind [.ref 110, .int x1, .int x2] h1 (some (.int r2), h2, 0, 0) ∧ (∃ o, pobj h1 110 = some o ∧ o.1 = 8) ∧ HI HT h2 ∧ JT h2 ∧ RJ h2 := by
  obtain ⟨r1, h1, q1, hh1, f1, hj1⟩ := pub_of (E := E) (a := 0) (kg_c_behind JT_P hands) (N := mX7_behind) rfl (List.cons_ne_nil _ _) [x1, x2] rfl (fun q => by cases q) (Nat.le_of_ble_eq_true rfl) hh hj
  obtain ⟨r2, h2, q2, hh2, f2, hj2⟩ := pub_of (E := E) (a := 110) (hd_behind hands) (N := mX8_behind) rfl (List.cons_ne_nil _ _) [x1, x2] rfl (fun q => by cases q) (Nat.le_of_ble_eq_true rfl) hh1 hj1
  exact ⟨r1, r2, h1, h2, q1, q2, mobj hh1, hh2, hj2, ⟨pRel_fr (pRel_fr hR.1 f1 (by decide +kernel)) f2 (by decide +kernel), cRel_fr (cRel_fr hR.2.1 f1 (by decide +kernel)) f2 (by decide +kernel), xj_fr (xj_fr hR.2.2 f1 (by decide +kernel)) f2 (by decide +kernel)⟩⟩
theorem lw_lasts (hh : HI HT h) (hj : JT h) (hR : RJ h) : ∃ (r1 r2 : Int32) (h1 h2 : List pC), Run prog E pV1 120 mX7_lasts [.ref 0] h (some (.int r1), h1, 0, 0) ∧ Run prog E pV1 120 mX8_lasts [.ref 110] h1 (some (.int r2), h2, 0, 0) ∧ (∃ o, pobj h1 110 = some o ∧ o.1 = 8) ∧ HI HT h2 ∧ JT h2 ∧ RJ h2 := by
  obtain ⟨r1, h1, q1, hh1, f1, hj1⟩ := pub_of (E := E) (a := 0) (kg_c_lasts JT_P hands) (N := mX7_lasts) rfl (List.cons_ne_nil _ _) [] rfl (fun q => by cases q) (Nat.le_of_ble_eq_true rfl) hh hj
  obtain ⟨r2, h2, q2, hh2, f2, hj2⟩ := pub_of (E := E) (a := 110) (hd_lasts hands) (N := mX8_lasts) rfl (List.cons_ne_nil _ _) [] rfl (fun q => by cases q) (Nat.le_of_ble_eq_true rfl) hh1 hj1
  exact ⟨r1, r2, h1, h2, q1, q2, mobj hh1, hh2, hj2, ⟨pRel_fr (pRel_fr hR.1 f1 (by decide +kernel)) f2 (by decide +kernel), cRel_fr (cRel_fr hR.2.1 f1 (by decide +kernel)) f2 (by decide +kernel), xj_fr (xj_fr hR.2.2 f1 (by decide +kernel)) f2 (by decide +kernel)⟩⟩
theorem lw_best (x1 x2 x3 : Int32) (hh : HI HT h) (hj : JT h) (hR : RJ h) : ∃ (r1 r2 : Int32) (h1 h2 : List pC), Run prog E pV1 120 mX7_best [.ref 0, .int x1, .int x2, .int x3] h (some (.int r1), h1, 0, 0) ∧ Run prog E pV1 120 mX8_best [.ref 110, .int x1, .int x2, .int x3] h1 (some (.int r2), h2, 0, 0) ∧ (∃ o, pobj h1 110 = some o ∧ o.1 = 8) ∧ HI HT h2 ∧ JT h2 ∧ RJ h2 := by
  obtain ⟨r1, h1, q1, hh1, f1, hj1⟩ := pub_of (E := E) (a := 0) (kg_c_best JT_P hands) (N := mX7_best) rfl (List.cons_ne_nil _ _) [x1, x2, x3] rfl (fun q => by cases q) (Nat.le_of_ble_eq_true rfl) hh hj
  obtain ⟨r2, h2, q2, hh2, f2, hj2⟩ := pub_of (E := E) (a := 110) (hd_best hands) (N := mX8_best) rfl (List.cons_ne_nil _ _) [x1, x2, x3] rfl (fun q => by cases q) (Nat.le_of_ble_eq_true rfl) hh1 hj1
  exact ⟨r1, r2, h1, h2, q1, q2, mobj hh1, hh2, hj2, ⟨pRel_fr (pRel_fr hR.1 f1 (by decide +kernel)) f2 (by decide +kernel), cRel_fr (cRel_fr hR.2.1 f1 (by decide +kernel)) f2 (by decide +kernel), xj_fr (xj_fr hR.2.2 f1 (by decide +kernel)) f2 (by decide +kernel)⟩⟩
theorem lw_taught (x1 x2 : Int32) (hh : HI HT h) (hj : JT h) (hR : RJ h) : ∃ (r1 r2 : Int32) (h1 h2 : List pC), Run prog E pV1 120 mX7_taught [.ref 0, .int x1, .int x2] h (some (.int r1), h1, 0, 0) ∧ Run prog E pV1 120 mX8_taught [.ref 110, .int x1, .int x2] h1 (some (.int r2), h2, 0, 0) ∧ (∃ o, pobj h1 110 = some o ∧ o.1 = 8) ∧ HI HT h2 ∧ JT h2 ∧ RJ h2 := by
  obtain ⟨r1, h1, q1, hh1, f1, hj1⟩ := pub_of (E := E) (a := 0) (kg_c_taught JT_P hands) (N := mX7_taught) rfl (List.cons_ne_nil _ _) [x1, x2] rfl (fun q => by cases q) (Nat.le_of_ble_eq_true rfl) hh hj
  obtain ⟨r2, h2, q2, hh2, f2, hj2⟩ := pub_of (E := E) (a := 110) (hd_taught hands) (N := mX8_taught) rfl (List.cons_ne_nil _ _) [x1, x2] rfl (fun q => by cases q) (Nat.le_of_ble_eq_true rfl) hh1 hj1
  exact ⟨r1, r2, h1, h2, q1, q2, mobj hh1, hh2, hj2, ⟨pRel_fr (pRel_fr hR.1 f1 (by decide +kernel)) f2 (by decide +kernel), cRel_fr (cRel_fr hR.2.1 f1 (by decide +kernel)) f2 (by decide +kernel), xj_fr (xj_fr hR.2.2 f1 (by decide +kernel)) f2 (by decide +kernel)⟩⟩
theorem lw_whose (x1 x2 : Int32) (hh : HI HT h) (hj : JT h) (hR : RJ h) : ∃ (r : Int32) (h1 h2 : List pC), Run prog E pV1 120 mX7_whose [.ref 0, .int x1, .int x2] h (some (.int r), h1, 0, 0) ∧ Run prog E pV1 120 mX8_whose [.ref 110, .int x1, .int x2] h1 (some (.int r), h2, 0, 0) ∧ (∃ o, pobj h1 110 = some o ∧ o.1 = 8) ∧ HI HT h2 ∧ JT h2 ∧ RJ h2 := by
  obtain ⟨v, q1, q2⟩ := whose_both (E := E) x1 x2 hh hj (hR.1 _ (List.mem_append_left _ List.mem_cons_self)) (fun k hk hm f hf => cl_1 hR.2.1 (ty_34_5 hh hR).2 k f hk hf (by omega)) (rss_of hR.1) (vl_e (rl_v hR.1)) hR.2.2.2
  exact ⟨v, h, h, q1, q2, mobj hh, hh, hj, hR⟩
theorem lw_fee (hh : HI HT h) (hj : JT h) (hR : RJ h) : ∃ (r1 r2 : Int32) (h1 h2 : List pC), Run prog E pV1 120 mX7_fee [.ref 0] h (some (.int r1), h1, 0, 0) ∧ Run prog E pV1 120 mX8_fee [.ref 110] h1 (some (.int r2), h2, 0, 0) ∧ (∃ o, pobj h1 110 = some o ∧ o.1 = 8) ∧ HI HT h2 ∧ JT h2 ∧ RJ h2 := by
  obtain ⟨r1, h1, q1, hh1, f1, hj1⟩ := pub_of (E := E) (a := 0) (kg_c_fee JT_P hands) (N := mX7_fee) rfl (List.cons_ne_nil _ _) [] rfl (fun q => by cases q) (Nat.le_of_ble_eq_true rfl) hh hj
  obtain ⟨r2, h2, q2, hh2, f2, hj2⟩ := pub_of (E := E) (a := 110) hd_fee (N := mX8_fee) rfl (List.cons_ne_nil _ _) [] rfl (fun q => by cases q) (Nat.le_of_ble_eq_true rfl) hh1 hj1
  exact ⟨r1, r2, h1, h2, q1, q2, mobj hh1, hh2, hj2, ⟨pRel_fr (pRel_fr hR.1 f1 (by decide +kernel)) f2 (by decide +kernel), cRel_fr (cRel_fr hR.2.1 f1 (by decide +kernel)) f2 (by decide +kernel), xj_fr (xj_fr hR.2.2 f1 (by decide +kernel)) f2 (by decide +kernel)⟩⟩
theorem lw_fine (x1 : Int32) (hh : HI HT h) (hj : JT h) (hR : RJ h) : ∃ (r1 r2 : Int32) (h1 h2 : List pC), Run prog E pV1 120 mX7_fine [.ref 0, .int x1] h (some (.int r1), h1, 0, 0) ∧ Run prog E pV1 120 mX8_fine [.ref 110, .int x1] h1 (some (.int r2), h2, 0, 0) ∧ (∃ o, pobj h1 110 = some o ∧ o.1 = 8) ∧ HI HT h2 ∧ JT h2 ∧ RJ h2 := by
  obtain ⟨r1, h1, q1, hh1, f1, hj1⟩ := pub_of (E := E) (a := 0) (kg_c_fine JT_P hands) (N := mX7_fine) rfl (List.cons_ne_nil _ _) [x1] rfl (fun q => by cases q) (Nat.le_of_ble_eq_true rfl) hh hj
  obtain ⟨r2, h2, q2, hh2, f2, hj2⟩ := pub_of (E := E) (a := 110) hd_fine (N := mX8_fine) rfl (List.cons_ne_nil _ _) [x1] rfl (fun q => by cases q) (Nat.le_of_ble_eq_true rfl) hh1 hj1
  exact ⟨r1, r2, h1, h2, q1, q2, mobj hh1, hh2, hj2, ⟨pRel_fr (pRel_fr hR.1 f1 (by decide +kernel)) f2 (by decide +kernel), cRel_fr (cRel_fr hR.2.1 f1 (by decide +kernel)) f2 (by decide +kernel), xj_fr (xj_fr hR.2.2 f1 (by decide +kernel)) f2 (by decide +kernel)⟩⟩
theorem lw_feed (x1 x2 x3 : Int32) (hh : HI HT h) (hj : JT h) (hR : RJ h) : ∃ (r1 r2 : Int32) (h1 h2 : List pC), Run prog E pV1 120 mX7_feed [.ref 0, .int x1, .int x2, .int x3] h (some (.int r1), h1, 0, 0) ∧ Run prog E pV1 120 mX8_feed [.ref 110, .int x1, .int x2, .int x3] h1 (some (.int r2), h2, 0, 0) ∧ (∃ o, pobj h1 110 = some o ∧ o.1 = 8) ∧ HI HT h2 ∧ JT h2 ∧ RJ h2 := by
  obtain ⟨r1, h1, q1, hh1, f1, hj1⟩ := pub_of (E := E) (a := 0) (kg_c_feed JT_P hands) (N := mX7_feed) rfl (List.cons_ne_nil _ _) [x1, x2, x3] rfl (fun q => by cases q) (Nat.le_of_ble_eq_true rfl) hh hj
  obtain ⟨r2, h2, q2, hh2, f2, hj2⟩ := pub_of (E := E) (a := 110) (kg_r_feed JT_P hands) (N := mX8_feed) rfl (List.cons_ne_nil _ _) [x1, x2, x3] rfl (fun q => by cases q) (Nat.le_of_ble_eq_true rfl) hh1 hj1
  exact ⟨r1, r2, h1, h2, q1, q2, mobj hh1, hh2, hj2, ⟨pRel_fr (pRel_fr hR.1 f1 (by decide +kernel)) f2 (by decide +kernel), cRel_fr (cRel_fr hR.2.1 f1 (by decide +kernel)) f2 (by decide +kernel), xj_fr (xj_fr hR.2.2 f1 (by decide +kernel)) f2 (by decide +kernel)⟩⟩
theorem lw_trim (x1 : Int32) (hh : HI HT h) (hj : JT h) (hR : RJ h) : ∃ (r1 r2 : Int32) (h1 h2 : List pC), Run prog E pV1 120 mX7_trim [.ref 0, .int x1] h (some (.int r1), h1, 0, 0) ∧ Run prog E pV1 120 mX8_trim [.ref 110, .int x1] h1 (some (.int r2), h2, 0, 0) ∧ (∃ o, pobj h1 110 = some o ∧ o.1 = 8) ∧ HI HT h2 ∧ JT h2 ∧ RJ h2 := by
  obtain ⟨r1, h1, q1, hh1, f1, hj1⟩ := pub_of (E := E) (a := 0) (kg_c_trim JT_P hands) (N := mX7_trim) rfl (List.cons_ne_nil _ _) [x1] rfl (fun q => by cases q) (Nat.le_of_ble_eq_true rfl) hh hj
  obtain ⟨r2, h2, q2, hh2, f2, hj2⟩ := pub_of (E := E) (a := 110) (kg_r_trim JT_P hands) (N := mX8_trim) rfl (List.cons_ne_nil _ _) [x1] rfl (fun q => by cases q) (Nat.le_of_ble_eq_true rfl) hh1 hj1
  exact ⟨r1, r2, h1, h2, q1, q2, mobj hh1, hh2, hj2, ⟨pRel_fr (pRel_fr hR.1 f1 (by decide +kernel)) f2 (by decide +kernel), cRel_fr (cRel_fr hR.2.1 f1 (by decide +kernel)) f2 (by decide +kernel), xj_fr (xj_fr hR.2.2 f1 (by decide +kernel)) f2 (by decide +kernel)⟩⟩
theorem lw_text (hh : HI HT h) (hj : JT h) (hR : RJ h) : ∃ (r1 r2 : Int32) (h1 h2 : List pC), Run prog E pV1 120 mX7_text [.ref 0] h (some (.int r1), h1, 0, 0) ∧ Run prog E pV1 120 mX8_text [.ref 110] h1 (some (.int r2), h2, 0, 0) ∧ (∃ o, pobj h1 110 = some o ∧ o.1 = 8) ∧ HI HT h2 ∧ JT h2 ∧ RJ h2 := by
  obtain ⟨r1, h1, q1, hh1, f1, hj1⟩ := pub_of (E := E) (a := 0) (kg_c_text JT_P hands) (N := mX7_text) rfl (List.cons_ne_nil _ _) [] rfl (fun q => by cases q) (Nat.le_of_ble_eq_true rfl) hh hj
  obtain ⟨r2, h2, q2, hh2, f2, hj2⟩ := pub_of (E := E) (a := 110) hd_text (N := mX8_text) rfl (List.cons_ne_nil _ _) [] rfl (fun q => by cases q) (Nat.le_of_ble_eq_true rfl) hh1 hj1
  exact ⟨r1, r2, h1, h2, q1, q2, mobj hh1, hh2, hj2, ⟨pRel_fr (pRel_fr hR.1 f1 (by decide +kernel)) f2 (by decide +kernel), cRel_fr (cRel_fr hR.2.1 f1 (by decide +kernel)) f2 (by decide +kernel), xj_fr (xj_fr hR.2.2 f1 (by decide +kernel)) f2 (by decide +kernel)⟩⟩
theorem lw_textTold (x1 x2 : Int32) (hh : HI HT h) (hj : JT h) (hR : RJ h) : ∃ (r1 r2 : Int32) (h1 h2 : List pC), Run prog E pV1 120 mX7_textTold [.ref 0, .int x1, .int x2] h (some (.int r1), h1, 0, 0) ∧ Run prog E pV1 120 mX8_textTold [.ref 110, .int x1, .int x2] h1 (some (.int r2), h2, 0, 0) ∧ (∃ o, pobj h1 110 = some o ∧ o.1 = 8) ∧ HI HT h2 ∧ JT h2 ∧ RJ h2 := by
  obtain ⟨r1, h1, q1, hh1, f1, hj1⟩ := pub_of (E := E) (a := 0) (kg_c_textTold JT_P hands) (N := mX7_textTold) rfl (List.cons_ne_nil _ _) [x1, x2] rfl (fun q => by cases q) (Nat.le_of_ble_eq_true rfl) hh hj
  obtain ⟨r2, h2, q2, hh2, f2, hj2⟩ := pub_of (E := E) (a := 110) (kg_r_textTold JT_P hands) (N := mX8_textTold) rfl (List.cons_ne_nil _ _) [x1, x2] rfl (fun q => by cases q) (Nat.le_of_ble_eq_true rfl) hh1 hj1
  exact ⟨r1, r2, h1, h2, q1, q2, mobj hh1, hh2, hj2, ⟨pRel_fr (pRel_fr hR.1 f1 (by decide +kernel)) f2 (by decide +kernel), cRel_fr (cRel_fr hR.2.1 f1 (by decide +kernel)) f2 (by decide +kernel), xj_fr (xj_fr hR.2.2 f1 (by decide +kernel)) f2 (by decide +kernel)⟩⟩
theorem lw_why (x1 : Int32) (hh : HI HT h) (hj : JT h) (hR : RJ h) : ∃ (r1 r2 : Int32) (h1 h2 : List pC), Run prog E pV1 120 mX7_why [.ref 0, .int x1] h (some (.int r1), h1, 0, 0) ∧ Run prog E pV1 120 mX8_why [.ref 110, .int x1] h1 (some (.int r2), h2, 0, 0) ∧ (∃ o, pobj h1 110 = some o ∧ o.1 = 8) ∧ HI HT h2 ∧ JT h2 ∧ RJ h2 := by
  obtain ⟨r1, h1, q1, hh1, f1, hj1⟩ := pub_of (E := E) (a := 0) (kg_c_why JT_P hands) (N := mX7_why) rfl (List.cons_ne_nil _ _) [x1] rfl (fun q => by cases q) (Nat.le_of_ble_eq_true rfl) hh hj
  obtain ⟨r2, h2, q2, hh2, f2, hj2⟩ := pub_of (E := E) (a := 110) (kg_r_why JT_P hands) (N := mX8_why) rfl (List.cons_ne_nil _ _) [x1] rfl (fun q => by cases q) (Nat.le_of_ble_eq_true rfl) hh1 hj1
  exact ⟨r1, r2, h1, h2, q1, q2, mobj hh1, hh2, hj2, ⟨pRel_fr (pRel_fr hR.1 f1 (by decide +kernel)) f2 (by decide +kernel), cRel_fr (cRel_fr hR.2.1 f1 (by decide +kernel)) f2 (by decide +kernel), xj_fr (xj_fr hR.2.2 f1 (by decide +kernel)) f2 (by decide +kernel)⟩⟩
theorem lf_sheet0_0 (x1 x2 x3 : Int32) (hh : HI HT h) (hj : JT h) (hR : RJ h) (a1 : 0 ≤ x1.toInt ∧ x1.toInt ≤ 0) (a2 : (-2147483648) ≤ x2.toInt ∧ x2.toInt ≤ (-2)) : ∃ (r1 r2 : Int32) (h1 h2 : List pC), Run prog E pV1 120 mX7_sheet [.ref 0, .int x1, .int x2, .int x3] h (some (.int r1), h1, 0, 0) ∧ Run prog E pV1 120 mX8_sheet [.ref 110, .int x1, .int x2, .int x3] h1 (some (.int r2), h2, 0, 0) ∧ (∃ o, pobj h1 110 = some o ∧ o.1 = 8) ∧ HI HT h2 ∧ JT h2 ∧ RJ h2 := by
  obtain ⟨r, h1, h2, q1, q2, q3, p1, p2, p3, p4⟩ := pr_ok3 (E := E) (x1 := x1) (x2 := x2) (x3 := x3) cp_sheet0_0 rfl rfl (List.cons_ne_nil _ _) (List.cons_ne_nil _ _) (fun _ h => absurd h List.not_mem_nil) hh hj hR.1 hR.2.1 ⟨a1, a2, i32_b x3, trivial⟩ pBd.nl (fun e he => by cases he)
  exact ⟨r, r, h1, h2, q1, q2, q3, p1, p2, p3.1, p3.2, xj_fr hR.2.2 p4 (by decide +kernel)⟩
theorem lf_sheet0_1 (x1 x2 x3 : Int32) (hh : HI HT h) (hj : JT h) (hR : RJ h) (a1 : 0 ≤ x1.toInt ∧ x1.toInt ≤ 0) (a2 : (-1) ≤ x2.toInt ∧ x2.toInt ≤ (-1)) : ∃ (r1 r2 : Int32) (h1 h2 : List pC), Run prog E pV1 120 mX7_sheet [.ref 0, .int x1, .int x2, .int x3] h (some (.int r1), h1, 0, 0) ∧ Run prog E pV1 120 mX8_sheet [.ref 110, .int x1, .int x2, .int x3] h1 (some (.int r2), h2, 0, 0) ∧ (∃ o, pobj h1 110 = some o ∧ o.1 = 8) ∧ HI HT h2 ∧ JT h2 ∧ RJ h2 := by
  obtain ⟨r, h1, h2, q1, q2, q3, p1, p2, p3, p4⟩ := pr_ok3 (E := E) (x1 := x1) (x2 := x2) (x3 := x3) cp_sheet0_1 rfl rfl (List.cons_ne_nil _ _) (List.cons_ne_nil _ _) (fun _ h => absurd h List.not_mem_nil) hh hj hR.1 hR.2.1 ⟨a1, a2, i32_b x3, trivial⟩ (pBd.cs (ty_82_1 hh hR).1 (ty_82_1 hh hR).2 (pBd.cs (ty_82_2 hh hR).1 (ty_82_2 hh hR).2 pBd.nl)) (fun e he => by cases he)
  obtain ⟨r', g1, k1, gg, gj, gf, gz⟩ := ox_ok (E := E) (xs := [x1, x2, x3]) (R' := ro_sv0_1) (Q := fun _ h' => ∀ j : Nat, j < 24 → ri h' 83 j = 0) ox_sv0_1 rfl (fun _ h => absurd h List.not_mem_nil) hj hh (fun _ hq => absurd hq List.not_mem_nil) pBd.nl ⟨a1, a2, i32_b x3, trivial⟩ (fun e he => by cases he) (fun σ Γ C Δ x r h' he _ _ hC _ hr => by
    obtain ⟨a1, -⟩ := ecV_ok he hC hr
    exact fun j hj24 => Int32.toInt_inj.mp ((zcn (a1 _ (svc_m hj24))).trans (by decide)))
  have e1 : g1 = h1 := (Prod.mk.inj (Prod.mk.inj (Run.det k1 q1)).2).1
  rw [e1] at gg gj gf gz
  obtain ⟨r2, g2, k2, -, f2, -⟩ := pub_of (E := E) (a := 110) (kg_r_sheet JT_P hands) (N := mX8_sheet) rfl (List.cons_ne_nil _ _) [x1, x2, x3] rfl (fun q => by cases q) (Nat.le_of_ble_eq_true rfl) gg gj
  have e2 : g2 = h2 := (Prod.mk.inj (Prod.mk.inj (Run.det k2 q2)).2).1
  rw [e2] at f2
  exact ⟨r, r, h1, h2, q1, q2, q3, p1, p2, p3.1, p3.2, ⟨xk_fr hR.2.2.1 p4 (by decide +kernel), vb_row (U := 0) hR.2.2.2 gz gf f2⟩⟩
theorem lf_sheet0_2 (x1 x2 x3 : Int32) (hh : HI HT h) (hj : JT h) (hR : RJ h) (a1 : 0 ≤ x1.toInt ∧ x1.toInt ≤ 0) (a2 : 0 ≤ x2.toInt ∧ x2.toInt ≤ 0) (a3 : (-2147483648) ≤ x3.toInt ∧ x3.toInt ≤ (-1)) : ∃ (r1 r2 : Int32) (h1 h2 : List pC), Run prog E pV1 120 mX7_sheet [.ref 0, .int x1, .int x2, .int x3] h (some (.int r1), h1, 0, 0) ∧ Run prog E pV1 120 mX8_sheet [.ref 110, .int x1, .int x2, .int x3] h1 (some (.int r2), h2, 0, 0) ∧ (∃ o, pobj h1 110 = some o ∧ o.1 = 8) ∧ HI HT h2 ∧ JT h2 ∧ RJ h2 := by
  obtain ⟨r, h1, h2, q1, q2, q3, p1, p2, p3, p4⟩ := pr_ok3 (E := E) (x1 := x1) (x2 := x2) (x3 := x3) cp_sheet0_2 rfl rfl (List.cons_ne_nil _ _) (List.cons_ne_nil _ _) (fun _ h => absurd h List.not_mem_nil) hh hj hR.1 hR.2.1 ⟨a1, a2, a3, trivial⟩ pBd.nl (fun e he => by cases he)
  exact ⟨r, r, h1, h2, q1, q2, q3, p1, p2, p3.1, p3.2, xj_fr hR.2.2 p4 (by decide +kernel)⟩
theorem lf_sheet0_3 (x1 x2 x3 : Int32) (hh : HI HT h) (hj : JT h) (hR : RJ h) (a1 : 0 ≤ x1.toInt ∧ x1.toInt ≤ 0) (a2 : 0 ≤ x2.toInt ∧ x2.toInt ≤ 0) (a3 : 0 ≤ x3.toInt ∧ x3.toInt ≤ 24) : ∃ (r1 r2 : Int32) (h1 h2 : List pC), Run prog E pV1 120 mX7_sheet [.ref 0, .int x1, .int x2, .int x3] h (some (.int r1), h1, 0, 0) ∧ Run prog E pV1 120 mX8_sheet [.ref 110, .int x1, .int x2, .int x3] h1 (some (.int r2), h2, 0, 0) ∧ (∃ o, pobj h1 110 = some o ∧ o.1 = 8) ∧ HI HT h2 ∧ JT h2 ∧ RJ h2 := by
  obtain ⟨r, h1, h2, q1, q2, q3, p1, p2, p3, p4⟩ := pr_ok3 (E := E) (x1 := x1) (x2 := x2) (x3 := x3) cp_sheet0_3 rfl rfl (List.cons_ne_nil _ _) (List.cons_ne_nil _ _) (fun _ h => absurd h List.not_mem_nil) hh hj hR.1 hR.2.1 ⟨a1, a2, a3, trivial⟩ (pBd.cs (ty_82_1 hh hR).1 (ty_82_1 hh hR).2 (pBd.cs (ty_82_2 hh hR).1 (ty_82_2 hh hR).2 pBd.nl)) (fun e he => by cases he)
  obtain ⟨r', g1, k1, gg, gj, gf, gz⟩ := ox_ok (E := E) (xs := [x1, x2, x3]) (R' := ro_sv0_3) (Q := fun _ h' => ∀ j : Nat, j < 24 → ri h' 83 j = 0) ox_sv0_3 rfl (fun _ h => absurd h List.not_mem_nil) hj hh (fun _ hq => absurd hq List.not_mem_nil) pBd.nl ⟨a1, a2, a3, trivial⟩ (fun e he => by cases he) (fun σ Γ C Δ x r h' he _ _ hC _ hr => by
    obtain ⟨a1, -⟩ := ecV_ok he hC hr
    exact fun j hj24 => Int32.toInt_inj.mp ((zcn (a1 _ (svc_m hj24))).trans (by decide)))
  have e1 : g1 = h1 := (Prod.mk.inj (Prod.mk.inj (Run.det k1 q1)).2).1
  rw [e1] at gg gj gf gz
  obtain ⟨r2, g2, k2, -, f2, -⟩ := pub_of (E := E) (a := 110) (kg_r_sheet JT_P hands) (N := mX8_sheet) rfl (List.cons_ne_nil _ _) [x1, x2, x3] rfl (fun q => by cases q) (Nat.le_of_ble_eq_true rfl) gg gj
  have e2 : g2 = h2 := (Prod.mk.inj (Prod.mk.inj (Run.det k2 q2)).2).1
  rw [e2] at f2
  exact ⟨r, r, h1, h2, q1, q2, q3, p1, p2, p3.1, p3.2, ⟨xk_fr hR.2.2.1 p4 (by decide +kernel), vb_row (U := 0) hR.2.2.2 gz gf f2⟩⟩
theorem lf_sheet0_4 (x1 x2 x3 : Int32) (hh : HI HT h) (hj : JT h) (hR : RJ h) (a1 : 0 ≤ x1.toInt ∧ x1.toInt ≤ 0) (a2 : 0 ≤ x2.toInt ∧ x2.toInt ≤ 0) (a3 : 25 ≤ x3.toInt ∧ x3.toInt ≤ 2147483647) : ∃ (r1 r2 : Int32) (h1 h2 : List pC), Run prog E pV1 120 mX7_sheet [.ref 0, .int x1, .int x2, .int x3] h (some (.int r1), h1, 0, 0) ∧ Run prog E pV1 120 mX8_sheet [.ref 110, .int x1, .int x2, .int x3] h1 (some (.int r2), h2, 0, 0) ∧ (∃ o, pobj h1 110 = some o ∧ o.1 = 8) ∧ HI HT h2 ∧ JT h2 ∧ RJ h2 := by
  obtain ⟨r, h1, h2, q1, q2, q3, p1, p2, p3, p4⟩ := pr_ok3 (E := E) (x1 := x1) (x2 := x2) (x3 := x3) cp_sheet0_4 rfl rfl (List.cons_ne_nil _ _) (List.cons_ne_nil _ _) (fun _ h => absurd h List.not_mem_nil) hh hj hR.1 hR.2.1 ⟨a1, a2, a3, trivial⟩ pBd.nl (fun e he => by cases he)
  exact ⟨r, r, h1, h2, q1, q2, q3, p1, p2, p3.1, p3.2, xj_fr hR.2.2 p4 (by decide +kernel)⟩
theorem lf_sheet0_5 (x1 x2 x3 : Int32) (hh : HI HT h) (hj : JT h) (hR : RJ h) (a1 : 0 ≤ x1.toInt ∧ x1.toInt ≤ 0) (a2 : 1 ≤ x2.toInt ∧ x2.toInt ≤ 1) (a3 : (-2147483648) ≤ x3.toInt ∧ x3.toInt ≤ (-1)) : ∃ (r1 r2 : Int32) (h1 h2 : List pC), Run prog E pV1 120 mX7_sheet [.ref 0, .int x1, .int x2, .int x3] h (some (.int r1), h1, 0, 0) ∧ Run prog E pV1 120 mX8_sheet [.ref 110, .int x1, .int x2, .int x3] h1 (some (.int r2), h2, 0, 0) ∧ (∃ o, pobj h1 110 = some o ∧ o.1 = 8) ∧ HI HT h2 ∧ JT h2 ∧ RJ h2 := by
  obtain ⟨r, h1, h2, q1, q2, q3, p1, p2, p3, p4⟩ := pr_ok3 (E := E) (x1 := x1) (x2 := x2) (x3 := x3) cp_sheet0_5 rfl rfl (List.cons_ne_nil _ _) (List.cons_ne_nil _ _) (fun _ h => absurd h List.not_mem_nil) hh hj hR.1 hR.2.1 ⟨a1, a2, a3, trivial⟩ pBd.nl (fun e he => by cases he)
  exact ⟨r, r, h1, h2, q1, q2, q3, p1, p2, p3.1, p3.2, xj_fr hR.2.2 p4 (by decide +kernel)⟩
theorem lf_sheet0_6 (x1 x2 x3 : Int32) (hh : HI HT h) (hj : JT h) (hR : RJ h) (a1 : 0 ≤ x1.toInt ∧ x1.toInt ≤ 0) (a2 : 1 ≤ x2.toInt ∧ x2.toInt ≤ 1) (a3 : 0 ≤ x3.toInt ∧ x3.toInt ≤ 24) : ∃ (r1 r2 : Int32) (h1 h2 : List pC), Run prog E pV1 120 mX7_sheet [.ref 0, .int x1, .int x2, .int x3] h (some (.int r1), h1, 0, 0) ∧ Run prog E pV1 120 mX8_sheet [.ref 110, .int x1, .int x2, .int x3] h1 (some (.int r2), h2, 0, 0) ∧ (∃ o, pobj h1 110 = some o ∧ o.1 = 8) ∧ HI HT h2 ∧ JT h2 ∧ RJ h2 := by
  obtain ⟨r, h1, h2, q1, q2, q3, p1, p2, p3, p4⟩ := pr_ok3 (E := E) (x1 := x1) (x2 := x2) (x3 := x3) cp_sheet0_6 rfl rfl (List.cons_ne_nil _ _) (List.cons_ne_nil _ _) (fun _ h => absurd h List.not_mem_nil) hh hj hR.1 hR.2.1 ⟨a1, a2, a3, trivial⟩ (pBd.cs (ty_82_1 hh hR).1 (ty_82_1 hh hR).2 (pBd.cs (ty_82_2 hh hR).1 (ty_82_2 hh hR).2 pBd.nl)) (fun e he => by cases he)
  obtain ⟨r', g1, k1, gg, gj, gf, gz⟩ := ox_ok (E := E) (xs := [x1, x2, x3]) (R' := ro_sv0_6) (Q := fun _ h' => ∀ j : Nat, j < 24 → ri h' 83 j = 0) ox_sv0_6 rfl (fun _ h => absurd h List.not_mem_nil) hj hh (fun _ hq => absurd hq List.not_mem_nil) pBd.nl ⟨a1, a2, a3, trivial⟩ (fun e he => by cases he) (fun σ Γ C Δ x r h' he _ _ hC _ hr => by
    obtain ⟨a1, -⟩ := ecV_ok he hC hr
    exact fun j hj24 => Int32.toInt_inj.mp ((zcn (a1 _ (svc_m hj24))).trans (by decide)))
  have e1 : g1 = h1 := (Prod.mk.inj (Prod.mk.inj (Run.det k1 q1)).2).1
  rw [e1] at gg gj gf gz
  obtain ⟨r2, g2, k2, -, f2, -⟩ := pub_of (E := E) (a := 110) (kg_r_sheet JT_P hands) (N := mX8_sheet) rfl (List.cons_ne_nil _ _) [x1, x2, x3] rfl (fun q => by cases q) (Nat.le_of_ble_eq_true rfl) gg gj
  have e2 : g2 = h2 := (Prod.mk.inj (Prod.mk.inj (Run.det k2 q2)).2).1
  rw [e2] at f2
  exact ⟨r, r, h1, h2, q1, q2, q3, p1, p2, p3.1, p3.2, ⟨xk_fr hR.2.2.1 p4 (by decide +kernel), vb_row (U := 0) hR.2.2.2 gz gf f2⟩⟩
theorem lf_sheet0_7 (x1 x2 x3 : Int32) (hh : HI HT h) (hj : JT h) (hR : RJ h) (a1 : 0 ≤ x1.toInt ∧ x1.toInt ≤ 0) (a2 : 1 ≤ x2.toInt ∧ x2.toInt ≤ 1) (a3 : 25 ≤ x3.toInt ∧ x3.toInt ≤ 2147483647) : ∃ (r1 r2 : Int32) (h1 h2 : List pC), Run prog E pV1 120 mX7_sheet [.ref 0, .int x1, .int x2, .int x3] h (some (.int r1), h1, 0, 0) ∧ Run prog E pV1 120 mX8_sheet [.ref 110, .int x1, .int x2, .int x3] h1 (some (.int r2), h2, 0, 0) ∧ (∃ o, pobj h1 110 = some o ∧ o.1 = 8) ∧ HI HT h2 ∧ JT h2 ∧ RJ h2 := by
  obtain ⟨r, h1, h2, q1, q2, q3, p1, p2, p3, p4⟩ := pr_ok3 (E := E) (x1 := x1) (x2 := x2) (x3 := x3) cp_sheet0_7 rfl rfl (List.cons_ne_nil _ _) (List.cons_ne_nil _ _) (fun _ h => absurd h List.not_mem_nil) hh hj hR.1 hR.2.1 ⟨a1, a2, a3, trivial⟩ pBd.nl (fun e he => by cases he)
  exact ⟨r, r, h1, h2, q1, q2, q3, p1, p2, p3.1, p3.2, xj_fr hR.2.2 p4 (by decide +kernel)⟩
theorem lf_sheet0_8 (x1 x2 x3 : Int32) (hh : HI HT h) (hj : JT h) (hR : RJ h) (a1 : 0 ≤ x1.toInt ∧ x1.toInt ≤ 0) (a2 : 2 ≤ x2.toInt ∧ x2.toInt ≤ 2147483647) : ∃ (r1 r2 : Int32) (h1 h2 : List pC), Run prog E pV1 120 mX7_sheet [.ref 0, .int x1, .int x2, .int x3] h (some (.int r1), h1, 0, 0) ∧ Run prog E pV1 120 mX8_sheet [.ref 110, .int x1, .int x2, .int x3] h1 (some (.int r2), h2, 0, 0) ∧ (∃ o, pobj h1 110 = some o ∧ o.1 = 8) ∧ HI HT h2 ∧ JT h2 ∧ RJ h2 := by
  obtain ⟨r, h1, h2, q1, q2, q3, p1, p2, p3, p4⟩ := pr_ok3 (E := E) (x1 := x1) (x2 := x2) (x3 := x3) cp_sheet0_8 rfl rfl (List.cons_ne_nil _ _) (List.cons_ne_nil _ _) (fun _ h => absurd h List.not_mem_nil) hh hj hR.1 hR.2.1 ⟨a1, a2, i32_b x3, trivial⟩ pBd.nl (fun e he => by cases he)
  exact ⟨r, r, h1, h2, q1, q2, q3, p1, p2, p3.1, p3.2, xj_fr hR.2.2 p4 (by decide +kernel)⟩
theorem lf_sheet1_0 (x1 x2 x3 : Int32) (hh : HI HT h) (hj : JT h) (hR : RJ h) (a1 : 1 ≤ x1.toInt ∧ x1.toInt ≤ 1) (a2 : (-2147483648) ≤ x2.toInt ∧ x2.toInt ≤ (-2)) : ∃ (r1 r2 : Int32) (h1 h2 : List pC), Run prog E pV1 120 mX7_sheet [.ref 0, .int x1, .int x2, .int x3] h (some (.int r1), h1, 0, 0) ∧ Run prog E pV1 120 mX8_sheet [.ref 110, .int x1, .int x2, .int x3] h1 (some (.int r2), h2, 0, 0) ∧ (∃ o, pobj h1 110 = some o ∧ o.1 = 8) ∧ HI HT h2 ∧ JT h2 ∧ RJ h2 := by
  obtain ⟨r, h1, h2, q1, q2, q3, p1, p2, p3, p4⟩ := pr_ok3 (E := E) (x1 := x1) (x2 := x2) (x3 := x3) cp_sheet1_0 rfl rfl (List.cons_ne_nil _ _) (List.cons_ne_nil _ _) (fun _ h => absurd h List.not_mem_nil) hh hj hR.1 hR.2.1 ⟨a1, a2, i32_b x3, trivial⟩ pBd.nl (fun e he => by cases he)
  exact ⟨r, r, h1, h2, q1, q2, q3, p1, p2, p3.1, p3.2, xj_fr hR.2.2 p4 (by decide +kernel)⟩
theorem lf_sheet1_1 (x1 x2 x3 : Int32) (hh : HI HT h) (hj : JT h) (hR : RJ h) (a1 : 1 ≤ x1.toInt ∧ x1.toInt ≤ 1) (a2 : (-1) ≤ x2.toInt ∧ x2.toInt ≤ (-1)) : ∃ (r1 r2 : Int32) (h1 h2 : List pC), Run prog E pV1 120 mX7_sheet [.ref 0, .int x1, .int x2, .int x3] h (some (.int r1), h1, 0, 0) ∧ Run prog E pV1 120 mX8_sheet [.ref 110, .int x1, .int x2, .int x3] h1 (some (.int r2), h2, 0, 0) ∧ (∃ o, pobj h1 110 = some o ∧ o.1 = 8) ∧ HI HT h2 ∧ JT h2 ∧ RJ h2 := by
  obtain ⟨r, h1, h2, q1, q2, q3, p1, p2, p3, p4⟩ := pr_ok3 (E := E) (x1 := x1) (x2 := x2) (x3 := x3) cp_sheet1_1 rfl rfl (List.cons_ne_nil _ _) (List.cons_ne_nil _ _) (fun _ h => absurd h List.not_mem_nil) hh hj hR.1 hR.2.1 ⟨a1, a2, i32_b x3, trivial⟩ (pBd.cs (ty_84_1 hh hR).1 (ty_84_1 hh hR).2 (pBd.cs (ty_84_2 hh hR).1 (ty_84_2 hh hR).2 pBd.nl)) (fun e he => by cases he)
  obtain ⟨r', g1, k1, gg, gj, gf, gz⟩ := ox_ok (E := E) (xs := [x1, x2, x3]) (R' := ro_sv1_1) (Q := fun _ h' => ∀ j : Nat, j < 24 → ri h' 85 j = 0) ox_sv1_1 rfl (fun _ h => absurd h List.not_mem_nil) hj hh (fun _ hq => absurd hq List.not_mem_nil) pBd.nl ⟨a1, a2, i32_b x3, trivial⟩ (fun e he => by cases he) (fun σ Γ C Δ x r h' he _ _ hC _ hr => by
    obtain ⟨a1, -⟩ := ecV_ok he hC hr
    exact fun j hj24 => Int32.toInt_inj.mp ((zcn (a1 _ (svc_m hj24))).trans (by decide)))
  have e1 : g1 = h1 := (Prod.mk.inj (Prod.mk.inj (Run.det k1 q1)).2).1
  rw [e1] at gg gj gf gz
  obtain ⟨r2, g2, k2, -, f2, -⟩ := pub_of (E := E) (a := 110) (kg_r_sheet JT_P hands) (N := mX8_sheet) rfl (List.cons_ne_nil _ _) [x1, x2, x3] rfl (fun q => by cases q) (Nat.le_of_ble_eq_true rfl) gg gj
  have e2 : g2 = h2 := (Prod.mk.inj (Prod.mk.inj (Run.det k2 q2)).2).1
  rw [e2] at f2
  exact ⟨r, r, h1, h2, q1, q2, q3, p1, p2, p3.1, p3.2, ⟨xk_fr hR.2.2.1 p4 (by decide +kernel), vb_row (U := 1) hR.2.2.2 gz gf f2⟩⟩
theorem lf_sheet1_2 (x1 x2 x3 : Int32) (hh : HI HT h) (hj : JT h) (hR : RJ h) (a1 : 1 ≤ x1.toInt ∧ x1.toInt ≤ 1) (a2 : 0 ≤ x2.toInt ∧ x2.toInt ≤ 0) (a3 : (-2147483648) ≤ x3.toInt ∧ x3.toInt ≤ (-1)) : ∃ (r1 r2 : Int32) (h1 h2 : List pC), Run prog E pV1 120 mX7_sheet [.ref 0, .int x1, .int x2, .int x3] h (some (.int r1), h1, 0, 0) ∧ Run prog E pV1 120 mX8_sheet [.ref 110, .int x1, .int x2, .int x3] h1 (some (.int r2), h2, 0, 0) ∧ (∃ o, pobj h1 110 = some o ∧ o.1 = 8) ∧ HI HT h2 ∧ JT h2 ∧ RJ h2 := by
  obtain ⟨r, h1, h2, q1, q2, q3, p1, p2, p3, p4⟩ := pr_ok3 (E := E) (x1 := x1) (x2 := x2) (x3 := x3) cp_sheet1_2 rfl rfl (List.cons_ne_nil _ _) (List.cons_ne_nil _ _) (fun _ h => absurd h List.not_mem_nil) hh hj hR.1 hR.2.1 ⟨a1, a2, a3, trivial⟩ pBd.nl (fun e he => by cases he)
  exact ⟨r, r, h1, h2, q1, q2, q3, p1, p2, p3.1, p3.2, xj_fr hR.2.2 p4 (by decide +kernel)⟩
theorem lf_sheet1_3 (x1 x2 x3 : Int32) (hh : HI HT h) (hj : JT h) (hR : RJ h) (a1 : 1 ≤ x1.toInt ∧ x1.toInt ≤ 1) (a2 : 0 ≤ x2.toInt ∧ x2.toInt ≤ 0) (a3 : 0 ≤ x3.toInt ∧ x3.toInt ≤ 24) : ∃ (r1 r2 : Int32) (h1 h2 : List pC), Run prog E pV1 120 mX7_sheet [.ref 0, .int x1, .int x2, .int x3] h (some (.int r1), h1, 0, 0) ∧ Run prog E pV1 120 mX8_sheet [.ref 110, .int x1, .int x2, .int x3] h1 (some (.int r2), h2, 0, 0) ∧ (∃ o, pobj h1 110 = some o ∧ o.1 = 8) ∧ HI HT h2 ∧ JT h2 ∧ RJ h2 := by
  obtain ⟨r, h1, h2, q1, q2, q3, p1, p2, p3, p4⟩ := pr_ok3 (E := E) (x1 := x1) (x2 := x2) (x3 := x3) cp_sheet1_3 rfl rfl (List.cons_ne_nil _ _) (List.cons_ne_nil _ _) (fun _ h => absurd h List.not_mem_nil) hh hj hR.1 hR.2.1 ⟨a1, a2, a3, trivial⟩ (pBd.cs (ty_84_1 hh hR).1 (ty_84_1 hh hR).2 (pBd.cs (ty_84_2 hh hR).1 (ty_84_2 hh hR).2 pBd.nl)) (fun e he => by cases he)
  obtain ⟨r', g1, k1, gg, gj, gf, gz⟩ := ox_ok (E := E) (xs := [x1, x2, x3]) (R' := ro_sv1_3) (Q := fun _ h' => ∀ j : Nat, j < 24 → ri h' 85 j = 0) ox_sv1_3 rfl (fun _ h => absurd h List.not_mem_nil) hj hh (fun _ hq => absurd hq List.not_mem_nil) pBd.nl ⟨a1, a2, a3, trivial⟩ (fun e he => by cases he) (fun σ Γ C Δ x r h' he _ _ hC _ hr => by
    obtain ⟨a1, -⟩ := ecV_ok he hC hr
    exact fun j hj24 => Int32.toInt_inj.mp ((zcn (a1 _ (svc_m hj24))).trans (by decide)))
  have e1 : g1 = h1 := (Prod.mk.inj (Prod.mk.inj (Run.det k1 q1)).2).1
  rw [e1] at gg gj gf gz
  obtain ⟨r2, g2, k2, -, f2, -⟩ := pub_of (E := E) (a := 110) (kg_r_sheet JT_P hands) (N := mX8_sheet) rfl (List.cons_ne_nil _ _) [x1, x2, x3] rfl (fun q => by cases q) (Nat.le_of_ble_eq_true rfl) gg gj
  have e2 : g2 = h2 := (Prod.mk.inj (Prod.mk.inj (Run.det k2 q2)).2).1
  rw [e2] at f2
  exact ⟨r, r, h1, h2, q1, q2, q3, p1, p2, p3.1, p3.2, ⟨xk_fr hR.2.2.1 p4 (by decide +kernel), vb_row (U := 1) hR.2.2.2 gz gf f2⟩⟩
theorem lf_sheet1_4 (x1 x2 x3 : Int32) (hh : HI HT h) (hj : JT h) (hR : RJ h) (a1 : 1 ≤ x1.toInt ∧ x1.toInt ≤ 1) (a2 : 0 ≤ x2.toInt ∧ x2.toInt ≤ 0) (a3 : 25 ≤ x3.toInt ∧ x3.toInt ≤ 2147483647) : ∃ (r1 r2 : Int32) (h1 h2 : List pC), Run prog E pV1 120 mX7_sheet [.ref 0, .int x1, .int x2, .int x3] h (some (.int r1), h1, 0, 0) ∧ Run prog E pV1 120 mX8_sheet [.ref 110, .int x1, .int x2, .int x3] h1 (some (.int r2), h2, 0, 0) ∧ (∃ o, pobj h1 110 = some o ∧ o.1 = 8) ∧ HI HT h2 ∧ JT h2 ∧ RJ h2 := by
  obtain ⟨r, h1, h2, q1, q2, q3, p1, p2, p3, p4⟩ := pr_ok3 (E := E) (x1 := x1) (x2 := x2) (x3 := x3) cp_sheet1_4 rfl rfl (List.cons_ne_nil _ _) (List.cons_ne_nil _ _) (fun _ h => absurd h List.not_mem_nil) hh hj hR.1 hR.2.1 ⟨a1, a2, a3, trivial⟩ pBd.nl (fun e he => by cases he)
  exact ⟨r, r, h1, h2, q1, q2, q3, p1, p2, p3.1, p3.2, xj_fr hR.2.2 p4 (by decide +kernel)⟩
theorem lf_sheet1_5 (x1 x2 x3 : Int32) (hh : HI HT h) (hj : JT h) (hR : RJ h) (a1 : 1 ≤ x1.toInt ∧ x1.toInt ≤ 1) (a2 : 1 ≤ x2.toInt ∧ x2.toInt ≤ 1) (a3 : (-2147483648) ≤ x3.toInt ∧ x3.toInt ≤ (-1)) : ∃ (r1 r2 : Int32) (h1 h2 : List pC), Run prog E pV1 120 mX7_sheet [.ref 0, .int x1, .int x2, .int x3] h (some (.int r1), h1, 0, 0) ∧ Run prog E pV1 120 mX8_sheet [.ref 110, .int x1, .int x2, .int x3] h1 (some (.int r2), h2, 0, 0) ∧ (∃ o, pobj h1 110 = some o ∧ o.1 = 8) ∧ HI HT h2 ∧ JT h2 ∧ RJ h2 := by
  obtain ⟨r, h1, h2, q1, q2, q3, p1, p2, p3, p4⟩ := pr_ok3 (E := E) (x1 := x1) (x2 := x2) (x3 := x3) cp_sheet1_5 rfl rfl (List.cons_ne_nil _ _) (List.cons_ne_nil _ _) (fun _ h => absurd h List.not_mem_nil) hh hj hR.1 hR.2.1 ⟨a1, a2, a3, trivial⟩ pBd.nl (fun e he => by cases he)
  exact ⟨r, r, h1, h2, q1, q2, q3, p1, p2, p3.1, p3.2, xj_fr hR.2.2 p4 (by decide +kernel)⟩
theorem lf_sheet1_6 (x1 x2 x3 : Int32) (hh : HI HT h) (hj : JT h) (hR : RJ h) (a1 : 1 ≤ x1.toInt ∧ x1.toInt ≤ 1) (a2 : 1 ≤ x2.toInt ∧ x2.toInt ≤ 1) (a3 : 0 ≤ x3.toInt ∧ x3.toInt ≤ 24) : ∃ (r1 r2 : Int32) (h1 h2 : List pC), Run prog E pV1 120 mX7_sheet [.ref 0, .int x1, .int x2, .int x3] h (some (.int r1), h1, 0, 0) ∧ Run prog E pV1 120 mX8_sheet [.ref 110, .int x1, .int x2, .int x3] h1 (some (.int r2), h2, 0, 0) ∧ (∃ o, pobj h1 110 = some o ∧ o.1 = 8) ∧ HI HT h2 ∧ JT h2 ∧ RJ h2 := by
  obtain ⟨r, h1, h2, q1, q2, q3, p1, p2, p3, p4⟩ := pr_ok3 (E := E) (x1 := x1) (x2 := x2) (x3 := x3) cp_sheet1_6 rfl rfl (List.cons_ne_nil _ _) (List.cons_ne_nil _ _) (fun _ h => absurd h List.not_mem_nil) hh hj hR.1 hR.2.1 ⟨a1, a2, a3, trivial⟩ (pBd.cs (ty_84_1 hh hR).1 (ty_84_1 hh hR).2 (pBd.cs (ty_84_2 hh hR).1 (ty_84_2 hh hR).2 pBd.nl)) (fun e he => by cases he)
  obtain ⟨r', g1, k1, gg, gj, gf, gz⟩ := ox_ok (E := E) (xs := [x1, x2, x3]) (R' := ro_sv1_6) (Q := fun _ h' => ∀ j : Nat, j < 24 → ri h' 85 j = 0) ox_sv1_6 rfl (fun _ h => absurd h List.not_mem_nil) hj hh (fun _ hq => absurd hq List.not_mem_nil) pBd.nl ⟨a1, a2, a3, trivial⟩ (fun e he => by cases he) (fun σ Γ C Δ x r h' he _ _ hC _ hr => by
    obtain ⟨a1, -⟩ := ecV_ok he hC hr
    exact fun j hj24 => Int32.toInt_inj.mp ((zcn (a1 _ (svc_m hj24))).trans (by decide)))
  have e1 : g1 = h1 := (Prod.mk.inj (Prod.mk.inj (Run.det k1 q1)).2).1
  rw [e1] at gg gj gf gz
  obtain ⟨r2, g2, k2, -, f2, -⟩ := pub_of (E := E) (a := 110) (kg_r_sheet JT_P hands) (N := mX8_sheet) rfl (List.cons_ne_nil _ _) [x1, x2, x3] rfl (fun q => by cases q) (Nat.le_of_ble_eq_true rfl) gg gj
  have e2 : g2 = h2 := (Prod.mk.inj (Prod.mk.inj (Run.det k2 q2)).2).1
  rw [e2] at f2
  exact ⟨r, r, h1, h2, q1, q2, q3, p1, p2, p3.1, p3.2, ⟨xk_fr hR.2.2.1 p4 (by decide +kernel), vb_row (U := 1) hR.2.2.2 gz gf f2⟩⟩
theorem lf_sheet1_7 (x1 x2 x3 : Int32) (hh : HI HT h) (hj : JT h) (hR : RJ h) (a1 : 1 ≤ x1.toInt ∧ x1.toInt ≤ 1) (a2 : 1 ≤ x2.toInt ∧ x2.toInt ≤ 1) (a3 : 25 ≤ x3.toInt ∧ x3.toInt ≤ 2147483647) : ∃ (r1 r2 : Int32) (h1 h2 : List pC), Run prog E pV1 120 mX7_sheet [.ref 0, .int x1, .int x2, .int x3] h (some (.int r1), h1, 0, 0) ∧ Run prog E pV1 120 mX8_sheet [.ref 110, .int x1, .int x2, .int x3] h1 (some (.int r2), h2, 0, 0) ∧ (∃ o, pobj h1 110 = some o ∧ o.1 = 8) ∧ HI HT h2 ∧ JT h2 ∧ RJ h2 := by
  obtain ⟨r, h1, h2, q1, q2, q3, p1, p2, p3, p4⟩ := pr_ok3 (E := E) (x1 := x1) (x2 := x2) (x3 := x3) cp_sheet1_7 rfl rfl (List.cons_ne_nil _ _) (List.cons_ne_nil _ _) (fun _ h => absurd h List.not_mem_nil) hh hj hR.1 hR.2.1 ⟨a1, a2, a3, trivial⟩ pBd.nl (fun e he => by cases he)
  exact ⟨r, r, h1, h2, q1, q2, q3, p1, p2, p3.1, p3.2, xj_fr hR.2.2 p4 (by decide +kernel)⟩
theorem lf_sheet1_8 (x1 x2 x3 : Int32) (hh : HI HT h) (hj : JT h) (hR : RJ h) (a1 : 1 ≤ x1.toInt ∧ x1.toInt ≤ 1) (a2 : 2 ≤ x2.toInt ∧ x2.toInt ≤ 2147483647) : ∃ (r1 r2 : Int32) (h1 h2 : List pC), Run prog E pV1 120 mX7_sheet [.ref 0, .int x1, .int x2, .int x3] h (some (.int r1), h1, 0, 0) ∧ Run prog E pV1 120 mX8_sheet [.ref 110, .int x1, .int x2, .int x3] h1 (some (.int r2), h2, 0, 0) ∧ (∃ o, pobj h1 110 = some o ∧ o.1 = 8) ∧ HI HT h2 ∧ JT h2 ∧ RJ h2 := by
  obtain ⟨r, h1, h2, q1, q2, q3, p1, p2, p3, p4⟩ := pr_ok3 (E := E) (x1 := x1) (x2 := x2) (x3 := x3) cp_sheet1_8 rfl rfl (List.cons_ne_nil _ _) (List.cons_ne_nil _ _) (fun _ h => absurd h List.not_mem_nil) hh hj hR.1 hR.2.1 ⟨a1, a2, i32_b x3, trivial⟩ pBd.nl (fun e he => by cases he)
  exact ⟨r, r, h1, h2, q1, q2, q3, p1, p2, p3.1, p3.2, xj_fr hR.2.2 p4 (by decide +kernel)⟩
theorem lf_sheet2_0 (x1 x2 x3 : Int32) (hh : HI HT h) (hj : JT h) (hR : RJ h) (a1 : 2 ≤ x1.toInt ∧ x1.toInt ≤ 2) (a2 : (-2147483648) ≤ x2.toInt ∧ x2.toInt ≤ (-2)) : ∃ (r1 r2 : Int32) (h1 h2 : List pC), Run prog E pV1 120 mX7_sheet [.ref 0, .int x1, .int x2, .int x3] h (some (.int r1), h1, 0, 0) ∧ Run prog E pV1 120 mX8_sheet [.ref 110, .int x1, .int x2, .int x3] h1 (some (.int r2), h2, 0, 0) ∧ (∃ o, pobj h1 110 = some o ∧ o.1 = 8) ∧ HI HT h2 ∧ JT h2 ∧ RJ h2 := by
  obtain ⟨r, h1, h2, q1, q2, q3, p1, p2, p3, p4⟩ := pr_ok3 (E := E) (x1 := x1) (x2 := x2) (x3 := x3) cp_sheet2_0 rfl rfl (List.cons_ne_nil _ _) (List.cons_ne_nil _ _) (fun _ h => absurd h List.not_mem_nil) hh hj hR.1 hR.2.1 ⟨a1, a2, i32_b x3, trivial⟩ pBd.nl (fun e he => by cases he)
  exact ⟨r, r, h1, h2, q1, q2, q3, p1, p2, p3.1, p3.2, xj_fr hR.2.2 p4 (by decide +kernel)⟩
theorem lf_sheet2_1 (x1 x2 x3 : Int32) (hh : HI HT h) (hj : JT h) (hR : RJ h) (a1 : 2 ≤ x1.toInt ∧ x1.toInt ≤ 2) (a2 : (-1) ≤ x2.toInt ∧ x2.toInt ≤ (-1)) : ∃ (r1 r2 : Int32) (h1 h2 : List pC), Run prog E pV1 120 mX7_sheet [.ref 0, .int x1, .int x2, .int x3] h (some (.int r1), h1, 0, 0) ∧ Run prog E pV1 120 mX8_sheet [.ref 110, .int x1, .int x2, .int x3] h1 (some (.int r2), h2, 0, 0) ∧ (∃ o, pobj h1 110 = some o ∧ o.1 = 8) ∧ HI HT h2 ∧ JT h2 ∧ RJ h2 := by
  obtain ⟨r, h1, h2, q1, q2, q3, p1, p2, p3, p4⟩ := pr_ok3 (E := E) (x1 := x1) (x2 := x2) (x3 := x3) cp_sheet2_1 rfl rfl (List.cons_ne_nil _ _) (List.cons_ne_nil _ _) (fun _ h => absurd h List.not_mem_nil) hh hj hR.1 hR.2.1 ⟨a1, a2, i32_b x3, trivial⟩ (pBd.cs (ty_86_1 hh hR).1 (ty_86_1 hh hR).2 (pBd.cs (ty_86_2 hh hR).1 (ty_86_2 hh hR).2 pBd.nl)) (fun e he => by cases he)
  obtain ⟨r', g1, k1, gg, gj, gf, gz⟩ := ox_ok (E := E) (xs := [x1, x2, x3]) (R' := ro_sv2_1) (Q := fun _ h' => ∀ j : Nat, j < 24 → ri h' 87 j = 0) ox_sv2_1 rfl (fun _ h => absurd h List.not_mem_nil) hj hh (fun _ hq => absurd hq List.not_mem_nil) pBd.nl ⟨a1, a2, i32_b x3, trivial⟩ (fun e he => by cases he) (fun σ Γ C Δ x r h' he _ _ hC _ hr => by
    obtain ⟨a1, -⟩ := ecV_ok he hC hr
    exact fun j hj24 => Int32.toInt_inj.mp ((zcn (a1 _ (svc_m hj24))).trans (by decide)))
  have e1 : g1 = h1 := (Prod.mk.inj (Prod.mk.inj (Run.det k1 q1)).2).1
  rw [e1] at gg gj gf gz
  obtain ⟨r2, g2, k2, -, f2, -⟩ := pub_of (E := E) (a := 110) (kg_r_sheet JT_P hands) (N := mX8_sheet) rfl (List.cons_ne_nil _ _) [x1, x2, x3] rfl (fun q => by cases q) (Nat.le_of_ble_eq_true rfl) gg gj
  have e2 : g2 = h2 := (Prod.mk.inj (Prod.mk.inj (Run.det k2 q2)).2).1
  rw [e2] at f2
  exact ⟨r, r, h1, h2, q1, q2, q3, p1, p2, p3.1, p3.2, ⟨xk_fr hR.2.2.1 p4 (by decide +kernel), vb_row (U := 2) hR.2.2.2 gz gf f2⟩⟩
theorem lf_sheet2_2 (x1 x2 x3 : Int32) (hh : HI HT h) (hj : JT h) (hR : RJ h) (a1 : 2 ≤ x1.toInt ∧ x1.toInt ≤ 2) (a2 : 0 ≤ x2.toInt ∧ x2.toInt ≤ 0) (a3 : (-2147483648) ≤ x3.toInt ∧ x3.toInt ≤ (-1)) : ∃ (r1 r2 : Int32) (h1 h2 : List pC), Run prog E pV1 120 mX7_sheet [.ref 0, .int x1, .int x2, .int x3] h (some (.int r1), h1, 0, 0) ∧ Run prog E pV1 120 mX8_sheet [.ref 110, .int x1, .int x2, .int x3] h1 (some (.int r2), h2, 0, 0) ∧ (∃ o, pobj h1 110 = some o ∧ o.1 = 8) ∧ HI HT h2 ∧ JT h2 ∧ RJ h2 := by
  obtain ⟨r, h1, h2, q1, q2, q3, p1, p2, p3, p4⟩ := pr_ok3 (E := E) (x1 := x1) (x2 := x2) (x3 := x3) cp_sheet2_2 rfl rfl (List.cons_ne_nil _ _) (List.cons_ne_nil _ _) (fun _ h => absurd h List.not_mem_nil) hh hj hR.1 hR.2.1 ⟨a1, a2, a3, trivial⟩ pBd.nl (fun e he => by cases he)
  exact ⟨r, r, h1, h2, q1, q2, q3, p1, p2, p3.1, p3.2, xj_fr hR.2.2 p4 (by decide +kernel)⟩
theorem lf_sheet2_3 (x1 x2 x3 : Int32) (hh : HI HT h) (hj : JT h) (hR : RJ h) (a1 : 2 ≤ x1.toInt ∧ x1.toInt ≤ 2) (a2 : 0 ≤ x2.toInt ∧ x2.toInt ≤ 0) (a3 : 0 ≤ x3.toInt ∧ x3.toInt ≤ 24) : ∃ (r1 r2 : Int32) (h1 h2 : List pC), Run prog E pV1 120 mX7_sheet [.ref 0, .int x1, .int x2, .int x3] h (some (.int r1), h1, 0, 0) ∧ Run prog E pV1 120 mX8_sheet [.ref 110, .int x1, .int x2, .int x3] h1 (some (.int r2), h2, 0, 0) ∧ (∃ o, pobj h1 110 = some o ∧ o.1 = 8) ∧ HI HT h2 ∧ JT h2 ∧ RJ h2 := by
  obtain ⟨r, h1, h2, q1, q2, q3, p1, p2, p3, p4⟩ := pr_ok3 (E := E) (x1 := x1) (x2 := x2) (x3 := x3) cp_sheet2_3 rfl rfl (List.cons_ne_nil _ _) (List.cons_ne_nil _ _) (fun _ h => absurd h List.not_mem_nil) hh hj hR.1 hR.2.1 ⟨a1, a2, a3, trivial⟩ (pBd.cs (ty_86_1 hh hR).1 (ty_86_1 hh hR).2 (pBd.cs (ty_86_2 hh hR).1 (ty_86_2 hh hR).2 pBd.nl)) (fun e he => by cases he)
  obtain ⟨r', g1, k1, gg, gj, gf, gz⟩ := ox_ok (E := E) (xs := [x1, x2, x3]) (R' := ro_sv2_3) (Q := fun _ h' => ∀ j : Nat, j < 24 → ri h' 87 j = 0) ox_sv2_3 rfl (fun _ h => absurd h List.not_mem_nil) hj hh (fun _ hq => absurd hq List.not_mem_nil) pBd.nl ⟨a1, a2, a3, trivial⟩ (fun e he => by cases he) (fun σ Γ C Δ x r h' he _ _ hC _ hr => by
    obtain ⟨a1, -⟩ := ecV_ok he hC hr
    exact fun j hj24 => Int32.toInt_inj.mp ((zcn (a1 _ (svc_m hj24))).trans (by decide)))
  have e1 : g1 = h1 := (Prod.mk.inj (Prod.mk.inj (Run.det k1 q1)).2).1
  rw [e1] at gg gj gf gz
  obtain ⟨r2, g2, k2, -, f2, -⟩ := pub_of (E := E) (a := 110) (kg_r_sheet JT_P hands) (N := mX8_sheet) rfl (List.cons_ne_nil _ _) [x1, x2, x3] rfl (fun q => by cases q) (Nat.le_of_ble_eq_true rfl) gg gj
  have e2 : g2 = h2 := (Prod.mk.inj (Prod.mk.inj (Run.det k2 q2)).2).1
  rw [e2] at f2
  exact ⟨r, r, h1, h2, q1, q2, q3, p1, p2, p3.1, p3.2, ⟨xk_fr hR.2.2.1 p4 (by decide +kernel), vb_row (U := 2) hR.2.2.2 gz gf f2⟩⟩
theorem lf_sheet2_4 (x1 x2 x3 : Int32) (hh : HI HT h) (hj : JT h) (hR : RJ h) (a1 : 2 ≤ x1.toInt ∧ x1.toInt ≤ 2) (a2 : 0 ≤ x2.toInt ∧ x2.toInt ≤ 0) (a3 : 25 ≤ x3.toInt ∧ x3.toInt ≤ 2147483647) : ∃ (r1 r2 : Int32) (h1 h2 : List pC), Run prog E pV1 120 mX7_sheet [.ref 0, .int x1, .int x2, .int x3] h (some (.int r1), h1, 0, 0) ∧ Run prog E pV1 120 mX8_sheet [.ref 110, .int x1, .int x2, .int x3] h1 (some (.int r2), h2, 0, 0) ∧ (∃ o, pobj h1 110 = some o ∧ o.1 = 8) ∧ HI HT h2 ∧ JT h2 ∧ RJ h2 := by
  obtain ⟨r, h1, h2, q1, q2, q3, p1, p2, p3, p4⟩ := pr_ok3 (E := E) (x1 := x1) (x2 := x2) (x3 := x3) cp_sheet2_4 rfl rfl (List.cons_ne_nil _ _) (List.cons_ne_nil _ _) (fun _ h => absurd h List.not_mem_nil) hh hj hR.1 hR.2.1 ⟨a1, a2, a3, trivial⟩ pBd.nl (fun e he => by cases he)
  exact ⟨r, r, h1, h2, q1, q2, q3, p1, p2, p3.1, p3.2, xj_fr hR.2.2 p4 (by decide +kernel)⟩
theorem lf_sheet2_5 (x1 x2 x3 : Int32) (hh : HI HT h) (hj : JT h) (hR : RJ h) (a1 : 2 ≤ x1.toInt ∧ x1.toInt ≤ 2) (a2 : 1 ≤ x2.toInt ∧ x2.toInt ≤ 1) (a3 : (-2147483648) ≤ x3.toInt ∧ x3.toInt ≤ (-1)) : ∃ (r1 r2 : Int32) (h1 h2 : List pC), Run prog E pV1 120 mX7_sheet [.ref 0, .int x1, .int x2, .int x3] h (some (.int r1), h1, 0, 0) ∧ Run prog E pV1 120 mX8_sheet [.ref 110, .int x1, .int x2, .int x3] h1 (some (.int r2), h2, 0, 0) ∧ (∃ o, pobj h1 110 = some o ∧ o.1 = 8) ∧ HI HT h2 ∧ JT h2 ∧ RJ h2 := by
  obtain ⟨r, h1, h2, q1, q2, q3, p1, p2, p3, p4⟩ := pr_ok3 (E := E) (x1 := x1) (x2 := x2) (x3 := x3) cp_sheet2_5 rfl rfl (List.cons_ne_nil _ _) (List.cons_ne_nil _ _) (fun _ h => absurd h List.not_mem_nil) hh hj hR.1 hR.2.1 ⟨a1, a2, a3, trivial⟩ pBd.nl (fun e he => by cases he)
  exact ⟨r, r, h1, h2, q1, q2, q3, p1, p2, p3.1, p3.2, xj_fr hR.2.2 p4 (by decide +kernel)⟩
theorem lf_sheet2_6 (x1 x2 x3 : Int32) (hh : HI HT h) (hj : JT h) (hR : RJ h) (a1 : 2 ≤ x1.toInt ∧ x1.toInt ≤ 2) (a2 : 1 ≤ x2.toInt ∧ x2.toInt ≤ 1) (a3 : 0 ≤ x3.toInt ∧ x3.toInt ≤ 24) : ∃ (r1 r2 : Int32) (h1 h2 : List pC), Run prog E pV1 120 mX7_sheet [.ref 0, .int x1, .int x2, .int x3] h (some (.int r1), h1, 0, 0) ∧ Run prog E pV1 120 mX8_sheet [.ref 110, .int x1, .int x2, .int x3] h1 (some (.int r2), h2, 0, 0) ∧ (∃ o, pobj h1 110 = some o ∧ o.1 = 8) ∧ HI HT h2 ∧ JT h2 ∧ RJ h2 := by
  obtain ⟨r, h1, h2, q1, q2, q3, p1, p2, p3, p4⟩ := pr_ok3 (E := E) (x1 := x1) (x2 := x2) (x3 := x3) cp_sheet2_6 rfl rfl (List.cons_ne_nil _ _) (List.cons_ne_nil _ _) (fun _ h => absurd h List.not_mem_nil) hh hj hR.1 hR.2.1 ⟨a1, a2, a3, trivial⟩ (pBd.cs (ty_86_1 hh hR).1 (ty_86_1 hh hR).2 (pBd.cs (ty_86_2 hh hR).1 (ty_86_2 hh hR).2 pBd.nl)) (fun e he => by cases he)
  obtain ⟨r', g1, k1, gg, gj, gf, gz⟩ := ox_ok (E := E) (xs := [x1, x2, x3]) (R' := ro_sv2_6) (Q := fun _ h' => ∀ j : Nat, j < 24 → ri h' 87 j = 0) ox_sv2_6 rfl (fun _ h => absurd h List.not_mem_nil) hj hh (fun _ hq => absurd hq List.not_mem_nil) pBd.nl ⟨a1, a2, a3, trivial⟩ (fun e he => by cases he) (fun σ Γ C Δ x r h' he _ _ hC _ hr => by
    obtain ⟨a1, -⟩ := ecV_ok he hC hr
    exact fun j hj24 => Int32.toInt_inj.mp ((zcn (a1 _ (svc_m hj24))).trans (by decide)))
  have e1 : g1 = h1 := (Prod.mk.inj (Prod.mk.inj (Run.det k1 q1)).2).1
  rw [e1] at gg gj gf gz
  obtain ⟨r2, g2, k2, -, f2, -⟩ := pub_of (E := E) (a := 110) (kg_r_sheet JT_P hands) (N := mX8_sheet) rfl (List.cons_ne_nil _ _) [x1, x2, x3] rfl (fun q => by cases q) (Nat.le_of_ble_eq_true rfl) gg gj
  have e2 : g2 = h2 := (Prod.mk.inj (Prod.mk.inj (Run.det k2 q2)).2).1
  rw [e2] at f2
  exact ⟨r, r, h1, h2, q1, q2, q3, p1, p2, p3.1, p3.2, ⟨xk_fr hR.2.2.1 p4 (by decide +kernel), vb_row (U := 2) hR.2.2.2 gz gf f2⟩⟩
theorem lf_sheet2_7 (x1 x2 x3 : Int32) (hh : HI HT h) (hj : JT h) (hR : RJ h) (a1 : 2 ≤ x1.toInt ∧ x1.toInt ≤ 2) (a2 : 1 ≤ x2.toInt ∧ x2.toInt ≤ 1) (a3 : 25 ≤ x3.toInt ∧ x3.toInt ≤ 2147483647) : ∃ (r1 r2 : Int32) (h1 h2 : List pC), Run prog E pV1 120 mX7_sheet [.ref 0, .int x1, .int x2, .int x3] h (some (.int r1), h1, 0, 0) ∧ Run prog E pV1 120 mX8_sheet [.ref 110, .int x1, .int x2, .int x3] h1 (some (.int r2), h2, 0, 0) ∧ (∃ o, pobj h1 110 = some o ∧ o.1 = 8) ∧ HI HT h2 ∧ JT h2 ∧ RJ h2 := by
  obtain ⟨r, h1, h2, q1, q2, q3, p1, p2, p3, p4⟩ := pr_ok3 (E := E) (x1 := x1) (x2 := x2) (x3 := x3) cp_sheet2_7 rfl rfl (List.cons_ne_nil _ _) (List.cons_ne_nil _ _) (fun _ h => absurd h List.not_mem_nil) hh hj hR.1 hR.2.1 ⟨a1, a2, a3, trivial⟩ pBd.nl (fun e he => by cases he)
  exact ⟨r, r, h1, h2, q1, q2, q3, p1, p2, p3.1, p3.2, xj_fr hR.2.2 p4 (by decide +kernel)⟩
theorem lf_sheet2_8 (x1 x2 x3 : Int32) (hh : HI HT h) (hj : JT h) (hR : RJ h) (a1 : 2 ≤ x1.toInt ∧ x1.toInt ≤ 2) (a2 : 2 ≤ x2.toInt ∧ x2.toInt ≤ 2147483647) : ∃ (r1 r2 : Int32) (h1 h2 : List pC), Run prog E pV1 120 mX7_sheet [.ref 0, .int x1, .int x2, .int x3] h (some (.int r1), h1, 0, 0) ∧ Run prog E pV1 120 mX8_sheet [.ref 110, .int x1, .int x2, .int x3] h1 (some (.int r2), h2, 0, 0) ∧ (∃ o, pobj h1 110 = some o ∧ o.1 = 8) ∧ HI HT h2 ∧ JT h2 ∧ RJ h2 := by
  obtain ⟨r, h1, h2, q1, q2, q3, p1, p2, p3, p4⟩ := pr_ok3 (E := E) (x1 := x1) (x2 := x2) (x3 := x3) cp_sheet2_8 rfl rfl (List.cons_ne_nil _ _) (List.cons_ne_nil _ _) (fun _ h => absurd h List.not_mem_nil) hh hj hR.1 hR.2.1 ⟨a1, a2, i32_b x3, trivial⟩ pBd.nl (fun e he => by cases he)
  exact ⟨r, r, h1, h2, q1, q2, q3, p1, p2, p3.1, p3.2, xj_fr hR.2.2 p4 (by decide +kernel)⟩
theorem lf_sheet3_0 (x1 x2 x3 : Int32) (hh : HI HT h) (hj : JT h) (hR : RJ h) (a1 : 3 ≤ x1.toInt ∧ x1.toInt ≤ 3) (a2 : (-2147483648) ≤ x2.toInt ∧ x2.toInt ≤ (-2)) : ∃ (r1 r2 : Int32) (h1 h2 : List pC), Run prog E pV1 120 mX7_sheet [.ref 0, .int x1, .int x2, .int x3] h (some (.int r1), h1, 0, 0) ∧ Run prog E pV1 120 mX8_sheet [.ref 110, .int x1, .int x2, .int x3] h1 (some (.int r2), h2, 0, 0) ∧ (∃ o, pobj h1 110 = some o ∧ o.1 = 8) ∧ HI HT h2 ∧ JT h2 ∧ RJ h2 := by
  obtain ⟨r, h1, h2, q1, q2, q3, p1, p2, p3, p4⟩ := pr_ok3 (E := E) (x1 := x1) (x2 := x2) (x3 := x3) cp_sheet3_0 rfl rfl (List.cons_ne_nil _ _) (List.cons_ne_nil _ _) (fun _ h => absurd h List.not_mem_nil) hh hj hR.1 hR.2.1 ⟨a1, a2, i32_b x3, trivial⟩ pBd.nl (fun e he => by cases he)
  exact ⟨r, r, h1, h2, q1, q2, q3, p1, p2, p3.1, p3.2, xj_fr hR.2.2 p4 (by decide +kernel)⟩
theorem lf_sheet3_1 (x1 x2 x3 : Int32) (hh : HI HT h) (hj : JT h) (hR : RJ h) (a1 : 3 ≤ x1.toInt ∧ x1.toInt ≤ 3) (a2 : (-1) ≤ x2.toInt ∧ x2.toInt ≤ (-1)) : ∃ (r1 r2 : Int32) (h1 h2 : List pC), Run prog E pV1 120 mX7_sheet [.ref 0, .int x1, .int x2, .int x3] h (some (.int r1), h1, 0, 0) ∧ Run prog E pV1 120 mX8_sheet [.ref 110, .int x1, .int x2, .int x3] h1 (some (.int r2), h2, 0, 0) ∧ (∃ o, pobj h1 110 = some o ∧ o.1 = 8) ∧ HI HT h2 ∧ JT h2 ∧ RJ h2 := by
  obtain ⟨r, h1, h2, q1, q2, q3, p1, p2, p3, p4⟩ := pr_ok3 (E := E) (x1 := x1) (x2 := x2) (x3 := x3) cp_sheet3_1 rfl rfl (List.cons_ne_nil _ _) (List.cons_ne_nil _ _) (fun _ h => absurd h List.not_mem_nil) hh hj hR.1 hR.2.1 ⟨a1, a2, i32_b x3, trivial⟩ (pBd.cs (ty_88_1 hh hR).1 (ty_88_1 hh hR).2 (pBd.cs (ty_88_2 hh hR).1 (ty_88_2 hh hR).2 pBd.nl)) (fun e he => by cases he)
  obtain ⟨r', g1, k1, gg, gj, gf, gz⟩ := ox_ok (E := E) (xs := [x1, x2, x3]) (R' := ro_sv3_1) (Q := fun _ h' => ∀ j : Nat, j < 24 → ri h' 89 j = 0) ox_sv3_1 rfl (fun _ h => absurd h List.not_mem_nil) hj hh (fun _ hq => absurd hq List.not_mem_nil) pBd.nl ⟨a1, a2, i32_b x3, trivial⟩ (fun e he => by cases he) (fun σ Γ C Δ x r h' he _ _ hC _ hr => by
    obtain ⟨a1, -⟩ := ecV_ok he hC hr
    exact fun j hj24 => Int32.toInt_inj.mp ((zcn (a1 _ (svc_m hj24))).trans (by decide)))
  have e1 : g1 = h1 := (Prod.mk.inj (Prod.mk.inj (Run.det k1 q1)).2).1
  rw [e1] at gg gj gf gz
  obtain ⟨r2, g2, k2, -, f2, -⟩ := pub_of (E := E) (a := 110) (kg_r_sheet JT_P hands) (N := mX8_sheet) rfl (List.cons_ne_nil _ _) [x1, x2, x3] rfl (fun q => by cases q) (Nat.le_of_ble_eq_true rfl) gg gj
  have e2 : g2 = h2 := (Prod.mk.inj (Prod.mk.inj (Run.det k2 q2)).2).1
  rw [e2] at f2
  exact ⟨r, r, h1, h2, q1, q2, q3, p1, p2, p3.1, p3.2, ⟨xk_fr hR.2.2.1 p4 (by decide +kernel), vb_row (U := 3) hR.2.2.2 gz gf f2⟩⟩
theorem lf_sheet3_2 (x1 x2 x3 : Int32) (hh : HI HT h) (hj : JT h) (hR : RJ h) (a1 : 3 ≤ x1.toInt ∧ x1.toInt ≤ 3) (a2 : 0 ≤ x2.toInt ∧ x2.toInt ≤ 0) (a3 : (-2147483648) ≤ x3.toInt ∧ x3.toInt ≤ (-1)) : ∃ (r1 r2 : Int32) (h1 h2 : List pC), Run prog E pV1 120 mX7_sheet [.ref 0, .int x1, .int x2, .int x3] h (some (.int r1), h1, 0, 0) ∧ Run prog E pV1 120 mX8_sheet [.ref 110, .int x1, .int x2, .int x3] h1 (some (.int r2), h2, 0, 0) ∧ (∃ o, pobj h1 110 = some o ∧ o.1 = 8) ∧ HI HT h2 ∧ JT h2 ∧ RJ h2 := by
  obtain ⟨r, h1, h2, q1, q2, q3, p1, p2, p3, p4⟩ := pr_ok3 (E := E) (x1 := x1) (x2 := x2) (x3 := x3) cp_sheet3_2 rfl rfl (List.cons_ne_nil _ _) (List.cons_ne_nil _ _) (fun _ h => absurd h List.not_mem_nil) hh hj hR.1 hR.2.1 ⟨a1, a2, a3, trivial⟩ pBd.nl (fun e he => by cases he)
  exact ⟨r, r, h1, h2, q1, q2, q3, p1, p2, p3.1, p3.2, xj_fr hR.2.2 p4 (by decide +kernel)⟩
theorem lf_sheet3_3 (x1 x2 x3 : Int32) (hh : HI HT h) (hj : JT h) (hR : RJ h) (a1 : 3 ≤ x1.toInt ∧ x1.toInt ≤ 3) (a2 : 0 ≤ x2.toInt ∧ x2.toInt ≤ 0) (a3 : 0 ≤ x3.toInt ∧ x3.toInt ≤ 24) : ∃ (r1 r2 : Int32) (h1 h2 : List pC), Run prog E pV1 120 mX7_sheet [.ref 0, .int x1, .int x2, .int x3] h (some (.int r1), h1, 0, 0) ∧ Run prog E pV1 120 mX8_sheet [.ref 110, .int x1, .int x2, .int x3] h1 (some (.int r2), h2, 0, 0) ∧ (∃ o, pobj h1 110 = some o ∧ o.1 = 8) ∧ HI HT h2 ∧ JT h2 ∧ RJ h2 := by
  obtain ⟨r, h1, h2, q1, q2, q3, p1, p2, p3, p4⟩ := pr_ok3 (E := E) (x1 := x1) (x2 := x2) (x3 := x3) cp_sheet3_3 rfl rfl (List.cons_ne_nil _ _) (List.cons_ne_nil _ _) (fun _ h => absurd h List.not_mem_nil) hh hj hR.1 hR.2.1 ⟨a1, a2, a3, trivial⟩ (pBd.cs (ty_88_1 hh hR).1 (ty_88_1 hh hR).2 (pBd.cs (ty_88_2 hh hR).1 (ty_88_2 hh hR).2 pBd.nl)) (fun e he => by cases he)
  obtain ⟨r', g1, k1, gg, gj, gf, gz⟩ := ox_ok (E := E) (xs := [x1, x2, x3]) (R' := ro_sv3_3) (Q := fun _ h' => ∀ j : Nat, j < 24 → ri h' 89 j = 0) ox_sv3_3 rfl (fun _ h => absurd h List.not_mem_nil) hj hh (fun _ hq => absurd hq List.not_mem_nil) pBd.nl ⟨a1, a2, a3, trivial⟩ (fun e he => by cases he) (fun σ Γ C Δ x r h' he _ _ hC _ hr => by
    obtain ⟨a1, -⟩ := ecV_ok he hC hr
    exact fun j hj24 => Int32.toInt_inj.mp ((zcn (a1 _ (svc_m hj24))).trans (by decide)))
  have e1 : g1 = h1 := (Prod.mk.inj (Prod.mk.inj (Run.det k1 q1)).2).1
  rw [e1] at gg gj gf gz
  obtain ⟨r2, g2, k2, -, f2, -⟩ := pub_of (E := E) (a := 110) (kg_r_sheet JT_P hands) (N := mX8_sheet) rfl (List.cons_ne_nil _ _) [x1, x2, x3] rfl (fun q => by cases q) (Nat.le_of_ble_eq_true rfl) gg gj
  have e2 : g2 = h2 := (Prod.mk.inj (Prod.mk.inj (Run.det k2 q2)).2).1
  rw [e2] at f2
  exact ⟨r, r, h1, h2, q1, q2, q3, p1, p2, p3.1, p3.2, ⟨xk_fr hR.2.2.1 p4 (by decide +kernel), vb_row (U := 3) hR.2.2.2 gz gf f2⟩⟩
theorem lf_sheet3_4 (x1 x2 x3 : Int32) (hh : HI HT h) (hj : JT h) (hR : RJ h) (a1 : 3 ≤ x1.toInt ∧ x1.toInt ≤ 3) (a2 : 0 ≤ x2.toInt ∧ x2.toInt ≤ 0) (a3 : 25 ≤ x3.toInt ∧ x3.toInt ≤ 2147483647) : ∃ (r1 r2 : Int32) (h1 h2 : List pC), Run prog E pV1 120 mX7_sheet [.ref 0, .int x1, .int x2, .int x3] h (some (.int r1), h1, 0, 0) ∧ Run prog E pV1 120 mX8_sheet [.ref 110, .int x1, .int x2, .int x3] h1 (some (.int r2), h2, 0, 0) ∧ (∃ o, pobj h1 110 = some o ∧ o.1 = 8) ∧ HI HT h2 ∧ JT h2 ∧ RJ h2 := by
  obtain ⟨r, h1, h2, q1, q2, q3, p1, p2, p3, p4⟩ := pr_ok3 (E := E) (x1 := x1) (x2 := x2) (x3 := x3) cp_sheet3_4 rfl rfl (List.cons_ne_nil _ _) (List.cons_ne_nil _ _) (fun _ h => absurd h List.not_mem_nil) hh hj hR.1 hR.2.1 ⟨a1, a2, a3, trivial⟩ pBd.nl (fun e he => by cases he)
  exact ⟨r, r, h1, h2, q1, q2, q3, p1, p2, p3.1, p3.2, xj_fr hR.2.2 p4 (by decide +kernel)⟩
theorem lf_sheet3_5 (x1 x2 x3 : Int32) (hh : HI HT h) (hj : JT h) (hR : RJ h) (a1 : 3 ≤ x1.toInt ∧ x1.toInt ≤ 3) (a2 : 1 ≤ x2.toInt ∧ x2.toInt ≤ 1) (a3 : (-2147483648) ≤ x3.toInt ∧ x3.toInt ≤ (-1)) : ∃ (r1 r2 : Int32) (h1 h2 : List pC), Run prog E pV1 120 mX7_sheet [.ref 0, .int x1, .int x2, .int x3] h (some (.int r1), h1, 0, 0) ∧ Run prog E pV1 120 mX8_sheet [.ref 110, .int x1, .int x2, .int x3] h1 (some (.int r2), h2, 0, 0) ∧ (∃ o, pobj h1 110 = some o ∧ o.1 = 8) ∧ HI HT h2 ∧ JT h2 ∧ RJ h2 := by
  obtain ⟨r, h1, h2, q1, q2, q3, p1, p2, p3, p4⟩ := pr_ok3 (E := E) (x1 := x1) (x2 := x2) (x3 := x3) cp_sheet3_5 rfl rfl (List.cons_ne_nil _ _) (List.cons_ne_nil _ _) (fun _ h => absurd h List.not_mem_nil) hh hj hR.1 hR.2.1 ⟨a1, a2, a3, trivial⟩ pBd.nl (fun e he => by cases he)
  exact ⟨r, r, h1, h2, q1, q2, q3, p1, p2, p3.1, p3.2, xj_fr hR.2.2 p4 (by decide +kernel)⟩
theorem lf_sheet3_6 (x1 x2 x3 : Int32) (hh : HI HT h) (hj : JT h) (hR : RJ h) (a1 : 3 ≤ x1.toInt ∧ x1.toInt ≤ 3) (a2 : 1 ≤ x2.toInt ∧ x2.toInt ≤ 1) (a3 : 0 ≤ x3.toInt ∧ x3.toInt ≤ 24) : ∃ (r1 r2 : Int32) (h1 h2 : List pC), Run prog E pV1 120 mX7_sheet [.ref 0, .int x1, .int x2, .int x3] h (some (.int r1), h1, 0, 0) ∧ Run prog E pV1 120 mX8_sheet [.ref 110, .int x1, .int x2, .int x3] h1 (some (.int r2), h2, 0, 0) ∧ (∃ o, pobj h1 110 = some o ∧ o.1 = 8) ∧ HI HT h2 ∧ JT h2 ∧ RJ h2 := by
  obtain ⟨r, h1, h2, q1, q2, q3, p1, p2, p3, p4⟩ := pr_ok3 (E := E) (x1 := x1) (x2 := x2) (x3 := x3) cp_sheet3_6 rfl rfl (List.cons_ne_nil _ _) (List.cons_ne_nil _ _) (fun _ h => absurd h List.not_mem_nil) hh hj hR.1 hR.2.1 ⟨a1, a2, a3, trivial⟩ (pBd.cs (ty_88_1 hh hR).1 (ty_88_1 hh hR).2 (pBd.cs (ty_88_2 hh hR).1 (ty_88_2 hh hR).2 pBd.nl)) (fun e he => by cases he)
  obtain ⟨r', g1, k1, gg, gj, gf, gz⟩ := ox_ok (E := E) (xs := [x1, x2, x3]) (R' := ro_sv3_6) (Q := fun _ h' => ∀ j : Nat, j < 24 → ri h' 89 j = 0) ox_sv3_6 rfl (fun _ h => absurd h List.not_mem_nil) hj hh (fun _ hq => absurd hq List.not_mem_nil) pBd.nl ⟨a1, a2, a3, trivial⟩ (fun e he => by cases he) (fun σ Γ C Δ x r h' he _ _ hC _ hr => by
    obtain ⟨a1, -⟩ := ecV_ok he hC hr
    exact fun j hj24 => Int32.toInt_inj.mp ((zcn (a1 _ (svc_m hj24))).trans (by decide)))
  have e1 : g1 = h1 := (Prod.mk.inj (Prod.mk.inj (Run.det k1 q1)).2).1
  rw [e1] at gg gj gf gz
  obtain ⟨r2, g2, k2, -, f2, -⟩ := pub_of (E := E) (a := 110) (kg_r_sheet JT_P hands) (N := mX8_sheet) rfl (List.cons_ne_nil _ _) [x1, x2, x3] rfl (fun q => by cases q) (Nat.le_of_ble_eq_true rfl) gg gj
  have e2 : g2 = h2 := (Prod.mk.inj (Prod.mk.inj (Run.det k2 q2)).2).1
  rw [e2] at f2
  exact ⟨r, r, h1, h2, q1, q2, q3, p1, p2, p3.1, p3.2, ⟨xk_fr hR.2.2.1 p4 (by decide +kernel), vb_row (U := 3) hR.2.2.2 gz gf f2⟩⟩
theorem lf_sheet3_7 (x1 x2 x3 : Int32) (hh : HI HT h) (hj : JT h) (hR : RJ h) (a1 : 3 ≤ x1.toInt ∧ x1.toInt ≤ 3) (a2 : 1 ≤ x2.toInt ∧ x2.toInt ≤ 1) (a3 : 25 ≤ x3.toInt ∧ x3.toInt ≤ 2147483647) : ∃ (r1 r2 : Int32) (h1 h2 : List pC), Run prog E pV1 120 mX7_sheet [.ref 0, .int x1, .int x2, .int x3] h (some (.int r1), h1, 0, 0) ∧ Run prog E pV1 120 mX8_sheet [.ref 110, .int x1, .int x2, .int x3] h1 (some (.int r2), h2, 0, 0) ∧ (∃ o, pobj h1 110 = some o ∧ o.1 = 8) ∧ HI HT h2 ∧ JT h2 ∧ RJ h2 := by
  obtain ⟨r, h1, h2, q1, q2, q3, p1, p2, p3, p4⟩ := pr_ok3 (E := E) (x1 := x1) (x2 := x2) (x3 := x3) cp_sheet3_7 rfl rfl (List.cons_ne_nil _ _) (List.cons_ne_nil _ _) (fun _ h => absurd h List.not_mem_nil) hh hj hR.1 hR.2.1 ⟨a1, a2, a3, trivial⟩ pBd.nl (fun e he => by cases he)
  exact ⟨r, r, h1, h2, q1, q2, q3, p1, p2, p3.1, p3.2, xj_fr hR.2.2 p4 (by decide +kernel)⟩
theorem lf_sheet3_8 (x1 x2 x3 : Int32) (hh : HI HT h) (hj : JT h) (hR : RJ h) (a1 : 3 ≤ x1.toInt ∧ x1.toInt ≤ 3) (a2 : 2 ≤ x2.toInt ∧ x2.toInt ≤ 2147483647) : ∃ (r1 r2 : Int32) (h1 h2 : List pC), Run prog E pV1 120 mX7_sheet [.ref 0, .int x1, .int x2, .int x3] h (some (.int r1), h1, 0, 0) ∧ Run prog E pV1 120 mX8_sheet [.ref 110, .int x1, .int x2, .int x3] h1 (some (.int r2), h2, 0, 0) ∧ (∃ o, pobj h1 110 = some o ∧ o.1 = 8) ∧ HI HT h2 ∧ JT h2 ∧ RJ h2 := by
  obtain ⟨r, h1, h2, q1, q2, q3, p1, p2, p3, p4⟩ := pr_ok3 (E := E) (x1 := x1) (x2 := x2) (x3 := x3) cp_sheet3_8 rfl rfl (List.cons_ne_nil _ _) (List.cons_ne_nil _ _) (fun _ h => absurd h List.not_mem_nil) hh hj hR.1 hR.2.1 ⟨a1, a2, i32_b x3, trivial⟩ pBd.nl (fun e he => by cases he)
  exact ⟨r, r, h1, h2, q1, q2, q3, p1, p2, p3.1, p3.2, xj_fr hR.2.2 p4 (by decide +kernel)⟩
theorem lf_sheetl (x1 x2 x3 : Int32) (hh : HI HT h) (hj : JT h) (hR : RJ h) (a1 : (-2147483648) ≤ x1.toInt ∧ x1.toInt ≤ (-1)) : ∃ (r1 r2 : Int32) (h1 h2 : List pC), Run prog E pV1 120 mX7_sheet [.ref 0, .int x1, .int x2, .int x3] h (some (.int r1), h1, 0, 0) ∧ Run prog E pV1 120 mX8_sheet [.ref 110, .int x1, .int x2, .int x3] h1 (some (.int r2), h2, 0, 0) ∧ (∃ o, pobj h1 110 = some o ∧ o.1 = 8) ∧ HI HT h2 ∧ JT h2 ∧ RJ h2 := by
  obtain ⟨r, h1, h2, q1, q2, q3, p1, p2, p3, p4⟩ := pr_ok3 (E := E) (x1 := x1) (x2 := x2) (x3 := x3) cp_sheetl rfl rfl (List.cons_ne_nil _ _) (List.cons_ne_nil _ _) (fun _ h => absurd h List.not_mem_nil) hh hj hR.1 hR.2.1 ⟨a1, i32_b x2, i32_b x3, trivial⟩ pBd.nl (fun e he => by cases he)
  exact ⟨r, r, h1, h2, q1, q2, q3, p1, p2, p3.1, p3.2, xj_fr hR.2.2 p4 (by decide +kernel)⟩
theorem lf_sheeth (x1 x2 x3 : Int32) (hh : HI HT h) (hj : JT h) (hR : RJ h) (a1 : 4 ≤ x1.toInt ∧ x1.toInt ≤ 2147483647) : ∃ (r1 r2 : Int32) (h1 h2 : List pC), Run prog E pV1 120 mX7_sheet [.ref 0, .int x1, .int x2, .int x3] h (some (.int r1), h1, 0, 0) ∧ Run prog E pV1 120 mX8_sheet [.ref 110, .int x1, .int x2, .int x3] h1 (some (.int r2), h2, 0, 0) ∧ (∃ o, pobj h1 110 = some o ∧ o.1 = 8) ∧ HI HT h2 ∧ JT h2 ∧ RJ h2 := by
  obtain ⟨r, h1, h2, q1, q2, q3, p1, p2, p3, p4⟩ := pr_ok3 (E := E) (x1 := x1) (x2 := x2) (x3 := x3) cp_sheeth rfl rfl (List.cons_ne_nil _ _) (List.cons_ne_nil _ _) (fun _ h => absurd h List.not_mem_nil) hh hj hR.1 hR.2.1 ⟨a1, i32_b x2, i32_b x3, trivial⟩ pBd.nl (fun e he => by cases he)
  exact ⟨r, r, h1, h2, q1, q2, q3, p1, p2, p3.1, p3.2, xj_fr hR.2.2 p4 (by decide +kernel)⟩
theorem lw_sheet (x1 x2 x3 : Int32) (hh : HI HT h) (hj : JT h) (hR : RJ h) : ∃ (r1 r2 : Int32) (h1 h2 : List pC), Run prog E pV1 120 mX7_sheet [.ref 0, .int x1, .int x2, .int x3] h (some (.int r1), h1, 0, 0) ∧ Run prog E pV1 120 mX8_sheet [.ref 110, .int x1, .int x2, .int x3] h1 (some (.int r2), h2, 0, 0) ∧ (∃ o, pobj h1 110 = some o ∧ o.1 = 8) ∧ HI HT h2 ∧ JT h2 ∧ RJ h2 := by
  have ex1 := i32_b x1
  have ex2 := i32_b x2
  have ex3 := i32_b x3
  have t82_1 := ty_82_1 hh hR
  have t82_2 := ty_82_2 hh hR
  have t84_1 := ty_84_1 hh hR
  have t84_2 := ty_84_2 hh hR
  have t86_1 := ty_86_1 hh hR
  have t86_2 := ty_86_2 hh hR
  have t88_1 := ty_88_1 hh hR
  have t88_2 := ty_88_2 hh hR
  by_cases c1 : x1.toInt ≤ (-1)
  · exact lf_sheetl x1 x2 x3 hh hj hR ⟨by omega, by omega⟩
  by_cases c2 : x1.toInt ≤ 0
  · by_cases c3 : x2.toInt ≤ (-2)
    · exact lf_sheet0_0 x1 x2 x3 hh hj hR ⟨by omega, by omega⟩ ⟨by omega, by omega⟩
    by_cases c4 : x2.toInt ≤ (-1)
    · exact lf_sheet0_1 x1 x2 x3 hh hj hR ⟨by omega, by omega⟩ ⟨by omega, by omega⟩
    by_cases c5 : x2.toInt ≤ 0
    · by_cases c6 : x3.toInt ≤ (-1)
      · exact lf_sheet0_2 x1 x2 x3 hh hj hR ⟨by omega, by omega⟩ ⟨by omega, by omega⟩ ⟨by omega, by omega⟩
      by_cases c7 : x3.toInt ≤ 24
      · exact lf_sheet0_3 x1 x2 x3 hh hj hR ⟨by omega, by omega⟩ ⟨by omega, by omega⟩ ⟨by omega, by omega⟩
      exact lf_sheet0_4 x1 x2 x3 hh hj hR ⟨by omega, by omega⟩ ⟨by omega, by omega⟩ ⟨by omega, by omega⟩
    by_cases c8 : x2.toInt ≤ 1
    · by_cases c9 : x3.toInt ≤ (-1)
      · exact lf_sheet0_5 x1 x2 x3 hh hj hR ⟨by omega, by omega⟩ ⟨by omega, by omega⟩ ⟨by omega, by omega⟩
      by_cases c10 : x3.toInt ≤ 24
      · exact lf_sheet0_6 x1 x2 x3 hh hj hR ⟨by omega, by omega⟩ ⟨by omega, by omega⟩ ⟨by omega, by omega⟩
      exact lf_sheet0_7 x1 x2 x3 hh hj hR ⟨by omega, by omega⟩ ⟨by omega, by omega⟩ ⟨by omega, by omega⟩
    exact lf_sheet0_8 x1 x2 x3 hh hj hR ⟨by omega, by omega⟩ ⟨by omega, by omega⟩
  by_cases c11 : x1.toInt ≤ 1
  · by_cases c12 : x2.toInt ≤ (-2)
    · exact lf_sheet1_0 x1 x2 x3 hh hj hR ⟨by omega, by omega⟩ ⟨by omega, by omega⟩
    by_cases c13 : x2.toInt ≤ (-1)
    · exact lf_sheet1_1 x1 x2 x3 hh hj hR ⟨by omega, by omega⟩ ⟨by omega, by omega⟩
    by_cases c14 : x2.toInt ≤ 0
    · by_cases c15 : x3.toInt ≤ (-1)
      · exact lf_sheet1_2 x1 x2 x3 hh hj hR ⟨by omega, by omega⟩ ⟨by omega, by omega⟩ ⟨by omega, by omega⟩
      by_cases c16 : x3.toInt ≤ 24
      · exact lf_sheet1_3 x1 x2 x3 hh hj hR ⟨by omega, by omega⟩ ⟨by omega, by omega⟩ ⟨by omega, by omega⟩
      exact lf_sheet1_4 x1 x2 x3 hh hj hR ⟨by omega, by omega⟩ ⟨by omega, by omega⟩ ⟨by omega, by omega⟩
    by_cases c17 : x2.toInt ≤ 1
    · by_cases c18 : x3.toInt ≤ (-1)
      · exact lf_sheet1_5 x1 x2 x3 hh hj hR ⟨by omega, by omega⟩ ⟨by omega, by omega⟩ ⟨by omega, by omega⟩
      by_cases c19 : x3.toInt ≤ 24
      · exact lf_sheet1_6 x1 x2 x3 hh hj hR ⟨by omega, by omega⟩ ⟨by omega, by omega⟩ ⟨by omega, by omega⟩
      exact lf_sheet1_7 x1 x2 x3 hh hj hR ⟨by omega, by omega⟩ ⟨by omega, by omega⟩ ⟨by omega, by omega⟩
    exact lf_sheet1_8 x1 x2 x3 hh hj hR ⟨by omega, by omega⟩ ⟨by omega, by omega⟩
  by_cases c20 : x1.toInt ≤ 2
  · by_cases c21 : x2.toInt ≤ (-2)
    · exact lf_sheet2_0 x1 x2 x3 hh hj hR ⟨by omega, by omega⟩ ⟨by omega, by omega⟩
    by_cases c22 : x2.toInt ≤ (-1)
    · exact lf_sheet2_1 x1 x2 x3 hh hj hR ⟨by omega, by omega⟩ ⟨by omega, by omega⟩
    by_cases c23 : x2.toInt ≤ 0
    · by_cases c24 : x3.toInt ≤ (-1)
      · exact lf_sheet2_2 x1 x2 x3 hh hj hR ⟨by omega, by omega⟩ ⟨by omega, by omega⟩ ⟨by omega, by omega⟩
      by_cases c25 : x3.toInt ≤ 24
      · exact lf_sheet2_3 x1 x2 x3 hh hj hR ⟨by omega, by omega⟩ ⟨by omega, by omega⟩ ⟨by omega, by omega⟩
      exact lf_sheet2_4 x1 x2 x3 hh hj hR ⟨by omega, by omega⟩ ⟨by omega, by omega⟩ ⟨by omega, by omega⟩
    by_cases c26 : x2.toInt ≤ 1
    · by_cases c27 : x3.toInt ≤ (-1)
      · exact lf_sheet2_5 x1 x2 x3 hh hj hR ⟨by omega, by omega⟩ ⟨by omega, by omega⟩ ⟨by omega, by omega⟩
      by_cases c28 : x3.toInt ≤ 24
      · exact lf_sheet2_6 x1 x2 x3 hh hj hR ⟨by omega, by omega⟩ ⟨by omega, by omega⟩ ⟨by omega, by omega⟩
      exact lf_sheet2_7 x1 x2 x3 hh hj hR ⟨by omega, by omega⟩ ⟨by omega, by omega⟩ ⟨by omega, by omega⟩
    exact lf_sheet2_8 x1 x2 x3 hh hj hR ⟨by omega, by omega⟩ ⟨by omega, by omega⟩
  by_cases c29 : x1.toInt ≤ 3
  · by_cases c30 : x2.toInt ≤ (-2)
    · exact lf_sheet3_0 x1 x2 x3 hh hj hR ⟨by omega, by omega⟩ ⟨by omega, by omega⟩
    by_cases c31 : x2.toInt ≤ (-1)
    · exact lf_sheet3_1 x1 x2 x3 hh hj hR ⟨by omega, by omega⟩ ⟨by omega, by omega⟩
    by_cases c32 : x2.toInt ≤ 0
    · by_cases c33 : x3.toInt ≤ (-1)
      · exact lf_sheet3_2 x1 x2 x3 hh hj hR ⟨by omega, by omega⟩ ⟨by omega, by omega⟩ ⟨by omega, by omega⟩
      by_cases c34 : x3.toInt ≤ 24
      · exact lf_sheet3_3 x1 x2 x3 hh hj hR ⟨by omega, by omega⟩ ⟨by omega, by omega⟩ ⟨by omega, by omega⟩
      exact lf_sheet3_4 x1 x2 x3 hh hj hR ⟨by omega, by omega⟩ ⟨by omega, by omega⟩ ⟨by omega, by omega⟩
    by_cases c35 : x2.toInt ≤ 1
    · by_cases c36 : x3.toInt ≤ (-1)
      · exact lf_sheet3_5 x1 x2 x3 hh hj hR ⟨by omega, by omega⟩ ⟨by omega, by omega⟩ ⟨by omega, by omega⟩
      by_cases c37 : x3.toInt ≤ 24
      · exact lf_sheet3_6 x1 x2 x3 hh hj hR ⟨by omega, by omega⟩ ⟨by omega, by omega⟩ ⟨by omega, by omega⟩
      exact lf_sheet3_7 x1 x2 x3 hh hj hR ⟨by omega, by omega⟩ ⟨by omega, by omega⟩ ⟨by omega, by omega⟩
    exact lf_sheet3_8 x1 x2 x3 hh hj hR ⟨by omega, by omega⟩ ⟨by omega, by omega⟩
  exact lf_sheeth x1 x2 x3 hh hj hR ⟨by omega, by omega⟩
theorem lw_mark (x1 x2 x3 : Int32) (hh : HI HT h) (hj : JT h) (hR : RJ h) : ∃ (r1 r2 : Int32) (h1 h2 : List pC), Run prog E pV1 120 mX7_mark [.ref 0, .int x1, .int x2, .int x3] h (some (.int r1), h1, 0, 0) ∧ Run prog E pV1 120 mX8_mark [.ref 110, .int x1, .int x2, .int x3] h1 (some (.int r2), h2, 0, 0) ∧ (∃ o, pobj h1 110 = some o ∧ o.1 = 8) ∧ HI HT h2 ∧ JT h2 ∧ RJ h2 := by
  obtain ⟨r, h1, h2, q1, q2, hh1, hh2, hj2, f1, f2, rv, vb⟩ := mark_both (E := E) x1 x2 x3 hh hj (rss_of hR.1) (vl_e (rl_v hR.1))
  refine ⟨r, r, h1, h2, q1, q2, mobj hh1, hh2, hj2, fun q hq => ?_, cRel_fr (cRel_fr hR.2.1 f1 (by decide +kernel)) f2 (by decide +kernel), ⟨xk_fr (xk_fr hR.2.2.1 f1 (by decide +kernel)) f2 (by decide +kernel), vb hR.2.2.2⟩⟩
  rcases List.mem_append.mp hq with hq | hq
  · exact pRel_fr (pRel_fr (R := RLf) (rl_f hR.1) f1 (by decide +kernel)) f2 (by decide +kernel) q hq
  · exact vl_i rv q hq
theorem lw_pour (x1 : Int32) (hh : HI HT h) (hj : JT h) (hR : RJ h) : ∃ (r1 r2 : Int32) (h1 h2 : List pC), Run prog E pV1 120 mX7_pour [.ref 0, .int x1] h (some (.int r1), h1, 0, 0) ∧ Run prog E pV1 120 mX8_pour [.ref 110, .int x1] h1 (some (.int r2), h2, 0, 0) ∧ (∃ o, pobj h1 110 = some o ∧ o.1 = 8) ∧ HI HT h2 ∧ JT h2 ∧ RJ h2 := by
  obtain ⟨r1, h1, q1, hh1, f1, hj1⟩ := pub_of (E := E) (a := 0) (kg_c_pourF) (N := mX7_pour) rfl (List.cons_ne_nil _ _) [x1] rfl (fun q => by cases q) (Nat.le_of_ble_eq_true rfl) hh hj
  obtain ⟨r2, h2, q2, hh2, f2, hj2⟩ := pub_of (E := E) (a := 110) (kg_r_pourF) (N := mX8_pour) rfl (List.cons_ne_nil _ _) [x1] rfl (fun q => by cases q) (Nat.le_of_ble_eq_true rfl) hh1 hj1
  exact ⟨r1, r2, h1, h2, q1, q2, mobj hh1, hh2, hj2, ⟨pRel_fr (pRel_fr hR.1 f1 (by decide +kernel)) f2 (by decide +kernel), cRel_fr (cRel_fr hR.2.1 f1 (by decide +kernel)) f2 (by decide +kernel), xj_fr (xj_fr hR.2.2 f1 (by decide +kernel)) f2 (by decide +kernel)⟩⟩
theorem lw_reads (x1 : Int32) (hh : HI HT h) (hj : JT h) (hR : RJ h) : ∃ (r1 r2 : Int32) (h1 h2 : List pC), Run prog E pV1 120 mX7_reads [.ref 0, .int x1] h (some (.int r1), h1, 0, 0) ∧ Run prog E pV1 120 mX8_reads [.ref 110, .int x1] h1 (some (.int r2), h2, 0, 0) ∧ (∃ o, pobj h1 110 = some o ∧ o.1 = 8) ∧ HI HT h2 ∧ JT h2 ∧ RJ h2 := by
  obtain ⟨r1, h1, q1, hh1, f1, hj1⟩ := pub_of (E := E) (a := 0) (kg_c_reads JT_P hands) (N := mX7_reads) rfl (List.cons_ne_nil _ _) [x1] rfl (fun q => by cases q) (Nat.le_of_ble_eq_true rfl) hh hj
  obtain ⟨r2, h2, q2, hh2, f2, hj2⟩ := pub_of (E := E) (a := 110) (kg_r_reads JT_P hands) (N := mX8_reads) rfl (List.cons_ne_nil _ _) [x1] rfl (fun q => by cases q) (Nat.le_of_ble_eq_true rfl) hh1 hj1
  exact ⟨r1, r2, h1, h2, q1, q2, mobj hh1, hh2, hj2, ⟨pRel_fr (pRel_fr hR.1 f1 (by decide +kernel)) f2 (by decide +kernel), cRel_fr (cRel_fr hR.2.1 f1 (by decide +kernel)) f2 (by decide +kernel), xj_fr (xj_fr hR.2.2 f1 (by decide +kernel)) f2 (by decide +kernel)⟩⟩
theorem lw_copy (x1 x2 x3 x4 x5 : Int32) (hh : HI HT h) (hj : JT h) (hR : RJ h) : ∃ (r1 r2 : Int32) (h1 h2 : List pC), Run prog E pV1 120 mX7_copy [.ref 0, .int x1, .int x2, .int x3, .int x4, .int x5] h (some (.int r1), h1, 0, 0) ∧ Run prog E pV1 120 mX8_copy [.ref 110, .int x1, .int x2, .int x3, .int x4, .int x5] h1 (some (.int r2), h2, 0, 0) ∧ (∃ o, pobj h1 110 = some o ∧ o.1 = 8) ∧ HI HT h2 ∧ JT h2 ∧ RJ h2 := by
  obtain ⟨r, h1, h2, q1, q2, hh1, hh2, hj2, f1, f2, rv, vb⟩ := copy_val (E := E) x1 x2 x3 x4 x5 hh hj (rss_of hR.1) (vl_e (rl_v hR.1))
  refine ⟨r, r, h1, h2, q1, q2, mobj hh1, hh2, hj2, fun q hq => ?_, cRel_fr (cRel_fr hR.2.1 f1 (by decide +kernel)) f2 (by decide +kernel), ⟨xk_fr (xk_fr hR.2.2.1 f1 (by decide +kernel)) f2 (by decide +kernel), vb hR.2.2.2⟩⟩
  rcases List.mem_append.mp hq with hq | hq
  · exact pRel_fr (pRel_fr (R := RLf) (rl_f hR.1) f1 (by decide +kernel)) f2 (by decide +kernel) q hq
  · exact vl_i rv q hq
theorem lw_lay (x1 x2 x3 : Int32) (hh : HI HT h) (hj : JT h) (hR : RJ h) : ∃ (r1 r2 : Int32) (h1 h2 : List pC), Run prog E pV1 120 mX7_lay [.ref 0, .int x1, .int x2, .int x3] h (some (.int r1), h1, 0, 0) ∧ Run prog E pV1 120 mX8_lay [.ref 110, .int x1, .int x2, .int x3] h1 (some (.int r2), h2, 0, 0) ∧ (∃ o, pobj h1 110 = some o ∧ o.1 = 8) ∧ HI HT h2 ∧ JT h2 ∧ RJ h2 := by
  obtain ⟨r1, h1, q1, hh1, f1, hj1⟩ := pub_of (E := E) (a := 0) (kg_c_lay JT_P hands) (N := mX7_lay) rfl (List.cons_ne_nil _ _) [x1, x2, x3] rfl (fun q => by cases q) (Nat.le_of_ble_eq_true rfl) hh hj
  obtain ⟨r2, h2, q2, hh2, f2, hj2⟩ := pub_of (E := E) (a := 110) (kg_r_lay JT_P hands) (N := mX8_lay) rfl (List.cons_ne_nil _ _) [x1, x2, x3] rfl (fun q => by cases q) (Nat.le_of_ble_eq_true rfl) hh1 hj1
  exact ⟨r1, r2, h1, h2, q1, q2, mobj hh1, hh2, hj2, ⟨pRel_fr (pRel_fr hR.1 f1 (by decide +kernel)) f2 (by decide +kernel), cRel_fr (cRel_fr hR.2.1 f1 (by decide +kernel)) f2 (by decide +kernel), xj_fr (xj_fr hR.2.2 f1 (by decide +kernel)) f2 (by decide +kernel)⟩⟩
theorem lw_ask (x1 x2 : Int32) (hh : HI HT h) (hj : JT h) (hR : RJ h) : ∃ (r1 r2 : Int32) (h1 h2 : List pC), Run prog E pV1 120 mX7_ask [.ref 0, .int x1, .int x2] h (some (.int r1), h1, 0, 0) ∧ Run prog E pV1 120 mX8_ask [.ref 110, .int x1, .int x2] h1 (some (.int r2), h2, 0, 0) ∧ (∃ o, pobj h1 110 = some o ∧ o.1 = 8) ∧ HI HT h2 ∧ JT h2 ∧ RJ h2 := by
  obtain ⟨r1, h1, q1, hh1, f1, hj1⟩ := pub_of (E := E) (a := 0) (kg_c_ask JT_P hands) (N := mX7_ask) rfl (List.cons_ne_nil _ _) [x1, x2] rfl (fun q => by cases q) (Nat.le_of_ble_eq_true rfl) hh hj
  obtain ⟨r2, h2, q2, hh2, f2, hj2⟩ := pub_of (E := E) (a := 110) (kg_r_ask JT_P hands) (N := mX8_ask) rfl (List.cons_ne_nil _ _) [x1, x2] rfl (fun q => by cases q) (Nat.le_of_ble_eq_true rfl) hh1 hj1
  exact ⟨r1, r2, h1, h2, q1, q2, mobj hh1, hh2, hj2, ⟨pRel_fr (pRel_fr hR.1 f1 (by decide +kernel)) f2 (by decide +kernel), cRel_fr (cRel_fr hR.2.1 f1 (by decide +kernel)) f2 (by decide +kernel), xj_fr (xj_fr hR.2.2 f1 (by decide +kernel)) f2 (by decide +kernel)⟩⟩
theorem lw_item (x1 x2 : Int32) (hh : HI HT h) (hj : JT h) (hR : RJ h) : ∃ (r1 r2 : Int32) (h1 h2 : List pC), Run prog E pV1 120 mX7_item [.ref 0, .int x1, .int x2] h (some (.int r1), h1, 0, 0) ∧ Run prog E pV1 120 mX8_item [.ref 110, .int x1, .int x2] h1 (some (.int r2), h2, 0, 0) ∧ (∃ o, pobj h1 110 = some o ∧ o.1 = 8) ∧ HI HT h2 ∧ JT h2 ∧ RJ h2 := by
  obtain ⟨r1, h1, q1, hh1, f1, hj1⟩ := pub_of (E := E) (a := 0) (kg_c_item JT_P hands) (N := mX7_item) rfl (List.cons_ne_nil _ _) [x1, x2] rfl (fun q => by cases q) (Nat.le_of_ble_eq_true rfl) hh hj
  obtain ⟨r2, h2, q2, hh2, f2, hj2⟩ := pub_of (E := E) (a := 110) (kg_r_item JT_P hands) (N := mX8_item) rfl (List.cons_ne_nil _ _) [x1, x2] rfl (fun q => by cases q) (Nat.le_of_ble_eq_true rfl) hh1 hj1
  exact ⟨r1, r2, h1, h2, q1, q2, mobj hh1, hh2, hj2, ⟨pRel_fr (pRel_fr hR.1 f1 (by decide +kernel)) f2 (by decide +kernel), cRel_fr (cRel_fr hR.2.1 f1 (by decide +kernel)) f2 (by decide +kernel), xj_fr (xj_fr hR.2.2 f1 (by decide +kernel)) f2 (by decide +kernel)⟩⟩
theorem lw_rest (x1 x2 : Int32) (hh : HI HT h) (hj : JT h) (hR : RJ h) : ∃ (r1 r2 : Int32) (h1 h2 : List pC), Run prog E pV1 120 mX7_rest [.ref 0, .int x1, .int x2] h (some (.int r1), h1, 0, 0) ∧ Run prog E pV1 120 mX8_rest [.ref 110, .int x1, .int x2] h1 (some (.int r2), h2, 0, 0) ∧ (∃ o, pobj h1 110 = some o ∧ o.1 = 8) ∧ HI HT h2 ∧ JT h2 ∧ RJ h2 := by
  obtain ⟨r1, h1, q1, hh1, f1, hj1⟩ := pub_of (E := E) (a := 0) (kg_c_rest JT_P hands) (N := mX7_rest) rfl (List.cons_ne_nil _ _) [x1, x2] rfl (fun q => by cases q) (Nat.le_of_ble_eq_true rfl) hh hj
  obtain ⟨r2, h2, q2, hh2, f2, hj2⟩ := pub_of (E := E) (a := 110) (kg_r_rest JT_P hands) (N := mX8_rest) rfl (List.cons_ne_nil _ _) [x1, x2] rfl (fun q => by cases q) (Nat.le_of_ble_eq_true rfl) hh1 hj1
  exact ⟨r1, r2, h1, h2, q1, q2, mobj hh1, hh2, hj2, ⟨pRel_fr (pRel_fr hR.1 f1 (by decide +kernel)) f2 (by decide +kernel), cRel_fr (cRel_fr hR.2.1 f1 (by decide +kernel)) f2 (by decide +kernel), xj_fr (xj_fr hR.2.2 f1 (by decide +kernel)) f2 (by decide +kernel)⟩⟩
theorem lw_tell (x1 : Int32) (hh : HI HT h) (hj : JT h) (hR : RJ h) : ∃ (r1 r2 : Int32) (h1 h2 : List pC), Run prog E pV1 120 mX7_tell [.ref 0, .int x1] h (some (.int r1), h1, 0, 0) ∧ Run prog E pV1 120 mX8_tell [.ref 110, .int x1] h1 (some (.int r2), h2, 0, 0) ∧ (∃ o, pobj h1 110 = some o ∧ o.1 = 8) ∧ HI HT h2 ∧ JT h2 ∧ RJ h2 := by
  obtain ⟨r1, h1, q1, hh1, f1, hj1⟩ := pub_of (E := E) (a := 0) (kg_c_tell JT_P hands) (N := mX7_tell) rfl (List.cons_ne_nil _ _) [x1] rfl (fun q => by cases q) (Nat.le_of_ble_eq_true rfl) hh hj
  obtain ⟨r2, h2, q2, hh2, f2, hj2⟩ := pub_of (E := E) (a := 110) (kg_r_tell JT_P hands) (N := mX8_tell) rfl (List.cons_ne_nil _ _) [x1] rfl (fun q => by cases q) (Nat.le_of_ble_eq_true rfl) hh1 hj1
  exact ⟨r1, r2, h1, h2, q1, q2, mobj hh1, hh2, hj2, ⟨pRel_fr (pRel_fr hR.1 f1 (by decide +kernel)) f2 (by decide +kernel), cRel_fr (cRel_fr hR.2.1 f1 (by decide +kernel)) f2 (by decide +kernel), xj_fr (xj_fr hR.2.2 f1 (by decide +kernel)) f2 (by decide +kernel)⟩⟩
theorem lw_check (x1 : Int32) (hh : HI HT h) (hj : JT h) (hR : RJ h) : ∃ (r1 r2 : Int32) (h1 h2 : List pC), Run prog E pV1 120 mX7_check [.ref 0, .int x1] h (some (.int r1), h1, 0, 0) ∧ Run prog E pV1 120 mX8_check [.ref 110, .int x1] h1 (some (.int r2), h2, 0, 0) ∧ (∃ o, pobj h1 110 = some o ∧ o.1 = 8) ∧ HI HT h2 ∧ JT h2 ∧ RJ h2 := by
  obtain ⟨r1, h1, q1, hh1, f1, hj1⟩ := pub_of (E := E) (a := 0) (kg_c_check JT_P hands) (N := mX7_check) rfl (List.cons_ne_nil _ _) [x1] rfl (fun q => by cases q) (Nat.le_of_ble_eq_true rfl) hh hj
  obtain ⟨r2, h2, q2, hh2, f2, hj2⟩ := pub_of (E := E) (a := 110) (hd_check hands) (N := mX8_check) rfl (List.cons_ne_nil _ _) [x1] rfl (fun q => by cases q) (Nat.le_of_ble_eq_true rfl) hh1 hj1
  exact ⟨r1, r2, h1, h2, q1, q2, mobj hh1, hh2, hj2, ⟨pRel_fr (pRel_fr hR.1 f1 (by decide +kernel)) f2 (by decide +kernel), cRel_fr (cRel_fr hR.2.1 f1 (by decide +kernel)) f2 (by decide +kernel), xj_fr (xj_fr hR.2.2 f1 (by decide +kernel)) f2 (by decide +kernel)⟩⟩
theorem lw_keep (hh : HI HT h) (hj : JT h) (hR : RJ h) : ∃ (r1 r2 : Int32) (h1 h2 : List pC), Run prog E pV1 120 mX7_keep [.ref 0] h (some (.int r1), h1, 0, 0) ∧ Run prog E pV1 120 mX8_keep [.ref 110] h1 (some (.int r2), h2, 0, 0) ∧ (∃ o, pobj h1 110 = some o ∧ o.1 = 8) ∧ HI HT h2 ∧ JT h2 ∧ RJ h2 := by
  obtain ⟨m, h1, m9, em, q1, hh1, hj1, f1, z, z5, z9⟩ := keep_all (E := E) hh hj hR
  obtain ⟨h2, q2, hh2, hj2, f2, k1, k2⟩ := keep_x (E := E) hh1 hj1
  have e0 : ri h 34 5 = ri h 111 0 := (sub_rel (R' := [((8, 34, 5), (0, 111, 0), 0, 9)]) hR.1 (by decide) _ List.mem_cons_self)
  have e1 : ri h1 111 0 = nI m := by
    rw [ri_fr (a := 111) (i := 0) f1 (by decide), ← e0]
    exact Int32.toInt_inj.mp (em.trans (nI_toInt (by omega)).symm)
  rw [e1] at q2
  have rr := cl_1 hR.2.1 (ty_34_5 hh hR).2
  refine ⟨_, _, h1, h2, q1, q2, mobj hh1, hh2, hj2, fun q hq => ?_, cl_i (fun k f hk hf b => ?_) (fun k f hk hf b => ?_) (fun b1 b2 => ?_), ⟨⟨by unfold tdB; rw [ri_fr (a := 34) (i := 7) f2 (by decide), ri_fr (a := 34) (i := 7) f1 (by decide)]; exact hR.2.2.1.1, by unfold tdB; rw [ri_fr (a := 48) (i := 7) f2 (by decide), z ((48, 7), (34, 7)) (List.mem_append_left _ (by decide +kernel))]; exact hR.2.2.1.1⟩, vb_fr (vb_fr hR.2.2.2 f1 (by decide +kernel)) f2 (by decide +kernel)⟩⟩
  · rcases List.mem_append.mp hq with hq | hq
    · rcases List.mem_cons.mp hq with rfl | hq
      · exact pRel_fr (pRel_fr (R := [((8, 34, 5), (0, 111, 0), 0, 9)]) (sub_rel hR.1 (by decide)) f1 (by decide +kernel)) f2 (by decide +kernel) _ List.mem_cons_self
      rcases List.mem_cons.mp hq with rfl | hq
      · show ri h2 48 5 = ri h2 112 0
        exact Int32.toInt_inj.mp (by rw [ri_fr (a := 48) (i := 5) f2 (by decide), z5, k1 0 (by decide), ri_fr (a := 111) (i := 0) f1 (by decide), ← (sub_rel (R' := [((8, 34, 5), (0, 111, 0), 0, 9)]) hR.1 (by decide) _ List.mem_cons_self), em])
      rcases List.mem_cons.mp hq with rfl | hq
      · show ri h2 0 9 = ri h2 110 3
        rw [ri_fr (a := 0) (i := 9) f2 (by decide), z9, k2]
      rcases List.mem_cons.mp hq with rfl | hq
      · exact pRel_fr (pRel_fr (R := [((8, 34, 9), (0, 111, 4), (-2147483648), 2147483647)]) (sub_rel hR.1 (by decide)) f1 (by decide +kernel)) f2 (by decide +kernel) _ List.mem_cons_self
      rcases List.mem_cons.mp hq with rfl | hq
      · exact pRel_fr (pRel_fr (R := [((8, 34, 7), (0, 111, 2), (-2147483648), 2147483647)]) (sub_rel hR.1 (by decide)) f1 (by decide +kernel)) f2 (by decide +kernel) _ List.mem_cons_self
      rcases List.mem_cons.mp hq with rfl | hq
      · show ri h2 48 7 = ri h2 112 2
        rw [ri_fr (a := 48) (i := 7) f2 (by decide), z ((48, 7), (34, 7)) (List.mem_append_left _ (by decide +kernel)), k1 2 (by decide), ri_fr (a := 111) (i := 2) f1 (by decide)]
        exact (sub_rel (R' := [((8, 34, 7), (0, 111, 2), (-2147483648), 2147483647)]) hR.1 (by decide) _ List.mem_cons_self)
      rcases List.mem_cons.mp hq with rfl | hq
      · exact pRel_fr (pRel_fr (R := [((5, 82, 1), (0, 114, 0), (-1), 1)]) (sub_rel hR.1 (by decide)) f1 (by decide +kernel)) f2 (by decide +kernel) _ List.mem_cons_self
      rcases List.mem_cons.mp hq with rfl | hq
      · exact pRel_fr (pRel_fr (R := [((5, 84, 1), (0, 114, 1), (-1), 1)]) (sub_rel hR.1 (by decide)) f1 (by decide +kernel)) f2 (by decide +kernel) _ List.mem_cons_self
      rcases List.mem_cons.mp hq with rfl | hq
      · exact pRel_fr (pRel_fr (R := [((5, 86, 1), (0, 114, 2), (-1), 1)]) (sub_rel hR.1 (by decide)) f1 (by decide +kernel)) f2 (by decide +kernel) _ List.mem_cons_self
      rcases List.mem_cons.mp hq with rfl | hq
      · exact pRel_fr (pRel_fr (R := [((5, 88, 1), (0, 114, 3), (-1), 1)]) (sub_rel hR.1 (by decide)) f1 (by decide +kernel)) f2 (by decide +kernel) _ List.mem_cons_self
      rcases List.mem_cons.mp hq with rfl | hq
      · exact pRel_fr (pRel_fr (R := [((5, 82, 2), (0, 115, 0), 0, 24)]) (sub_rel hR.1 (by decide)) f1 (by decide +kernel)) f2 (by decide +kernel) _ List.mem_cons_self
      rcases List.mem_cons.mp hq with rfl | hq
      · exact pRel_fr (pRel_fr (R := [((5, 84, 2), (0, 115, 1), 0, 24)]) (sub_rel hR.1 (by decide)) f1 (by decide +kernel)) f2 (by decide +kernel) _ List.mem_cons_self
      rcases List.mem_cons.mp hq with rfl | hq
      · exact pRel_fr (pRel_fr (R := [((5, 86, 2), (0, 115, 2), 0, 24)]) (sub_rel hR.1 (by decide)) f1 (by decide +kernel)) f2 (by decide +kernel) _ List.mem_cons_self
      obtain rfl := List.mem_singleton.mp hq
      exact pRel_fr (pRel_fr (R := [((5, 88, 2), (0, 115, 3), 0, 24)]) (sub_rel hR.1 (by decide)) f1 (by decide +kernel)) f2 (by decide +kernel) _ List.mem_cons_self
    · exact pRel_fr (pRel_fr (R := VLs) (rl_v hR.1) f1 (by decide +kernel)) f2 (by decide +kernel) q hq
  · have g : ∀ a i, 34 ≤ a → a ≤ 47 ∨ a = 111 → ri h2 a i = ri h a i := fun a i ha1 ha2 => by
      rw [ri_fr (a := a) (i := i) f2 (nin_iff.mpr (by simp only [WKe, List.forall_mem_cons]; exact ⟨by omega, by omega, fun _ h => absurd h List.not_mem_nil⟩)), ri_fr (a := a) (i := i) f1 (nin_iff.mpr (by simp only [List.forall_mem_cons]; exact ⟨by omega, by omega, by omega, by omega, by omega, fun _ h => absurd h List.not_mem_nil⟩))]
    rw [g _ _ (by omega) (Or.inl (by omega))] at b
    rw [g _ _ (by omega) (Or.inl (by omega)), g _ _ (by omega) (Or.inr rfl)]
    exact rr k f hk hf b
  · rw [ri_fr (a := 48) (i := 5) f2 (by decide), z5] at b
    rw [ri_fr (a := 48 + 5 + k) (i := f) f2 (nin_iff.mpr (by simp only [WKe, List.forall_mem_cons]; exact ⟨by omega, by omega, fun _ h => absurd h List.not_mem_nil⟩)), z _ (List.mem_append_right _ (mlr_mem (by omega) hf)), k1 _ (by omega), ri_fr (a := 111) (i := 21 + 6 * k + f) f1 (nin_iff.mpr (by simp only [List.forall_mem_cons]; exact ⟨by omega, by omega, by omega, by omega, by omega, fun _ h => absurd h List.not_mem_nil⟩))]
    exact rr k f hk hf (by omega)
  · rw [ri_fr (a := 48) (i := 9) f2 (by decide), z ((48, 9), (34, 9)) (List.mem_append_left _ (by decide +kernel)), k1 4 (by decide), ri_fr (a := 111) (i := 4) f1 (by decide)]
    exact (sub_rel (R' := [((8, 34, 9), (0, 111, 4), (-2147483648), 2147483647)]) hR.1 (by decide) _ List.mem_cons_self)
theorem lw_back (hh : HI HT h) (hj : JT h) (hR : RJ h) : ∃ (r1 r2 : Int32) (h1 h2 : List pC), Run prog E pV1 120 mX7_back [.ref 0] h (some (.int r1), h1, 0, 0) ∧ Run prog E pV1 120 mX8_back [.ref 110] h1 (some (.int r2), h2, 0, 0) ∧ (∃ o, pobj h1 110 = some o ∧ o.1 = 8) ∧ HI HT h2 ∧ JT h2 ∧ RJ h2 := by
  have t9 := ty_0_9 hh hR
  have e9 : ri h 0 9 = ri h 110 3 := (sub_rel (R' := [((9, 0, 9), (10, 110, 3), 0, 1)]) hR.1 (by decide) _ List.mem_cons_self)
  have r1 := cl_1 hR.2.1 (ty_34_5 hh hR).2
  have r2 := cl_2 hR.2.1 (ty_48_5 hh hR).2
  by_cases c9 : (ri h 0 9).toInt ≤ 0
  · have z9 : ri h 110 3 = 0 := by
      rw [← e9]
      exact Int32.toInt_inj.mp (by rw [show (0 : Int32).toInt = 0 by decide]; omega)
    obtain ⟨r0, h1, q1, hh1, hj1, f1, z3⟩ := ox_ok (E := E) (xs := []) (R' := ro_back0) (Q := fun r h' => r = some (.int (-1000000002))) ox_back0 rfl (fun _ h => absurd h List.not_mem_nil) hj hh (sub_rel hR.1 (by decide +kernel)) (pBd.cs t9.1 c9 pBd.nl) trivial (fun e he => by cases he) (fun σ Γ C Δ x r h' he ha _ hC _ hr => by
      obtain ⟨a1, u, a2, a3⟩ := ecV_ok he hC hr
      rw [a2, show u = -1000000002 from Int32.toInt_inj.mp ((zcn (a3 _ rfl)).trans (by decide))])
    obtain ⟨h2, q2, hh2, hj2, f2, k1, k2⟩ := back_x (E := E) hh1 hj1
    have e3 : ri h1 110 3 = 0 := (ri_fr f1 (by decide)).trans z9
    subst z3
    rw [if_pos e3] at q2
    have hR1 : pRel RL h1 := pRel_fr hR.1 f1 (by decide +kernel)
    have g : ∀ a i, ri h2 a i = ri h a i := fun a i => by
      by_cases ea : a = 111
      · subst ea
        rw [k1 e3 i]
        exact ri_fr f1 rfl
      · rw [ri_fr (a := a) (i := i) f2 (nin_iff.mpr (by simp only [WBa, List.forall_mem_cons]; exact ⟨by omega, fun _ h => absurd h List.not_mem_nil⟩))]
        exact ri_fr f1 rfl
    refine ⟨_, _, h1, h2, q1, q2, mobj hh1, hh2, hj2, fun q hq => ?_, cl_i (fun k f hk hf b => by rw [g] at b; rw [g, g]; exact r1 k f hk hf b) (fun k f hk hf b => by rw [g] at b; rw [g, g]; exact r2 k f hk hf b) (fun b1 b2 => by rw [g] at b1 b2; rw [g, g]; exact cl_3 hR.2.1 b1 b2), xj_fr (xj_fr hR.2.2 f1 (by decide +kernel)) f2 (by decide +kernel)⟩
    rcases List.mem_append.mp hq with hq | hq
    · rcases List.mem_cons.mp hq with rfl | hq
      · show ri h2 34 5 = ri h2 111 0
        rw [ri_fr (a := 34) (i := 5) f2 (by decide), k1 e3 0]
        exact hR1 _ (List.mem_append_left _ List.mem_cons_self)
      rcases List.mem_cons.mp hq with rfl | hq
      · exact pRel_fr (pRel_fr (R := [((8, 48, 5), (0, 112, 0), 0, 9)]) (sub_rel hR.1 (by decide)) f1 (by decide +kernel)) f2 (by decide +kernel) _ List.mem_cons_self
      rcases List.mem_cons.mp hq with rfl | hq
      · exact pRel_fr (pRel_fr (R := [((9, 0, 9), (10, 110, 3), 0, 1)]) (sub_rel hR.1 (by decide)) f1 (by decide +kernel)) f2 (by decide +kernel) _ List.mem_cons_self
      rcases List.mem_cons.mp hq with rfl | hq
      · show ri h2 34 9 = ri h2 111 4
        rw [ri_fr (a := 34) (i := 9) f2 (by decide), k1 e3 4]
        exact hR1 _ (List.mem_append_left _ (List.mem_cons_of_mem _ (List.mem_cons_of_mem _ (List.mem_cons_of_mem _ List.mem_cons_self))))
      rcases List.mem_cons.mp hq with rfl | hq
      · show ri h2 34 7 = ri h2 111 2
        rw [ri_fr (a := 34) (i := 7) f2 (by decide), k1 e3 2]
        exact hR1 _ (List.mem_append_left _ (List.mem_cons_of_mem _ (List.mem_cons_of_mem _ (List.mem_cons_of_mem _ (List.mem_cons_of_mem _ List.mem_cons_self)))))
      rcases List.mem_cons.mp hq with rfl | hq
      · exact pRel_fr (pRel_fr (R := [((8, 48, 7), (0, 112, 2), (-2147483648), 2147483647)]) (sub_rel hR.1 (by decide)) f1 (by decide +kernel)) f2 (by decide +kernel) _ List.mem_cons_self
      rcases List.mem_cons.mp hq with rfl | hq
      · exact pRel_fr (pRel_fr (R := [((5, 82, 1), (0, 114, 0), (-1), 1)]) (sub_rel hR.1 (by decide)) f1 (by decide +kernel)) f2 (by decide +kernel) _ List.mem_cons_self
      rcases List.mem_cons.mp hq with rfl | hq
      · exact pRel_fr (pRel_fr (R := [((5, 84, 1), (0, 114, 1), (-1), 1)]) (sub_rel hR.1 (by decide)) f1 (by decide +kernel)) f2 (by decide +kernel) _ List.mem_cons_self
      rcases List.mem_cons.mp hq with rfl | hq
      · exact pRel_fr (pRel_fr (R := [((5, 86, 1), (0, 114, 2), (-1), 1)]) (sub_rel hR.1 (by decide)) f1 (by decide +kernel)) f2 (by decide +kernel) _ List.mem_cons_self
      rcases List.mem_cons.mp hq with rfl | hq
      · exact pRel_fr (pRel_fr (R := [((5, 88, 1), (0, 114, 3), (-1), 1)]) (sub_rel hR.1 (by decide)) f1 (by decide +kernel)) f2 (by decide +kernel) _ List.mem_cons_self
      rcases List.mem_cons.mp hq with rfl | hq
      · exact pRel_fr (pRel_fr (R := [((5, 82, 2), (0, 115, 0), 0, 24)]) (sub_rel hR.1 (by decide)) f1 (by decide +kernel)) f2 (by decide +kernel) _ List.mem_cons_self
      rcases List.mem_cons.mp hq with rfl | hq
      · exact pRel_fr (pRel_fr (R := [((5, 84, 2), (0, 115, 1), 0, 24)]) (sub_rel hR.1 (by decide)) f1 (by decide +kernel)) f2 (by decide +kernel) _ List.mem_cons_self
      rcases List.mem_cons.mp hq with rfl | hq
      · exact pRel_fr (pRel_fr (R := [((5, 86, 2), (0, 115, 2), 0, 24)]) (sub_rel hR.1 (by decide)) f1 (by decide +kernel)) f2 (by decide +kernel) _ List.mem_cons_self
      obtain rfl := List.mem_singleton.mp hq
      exact pRel_fr (pRel_fr (R := [((5, 88, 2), (0, 115, 3), 0, 24)]) (sub_rel hR.1 (by decide)) f1 (by decide +kernel)) f2 (by decide +kernel) _ List.mem_cons_self
    · exact (by rw [g, g]; exact rl_g hR.1 q hq)
  · obtain ⟨m, h1, m9, em, q1, hh1, hj1, f1, z, z5⟩ := backy_all (E := E) hh hj hR (by omega)
    obtain ⟨h2, q2, hh2, hj2, f2, k1, k2⟩ := back_x (E := E) hh1 hj1
    have n3 : ¬ ri h1 110 3 = 0 := fun e => c9 (by
      rw [e9, ← ri_fr (a := 110) (i := 3) f1 (by decide), e]
      decide)
    have e8 : ri h 48 5 = ri h 112 0 := (sub_rel (R' := [((8, 48, 5), (0, 112, 0), 0, 9)]) hR.1 (by decide) _ List.mem_cons_self)
    have e1' : ri h1 112 0 = ri h 112 0 := ri_fr f1 (by decide)
    have e1 : ri h1 112 0 = nI m := by
      rw [e1', ← e8]
      exact Int32.toInt_inj.mp (em.trans (nI_toInt (by omega)).symm)
    rw [if_neg n3, e1] at q2
    refine ⟨_, _, h1, h2, q1, q2, mobj hh1, hh2, hj2, fun q hq => ?_, cl_i (fun k f hk hf b => ?_) (fun k f hk hf b => ?_) (fun b1 b2 => ?_), ⟨⟨by unfold tdB; rw [ri_fr (a := 34) (i := 7) f2 (by decide), z ((34, 7), (48, 7)) (List.mem_append_left _ (by decide +kernel))]; exact hR.2.2.1.2, by unfold tdB; rw [ri_fr (a := 48) (i := 7) f2 (by decide), ri_fr (a := 48) (i := 7) f1 (by decide)]; exact hR.2.2.1.2⟩, vb_fr (vb_fr hR.2.2.2 f1 (by decide +kernel)) f2 (by decide +kernel)⟩⟩
    · rcases List.mem_append.mp hq with hq | hq
      · rcases List.mem_cons.mp hq with rfl | hq
        · show ri h2 34 5 = ri h2 111 0
          exact Int32.toInt_inj.mp (by rw [ri_fr (a := 34) (i := 5) f2 (by decide), z5, k2 n3 0 (by decide), e1', ← e8, em])
        rcases List.mem_cons.mp hq with rfl | hq
        · exact pRel_fr (pRel_fr (R := [((8, 48, 5), (0, 112, 0), 0, 9)]) (sub_rel hR.1 (by decide)) f1 (by decide +kernel)) f2 (by decide +kernel) _ List.mem_cons_self
        rcases List.mem_cons.mp hq with rfl | hq
        · exact pRel_fr (pRel_fr (R := [((9, 0, 9), (10, 110, 3), 0, 1)]) (sub_rel hR.1 (by decide)) f1 (by decide +kernel)) f2 (by decide +kernel) _ List.mem_cons_self
        rcases List.mem_cons.mp hq with rfl | hq
        · show ri h2 34 9 = ri h2 111 4
          rw [ri_fr (a := 34) (i := 9) f2 (by decide), z ((34, 9), (48, 9)) (List.mem_append_left _ (by decide +kernel)), k2 n3 4 (by decide), ri_fr (a := 112) (i := 4) f1 (by decide)]
          exact cl_3 hR.2.1 (by omega) t9.2
        rcases List.mem_cons.mp hq with rfl | hq
        · show ri h2 34 7 = ri h2 111 2
          rw [ri_fr (a := 34) (i := 7) f2 (by decide), z ((34, 7), (48, 7)) (List.mem_append_left _ (by decide +kernel)), k2 n3 2 (by decide), ri_fr (a := 112) (i := 2) f1 (by decide)]
          exact (sub_rel (R' := [((8, 48, 7), (0, 112, 2), (-2147483648), 2147483647)]) hR.1 (by decide) _ List.mem_cons_self)
        rcases List.mem_cons.mp hq with rfl | hq
        · exact pRel_fr (pRel_fr (R := [((8, 48, 7), (0, 112, 2), (-2147483648), 2147483647)]) (sub_rel hR.1 (by decide)) f1 (by decide +kernel)) f2 (by decide +kernel) _ List.mem_cons_self
        rcases List.mem_cons.mp hq with rfl | hq
        · exact pRel_fr (pRel_fr (R := [((5, 82, 1), (0, 114, 0), (-1), 1)]) (sub_rel hR.1 (by decide)) f1 (by decide +kernel)) f2 (by decide +kernel) _ List.mem_cons_self
        rcases List.mem_cons.mp hq with rfl | hq
        · exact pRel_fr (pRel_fr (R := [((5, 84, 1), (0, 114, 1), (-1), 1)]) (sub_rel hR.1 (by decide)) f1 (by decide +kernel)) f2 (by decide +kernel) _ List.mem_cons_self
        rcases List.mem_cons.mp hq with rfl | hq
        · exact pRel_fr (pRel_fr (R := [((5, 86, 1), (0, 114, 2), (-1), 1)]) (sub_rel hR.1 (by decide)) f1 (by decide +kernel)) f2 (by decide +kernel) _ List.mem_cons_self
        rcases List.mem_cons.mp hq with rfl | hq
        · exact pRel_fr (pRel_fr (R := [((5, 88, 1), (0, 114, 3), (-1), 1)]) (sub_rel hR.1 (by decide)) f1 (by decide +kernel)) f2 (by decide +kernel) _ List.mem_cons_self
        rcases List.mem_cons.mp hq with rfl | hq
        · exact pRel_fr (pRel_fr (R := [((5, 82, 2), (0, 115, 0), 0, 24)]) (sub_rel hR.1 (by decide)) f1 (by decide +kernel)) f2 (by decide +kernel) _ List.mem_cons_self
        rcases List.mem_cons.mp hq with rfl | hq
        · exact pRel_fr (pRel_fr (R := [((5, 84, 2), (0, 115, 1), 0, 24)]) (sub_rel hR.1 (by decide)) f1 (by decide +kernel)) f2 (by decide +kernel) _ List.mem_cons_self
        rcases List.mem_cons.mp hq with rfl | hq
        · exact pRel_fr (pRel_fr (R := [((5, 86, 2), (0, 115, 2), 0, 24)]) (sub_rel hR.1 (by decide)) f1 (by decide +kernel)) f2 (by decide +kernel) _ List.mem_cons_self
        obtain rfl := List.mem_singleton.mp hq
        exact pRel_fr (pRel_fr (R := [((5, 88, 2), (0, 115, 3), 0, 24)]) (sub_rel hR.1 (by decide)) f1 (by decide +kernel)) f2 (by decide +kernel) _ List.mem_cons_self
      · exact pRel_fr (pRel_fr (R := VLs) (rl_v hR.1) f1 (by decide +kernel)) f2 (by decide +kernel) q hq
    · rw [ri_fr (a := 34) (i := 5) f2 (by decide), z5] at b
      rw [ri_fr (a := 34 + 5 + k) (i := f) f2 (nin_iff.mpr (by simp only [WBa, List.forall_mem_cons]; exact ⟨by omega, fun _ h => absurd h List.not_mem_nil⟩)), z _ (List.mem_append_right _ (mlr_mem (by omega) hf)), k2 n3 _ (by omega), ri_fr (a := 112) (i := 21 + 6 * k + f) f1 (nin_iff.mpr (by simp only [List.forall_mem_cons]; exact ⟨by omega, by omega, by omega, by omega, fun _ h => absurd h List.not_mem_nil⟩))]
      exact r2 k f hk hf (by omega)
    · have g : ∀ a i, 48 ≤ a → a ≤ 61 ∨ a = 112 → ri h2 a i = ri h a i := fun a i ha1 ha2 => by
        rw [ri_fr (a := a) (i := i) f2 (nin_iff.mpr (by simp only [WBa, List.forall_mem_cons]; exact ⟨by omega, fun _ h => absurd h List.not_mem_nil⟩)), ri_fr (a := a) (i := i) f1 (nin_iff.mpr (by simp only [List.forall_mem_cons]; exact ⟨by omega, by omega, by omega, by omega, fun _ h => absurd h List.not_mem_nil⟩))]
      rw [g _ _ (by omega) (Or.inl (by omega))] at b
      rw [g _ _ (by omega) (Or.inl (by omega)), g _ _ (by omega) (Or.inr rfl)]
      exact r2 k f hk hf b
    · rw [ri_fr (a := 48) (i := 9) f2 (by decide), ri_fr (a := 48) (i := 9) f1 (by decide), ri_fr (a := 112) (i := 4) f2 (by decide), ri_fr (a := 112) (i := 4) f1 (by decide)]
      exact cl_3 hR.2.1 (by omega) t9.2
theorem lw_count (x1 : Int32) (hh : HI HT h) (hj : JT h) (hR : RJ h) : ∃ (r1 r2 : Int32) (h1 h2 : List pC), Run prog E pV1 120 mX7_count [.ref 0, .int x1] h (some (.int r1), h1, 0, 0) ∧ Run prog E pV1 120 mX8_count [.ref 110, .int x1] h1 (some (.int r2), h2, 0, 0) ∧ (∃ o, pobj h1 110 = some o ∧ o.1 = 8) ∧ HI HT h2 ∧ JT h2 ∧ RJ h2 := by
  obtain ⟨r1, h1, q1, hh1, f1, hj1⟩ := pub_of (E := E) (a := 0) (kg_c_count JT_P hands) (N := mX7_count) rfl (List.cons_ne_nil _ _) [x1] rfl (fun q => by cases q) (Nat.le_of_ble_eq_true rfl) hh hj
  obtain ⟨r2, h2, q2, hh2, f2, hj2⟩ := pub_of (E := E) (a := 110) (kg_r_count JT_P hands) (N := mX8_count) rfl (List.cons_ne_nil _ _) [x1] rfl (fun q => by cases q) (Nat.le_of_ble_eq_true rfl) hh1 hj1
  exact ⟨r1, r2, h1, h2, q1, q2, mobj hh1, hh2, hj2, ⟨pRel_fr (pRel_fr hR.1 f1 (by decide +kernel)) f2 (by decide +kernel), cRel_fr (cRel_fr hR.2.1 f1 (by decide +kernel)) f2 (by decide +kernel), xj_fr (xj_fr hR.2.2 f1 (by decide +kernel)) f2 (by decide +kernel)⟩⟩
end LWS
