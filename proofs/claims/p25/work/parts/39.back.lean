/-! ===== the reference's calls that lay by and back ===== -/
section BCK
variable {E : pX} {V : pV} {d : Nat} {h h1 h2 : List pC}
def WKs : aW := [(125, 125, 0, 127), (126, 126, 0, 99)]
def WS : aW := [(111, 111, 0, 0), (111, 111, 2, 74)]
def WL : aW := [(123, 123, 0, 74)]
theorem nin_iff {W : aW} {a i : Nat} : inW W a i = false ↔ ∀ b ∈ W, ¬ (b.1 ≤ a ∧ a ≤ b.2.1 ∧ b.2.2.1 ≤ i ∧ i ≤ b.2.2.2) := by
  unfold inW
  rw [List.any_eq_false]
  constructor
  · intro h b hb hq
    exact h b hb (by simp only [Bool.and_eq_true, decide_eq_true_eq]; omega)
  · intro h b hb hq
    simp only [Bool.and_eq_true, decide_eq_true_eq] at hq
    exact h b hb (by omega)
def tb0 : aTb := fun _ _ => none
/-- behind laysBy, or behind laysBack: all is as it was in h, and the row beside holds the first 75 -/
def LB (h h' : List pC) : Prop := HI HT h' ∧ JT h' ∧ Fr (WKs ++ WL) h h' ∧ ∀ j : Nat, j < 75 → ri h' 123 j = ri h 111 j
theorem HT111 : HT[111]? = some (.inl (3075, (HT.getD 112 (.inl (0, []))).elim (fun t => t.2) (fun _ => []))) := by rfl
theorem HT112 : HT[112]? = some (.inl (3075, (HT.getD 112 (.inl (0, []))).elim (fun t => t.2) (fun _ => []))) := by rfl
theorem HT113 : HT[113]? = some (.inl (3075, (HT.getD 112 (.inl (0, []))).elim (fun t => t.2) (fun _ => []))) := by rfl
theorem HT123 : HT[123]? = some (.inl (75, (HT.getD 112 (.inl (0, []))).elim (fun t => t.2) (fun _ => []))) := by rfl
theorem HT110 : ∃ xs, HT[110]? = some (.inr (.inr (8, xs))) ∧ xs[0]? = some (5, 0, 0, 111) ∧ xs[1]? = some (5, 0, 0, 112) ∧ xs[2]? = some (5, 0, 0, 113) ∧ xs[13]? = some (5, 0, 0, 123) := ⟨_, rfl, rfl, rfl, rfl, rfl⟩
theorem ri_ct {a j : Nat} (hc : ct h2 a j = ct h1 a j) : ri h2 a j = ri h1 a j := by
  unfold ri
  rw [hc]
theorem ct_ri {a n j : Nat} {f : Nat → Int32} (hp : pint h a = some (n, f)) (hj : j < n) : ct h a j = some (.int (f j)) := by
  unfold ct
  rw [pint_at hp]
  dsimp only
  rw [if_pos hj]
theorem laysBy_g (hh : HI HT h) (hj : JT h) : ∃ h', Run prog E V (d + 1) mX8_laysBy [.ref 110] h (none, h', 0, 0) ∧ LB h h' := by
  obtain ⟨xs, t0, t1, -, -, t4⟩ := HT110
  obtain ⟨fs, ho, hF⟩ := hi_obj hh t0
  obtain ⟨f, p1, r1, s1⟩ := hi_int hh HT111
  obtain ⟨g, p2, r2, s2⟩ := hi_int hh HT123
  have hr := laysBy_x (E := E) (V := V) (d := d) (hF.ref t1) (hF.ref t4) ho p1 p2
  obtain ⟨k1, k2, k3, k4⟩ := setI_ok (g := cpN 75 f g) hh HT123 p2 (fun s hs i i1 i2 i3 => by
    unfold cpN
    rw [if_pos i3]
    exact s1 s hs i i1 i2 (by omega))
  have hf : Fr (WKs ++ WL) h (h.set 123 (.inl (75, cpN 75 f g))) := fun a i hi => by
    by_cases e : a = 123
    · subst e
      refine k4 i (Or.inl (fun hl => ?_))
      have : inW (WKs ++ WL) 123 i = true := List.any_eq_true.mpr ⟨(123, 123, 0, 74), by decide, by simp only [Bool.and_eq_true, decide_eq_true_eq]; omega⟩
      rw [this] at hi
      cases hi
    · exact k3 a i e
  refine ⟨_, hr, k1, JT_P _ _ _ (by decide) hf hj, hf, fun j hj => ?_⟩
  rw [k2 j hj, r1 j (by omega)]
  exact if_pos hj
theorem laysBack_g (hb : LB h h1) (hf : Fr (WKs ++ WS) h1 h2) (hh : HI HT h2) : ∃ h', Run prog E V (d + 1) mX8_laysBack [.ref 110] h2 (none, h', 0, 0) ∧ LB h h' := by
  obtain ⟨b1, b2, b3, b4⟩ := hb
  obtain ⟨xs, t0, t1, -, -, t4⟩ := HT110
  obtain ⟨fs, ho, hF⟩ := hi_obj hh t0
  obtain ⟨f, p1, r1, s1⟩ := hi_int hh HT111
  obtain ⟨g, p2, r2, s2⟩ := hi_int hh HT123
  obtain ⟨f1, q1, u1, -⟩ := hi_int b1 HT111
  have hr := laysBack_x (E := E) (V := V) (d := d) (hF.ref t4) (hF.ref t1) ho p2 p1
  obtain ⟨k1, k2, k3, k4⟩ := setI_ok (g := cpN 75 g f) hh HT111 p1 (fun s hs i i1 i2 i3 => by
    unfold cpN
    split
    · rename_i h75
      exact s2 s hs i i1 i2 h75
    · exact s1 s hs i i1 i2 i3)
  have g75 : ∀ j : Nat, j < 75 → g j = ri h 111 j := fun j hj => by
    rw [← r2 j hj, ri_fr (a := 123) (i := j) hf (nin_iff.mpr (by
      simp only [WKs, WS, WL, List.cons_append, List.nil_append, List.forall_mem_cons]
      exact ⟨by omega, by omega, by omega, by omega, fun _ h => absurd h List.not_mem_nil⟩))]
    exact b4 j hj
  have c111 : ∀ i : Nat, ct (h2.set 111 (.inl (3075, cpN 75 g f))) 111 i = ct h 111 i := fun i => by
    have hb111 : ∀ i, ct h1 111 i = ct h 111 i := fun i => b3 111 i (nin_iff.mpr (by
      simp only [WKs, WS, WL, List.cons_append, List.nil_append, List.forall_mem_cons]
      exact ⟨by omega, by omega, by omega, fun _ h => absurd h List.not_mem_nil⟩))
    by_cases hi : i < 75
    · have e1 := ct_ri (h := h2.set 111 (.inl (3075, cpN 75 g f))) (pint_set (pint_lt p1)) (show i < 3075 by omega)
      have e2 := ct_ri q1 (show i < 3075 by omega)
      rw [e1, ← hb111 i, e2]
      unfold cpN
      rw [if_pos hi, g75 i hi, ← u1 i (by omega), ri_ct (hb111 i)]
    · rw [k4 i (Or.inr (if_neg hi)), hf 111 i (nin_iff.mpr (by
      simp only [WKs, WS, WL, List.cons_append, List.nil_append, List.forall_mem_cons]
      exact ⟨by omega, by omega, by omega, by omega, fun _ h => absurd h List.not_mem_nil⟩))]
      exact hb111 i
  have hfr : Fr (WKs ++ WL) h (h2.set 111 (.inl (3075, cpN 75 g f))) := fun a i hi => by
    by_cases e : a = 111
    · subst e
      exact c111 i
    · have hi2 := nin_iff.mp hi
      simp only [WKs, WL, List.cons_append, List.nil_append, List.forall_mem_cons] at hi2
      obtain ⟨n1, n2, -⟩ := hi2
      rw [k3 a i e, hf a i (nin_iff.mpr (by
      simp only [WKs, WS, WL, List.cons_append, List.nil_append, List.forall_mem_cons]
      exact ⟨by omega, by omega, by omega, by omega, fun _ h => absurd h List.not_mem_nil⟩))]
      exact b3 a i hi
  have c112 : ∀ j, ri (h2.set 111 (.inl (3075, cpN 75 g f))) 112 j = ri h1 112 j := fun j => ri_ct ((k3 112 j (by decide)).trans (hf 112 j (nin_iff.mpr (by
      simp only [WKs, WS, WL, List.cons_append, List.nil_append, List.forall_mem_cons]
      exact ⟨by omega, by omega, by omega, by omega, fun _ h => absurd h List.not_mem_nil⟩))))
  have h111 : ∀ j, ri (h2.set 111 (.inl (3075, cpN 75 g f))) 111 j = ri h1 111 j := fun j => by
    rw [ri_ct (c111 j)]
    exact (ri_ct (b3 111 j (nin_iff.mpr (by
      simp only [WKs, WS, WL, List.cons_append, List.nil_append, List.forall_mem_cons]
      exact ⟨by omega, by omega, by omega, fun _ h => absurd h List.not_mem_nil⟩)))).symm
  refine ⟨_, hr, k1, ⟨TI_eq (h111 1) (fun j _ _ => h111 j) b2.1, TI_eq (c112 1) (fun j _ _ => c112 j) b2.2⟩, hfr, fun j hj => ?_⟩
  rw [ri_ct (k3 123 j (by decide)), r2 j hj]
  exact g75 j hj
end BCK
