/-! ===== a row of a sheet is filled with 0 ===== -/
section FIL
variable {E : pX} {V : pV} {d : Nat} {h : List pC}
theorem fill_loop {a : Nat} : ∀ (m K : Nat) (h : List pC) (f : Nat → Int32), K + m = 24 → pint h a = some (24, f) → ∃ f' : Nat → Int32, RA prog E V (d + 1) mJ7_fill_53178 5 [some (.ref a), some (.int 0), some (.int (nI K)), some (.int 24)] [] h (none, h.set a (.inl (24, f')), 0, 0) := by
  intro m
  induction m with
  | zero =>
    intro K h f hK ho
    obtain rfl : K = 24 := by omega
    refine ⟨f, ?_⟩
    refine RA.steps 2 rfl ?_
    refine RA.if2T rfl rfl ?_
    exact RA.to (RA.ret rfl rfl) (by rw [set_sameI ho])
  | succ m ih =>
    intro K h f hK ho
    have hK2 : K < 24 := by omega
    have hj : 0 ≤ nI K ∧ (nI K).toNatClampNeg < 24 := ⟨nI_pos' (by omega), by rw [nI_clamp (show K < 2 ^ 31 by omega)]; omega⟩
    obtain ⟨f', hr⟩ := ih (K + 1) (h.set a (.inl (24, va_up f (nI K).toNatClampNeg 0))) _ (by omega) (pint_set (pint_lt ho))
    rw [List.set_set] at hr
    refine ⟨f', ?_⟩
    refine RA.steps 2 rfl ?_
    refine RA.if2F rfl (decide_eq_false (show ¬ nI 24 ≤ nI K from nI_ge hK2 (by omega))) ?_
    refine RA.steps 3 rfl ?_
    refine RA.iast rfl ho hj ?_
    refine RA.iinc rfl rfl (nI_1 K) rfl ?_
    refine RA.steps 1 rfl ?_
    exact hr
theorem fill_run {a : Nat} {f : Nat → Int32} (ho : pint h a = some (24, f)) : ∃ f' : Nat → Int32, Run prog E V (d + 1) mJ7_fill_53178 [.ref a, .int 0] h (none, h.set a (.inl (24, f')), 0, 0) := by
  obtain ⟨f', hr⟩ := fill_loop (E := E) (V := V) (d := d) 24 0 h f rfl ho
  refine ⟨f', Nat.le_of_ble_eq_true rfl, ⟨_, _, rfl⟩, ?_⟩
  refine RA.steps 3 rfl ?_
  refine RA.alen rfl ho ?_
  refine RA.steps 1 rfl ?_
  exact hr
theorem sh_loop {fs : List Value} {g : Nat → Int32} {B5 B6 S : Nat} {so n w : Int32} (h5 : fs[5]? = some (.ref B5)) (h6 : fs[6]? = some (.ref B6)) (hne : B6 ≠ B5) (h6n : B6 ≠ 110) (hS : S < 4) (hw : g S = w) : ∀ (m K : Nat) (h : List pC) (f : Nat → Int32), K + m = 24 → pobj h 110 = some (8, fs) → pint h B5 = some (4, g) → pint h B6 = some (96, f) →
    ∃ h' : List pC, RA prog E V (d + 1) mX8_sheet 38 [some (.ref 110), some (.int (nI S)), some (.int so), some (.int n), some (.int (nI K))] [] h (some (.int w), h', 0, 0) := by
  intro m
  induction m with
  | zero =>
    intro K h f hK ho hb5 hb6
    obtain rfl : K = 24 := by omega
    refine ⟨h, ?_⟩
    refine RA.steps 2 rfl ?_
    refine RA.if2T rfl rfl ?_
    refine RA.steps 1 rfl ?_
    refine RA.getf rfl ho rfl h5 ?_
    refine RA.steps 1 rfl ?_
    refine RA.iald (w := w) rfl hb5 ⟨nI_pos' (by omega), by rw [nI_clamp (show S < 2 ^ 31 by omega)]; exact hS⟩ (by rw [nI_clamp (show S < 2 ^ 31 by omega)]; exact hw) ?_
    exact RA.ret rfl rfl
  | succ m ih =>
    intro K h f hK ho hb5 hb6
    have hK2 : K < 24 := by omega
    have e : 24 * nI S = nI (24 * S) := by
      rcases (show S = 0 ∨ S = 1 ∨ S = 2 ∨ S = 3 by omega) with rfl | rfl | rfl | rfl <;> decide
    have hj : 0 ≤ 24 * nI S + nI K ∧ (24 * nI S + nI K).toNatClampNeg < 96 := by
      rw [e, nI_add]
      exact ⟨nI_pos' (by omega), by rw [nI_clamp (show 24 * S + K < 2 ^ 31 by omega)]; omega⟩
    obtain ⟨h', hr⟩ := ih (K + 1) (h.set B6 (.inl (96, va_up f (24 * nI S + nI K).toNatClampNeg 0))) _ (by omega) ((pobj_ne h6n).trans ho) ((pint_ne hne).trans hb5) (pint_set (pint_lt hb6))
    refine ⟨h', ?_⟩
    refine RA.steps 2 rfl ?_
    refine RA.if2F rfl (decide_eq_false (show ¬ nI 24 ≤ nI K from nI_ge hK2 (by omega))) ?_
    refine RA.steps 1 rfl ?_
    refine RA.getf rfl ho rfl h6 ?_
    refine RA.steps 6 rfl ?_
    refine RA.iast rfl hb6 hj ?_
    refine RA.iinc rfl rfl (nI_1 K) rfl ?_
    refine RA.steps 1 rfl ?_
    exact hr
theorem sh_run {fs : List Value} {f g : Nat → Int32} {B5 B6 S : Nat} {so n w : Int32} (ho : pobj h 110 = some (8, fs)) (h5 : fs[5]? = some (.ref B5)) (h6 : fs[6]? = some (.ref B6)) (hb5 : pint h B5 = some (4, g)) (hb6 : pint h B6 = some (96, f)) (hw : g S = w) (hne : B6 ≠ B5) (h6n : B6 ≠ 110) (hS : S < 4) : ∃ h' : List pC, RA prog E V (d + 1) mX8_sheet 38 [some (.ref 110), some (.int (nI S)), some (.int so), some (.int n), some (.int 0)] [] h (some (.int w), h', 0, 0) :=
  sh_loop h5 h6 hne h6n hS hw 24 0 h f rfl ho hb5 hb6
end FIL
