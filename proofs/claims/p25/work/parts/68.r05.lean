/-! ===== a rubbing by its number, or none ===== -/
section NON
variable {E : pX} {h : List pC}
/-- no rubbing of that number -/
def NoR (h : List pC) (x : Int32) : Prop := x.toInt < 0 ∨ (ri h 34 5).toInt ≤ x.toInt
theorem one_n {d : Nat} {x : Int32} (hh : HI HT h) (hn : NoR h x) : Run prog E pV1 (d + 1) mX6_one [.ref 34, .int x] h (some .null, h, 0, 0) := by
  obtain ⟨fs, ho, hm5, -, -⟩ := w_obj hh
  refine ⟨Nat.le_of_ble_eq_true rfl, ⟨_, _, rfl⟩, ?_⟩
  show RA prog E pV1 (d + 1) mX6_one 0 [some (.ref 34), some (.int x)] [] h (some .null, h, 0, 0)
  refine RA.steps (i' := 1) (L' := [some (.ref 34), some (.int x)]) (st' := [.int x]) (h' := h) 1 rfl ?_
  by_cases c : x < 0
  · refine RA.if1T rfl (decide_eq_true c) ?_
    refine RA.steps (i' := 17) (L' := [some (.ref 34), some (.int x)]) (st' := [.null]) (h' := h) 1 rfl ?_
    exact RA.ret rfl rfl
  have c' : ¬ x.toInt < 0 := fun q => c (Int32.lt_iff_toInt_lt.mpr q)
  have hx : ri h 34 5 ≤ x := Int32.le_iff_toInt_le.mpr (by unfold NoR at hn; omega)
  refine RA.if1F rfl (decide_eq_false c) ?_
  refine RA.steps (i' := 4) (L' := [some (.ref 34), some (.int x)]) (st' := [.ref 34, .int x]) (h' := h) 2 rfl ?_
  refine RA.getf rfl ho rfl hm5 ?_
  refine RA.if2T rfl (decide_eq_true hx) ?_
  refine RA.steps (i' := 17) (L' := [some (.ref 34), some (.int x)]) (st' := [.null]) (h' := h) 1 rfl ?_
  exact RA.ret rfl rfl
theorem isr_n {d : Nat} {x : Int32} (hh : HI HT h) (hq : ri h 34 5 = ri h 111 0) (hn : NoR h x) : Run prog E pV1 (d + 2) mX8_isRubbing [.ref 110, .int x] h (some (.int 0), h, 0, 0) := by
  obtain ⟨fs, ho, g0, -⟩ := m_ob hh
  obtain ⟨f, p1, u1, -⟩ := hi_int hh HT111
  have e0 : f 0 = ri h 111 0 := (u1 0 (by decide)).symm
  have b := (ri_ty (k := 0) (a := 111) (i := 0) (p := (0, 9)) hh rfl).2
  have s1 : (ri h 111 0 - 1).toInt = (ri h 111 0).toInt - 1 := by
    rw [Int32.toInt_sub, show (1 : Int32).toInt = 1 by decide]
    exact bm32 (by unfold mI; omega) (by unfold MI; omega)
  refine ⟨Nat.le_of_ble_eq_true rfl, ⟨_, _, rfl⟩, ?_⟩
  show RA prog E pV1 (d + 2) mX8_isRubbing 0 [some (.ref 110), some (.int x)] [] h (some (.int 0), h, 0, 0)
  refine RA.steps (i' := 4) (L' := [some (.ref 110), some (.int x)]) (st' := [.ref 110, .long (Int32.toInt64 0), .long x.toInt64]) (h' := h) 4 rfl ?_
  refine RA.getf rfl ho rfl g0 ?_
  refine RA.steps 1 rfl ?_
  refine RA.iald rfl p1 ⟨by decide, Nat.le_of_ble_eq_true rfl⟩ e0 ?_
  refine RA.steps (i' := 10) (L' := [some (.ref 110), some (.int x)]) (st' := [.long (ri h 111 0 - 1).toInt64, .long (Int32.toInt64 0), .long x.toInt64]) (h' := h) 3 rfl ?_
  refine RA.call0 (N := mX8_isIn) (as := [.long x.toInt64, .long (Int32.toInt64 0), .long (ri h 111 0 - 1).toInt64]) (rest := []) rfl rfl rfl (isIn_f (fun q => ?_)) ?_
  · have q1 : (0 : Int) ≤ x.toInt := Int32.le_iff_toInt_le.mp q.1
    have q2 := Int32.le_iff_toInt_le.mp q.2
    unfold NoR at hn
    rw [hq] at hn
    omega
  · exact RA.ret rfl rfl
theorem rub_dec (x : Int32) (hh : HI HT h) : (∃ k : Nat, k < 9 ∧ x = nI k ∧ (k : Int) < (ri h 34 5).toInt) ∨ NoR h x := by
  have b := (ri_ty (k := 8) (a := 34) (i := 5) (p := (0, 9)) hh rfl).2
  dsimp only at b
  by_cases c : x.toInt < 0
  · exact Or.inr (Or.inl c)
  by_cases c2 : (ri h 34 5).toInt ≤ x.toInt
  · exact Or.inr (Or.inr c2)
  obtain ⟨k, rfl, hk⟩ := nIof (x := x) (by omega) (by omega)
  exact Or.inl ⟨k, by omega, rfl, by omega⟩
/-- what it says, place by place, on both sides -/
def SayF (E : pX) (h : List pC) (k sz : Nat) (S : Nat → Int32) : Prop := ∀ p : Nat, p < sz → Run prog E pV1 118 mX4_sayAt [.ref (39 + k), .int (nI p)] h (some (.int (S p)), h, 0, 0) ∧ Run prog E pV1 118 mX8_saysAt [.ref 110, .int (nI k), .int (nI p)] h (some (.int (S p)), h, 0, 0)
theorem say_fn {k sz : Nat} (hh : HI HT h) (hj : JT h) (hk : k < 9) (hr : RubK h k) (hs : (ri h (39 + k) 2).toInt = sz) : ∃ S, SayF E h k sz S := by
  have H : ∀ p : Nat, ∃ v : Int32, p < sz → Run prog E pV1 118 mX4_sayAt [.ref (39 + k), .int (nI p)] h (some (.int v), h, 0, 0) ∧ Run prog E pV1 118 mX8_saysAt [.ref 110, .int (nI k), .int (nI p)] h (some (.int v), h, 0, 0) := fun p => by
    by_cases c : p < sz
    · have s8 := (rub_c hh k hk 2 (by decide)).2 rfl
      obtain ⟨v, q1, q2⟩ := say_both (E := E) (d := 118) (p := nI p) (by decide) hh hj hk hr (by rw [nI_toInt (by omega)]; omega) (by rw [nI_toInt (by omega)]; omega)
      exact ⟨v, fun _ => ⟨q1, q2⟩⟩
    · exact ⟨0, fun q => absurd q c⟩
  exact ⟨fun p => Classical.choose (H p), fun p hp => Classical.choose_spec (H p) hp⟩
theorem of_z {d k z : Nat} (hh : HI HT h) (hk : k < 9) (hz : ri h 111 (21 + 6 * k + 2) = nI z) : Run prog E pV1 (d + 1) mX8_of [.ref 110, .int (nI k), .int 2] h (some (.int (nI z)), h, 0, 0) := by
  rw [← hz]
  exact of_x (f := 2) hh hk (by decide)
/-- its size -/
theorem rub_sz {k : Nat} (hh : HI HT h) (hk : k < 9) : ∃ sz : Nat, 1 ≤ sz ∧ sz ≤ 8 ∧ ri h (39 + k) 2 = nI sz := by
  have s8 := (rub_c hh k hk 2 (by decide)).2 rfl
  obtain ⟨sz, e, hs⟩ := nIof (x := ri h (39 + k) 2) (by omega) (by omega)
  exact ⟨sz, by omega, by omega, e⟩
end NON
/-! ===== sheets: what they hold, exactly ===== -/
section VLX
variable {E : pX} {h : List pC}
theorem rows_at (hh : HI HT h) : ∃ x : Nat × Nat × (Nat → Option Nat), h[79]? = some (.inr (.inl x)) ∧ x.2.1 = 4 ∧ ∀ k : Nat, k < 4 → x.2.2 k = some (82 + 2 * k) := by
  obtain ⟨c, hc, hy⟩ := hh.2 79 (.inr (.inl (3, 4, fun i => ([82, 84, 86, 88] : List Nat)[i]?))) rfl
  rcases c with x | x | x
  · exact hy.elim
  · obtain ⟨q1, q2, q3⟩ : x.1 = 3 ∧ x.2.1 = 4 ∧ ∀ i : Nat, i < 4 → x.2.2 i = ([82, 84, 86, 88] : List Nat)[i]? := hy
    refine ⟨x, hc, q2, fun k hk => ?_⟩
    rw [q3 k hk]
    match k, hk with
    | 0, _ => rfl
    | 1, _ => rfl
    | 2, _ => rfl
    | 3, _ => rfl
  · exact hy.elim
theorem rowOf_x {d u : Nat} (hh : HI HT h) (hu : u < 4) : Run prog E pV1 (d + 1) mX7_rowOf [.ref 0, .int (nI u)] h (some (.ref (82 + 2 * u)), h, 0, 0) := by
  obtain ⟨fs, ho, hF⟩ := hi_obj hh (a := 0) rfl
  obtain ⟨x, hc, hx4, hx⟩ := rows_at hh
  refine ⟨Nat.le_of_ble_eq_true rfl, ⟨_, _, rfl⟩, ?_⟩
  show RA prog E pV1 (d + 1) mX7_rowOf 0 [some (.ref 0), some (.int (nI u))] [] h (some (.ref (82 + 2 * u)), h, 0, 0)
  refine RA.steps (i' := 1) (L' := [some (.ref 0), some (.int (nI u))]) (st' := [.int (nI u)]) (h' := h) 1 rfl ?_
  refine RA.if1F rfl (decide_eq_false (Int32.not_lt.mpr (nI_cl (by omega)).1)) ?_
  refine RA.steps (i' := 4) (L' := [some (.ref 0), some (.int (nI u))]) (st' := [.ref 0, .int (nI u)]) (h' := h) 2 rfl ?_
  refine RA.getf rfl ho rfl (hF.ref (k := 5) rfl) ?_
  refine RA.alenR rfl hc hx4 ?_
  refine RA.if2F rfl (decide_eq_false (Int32.not_le.mpr (nI_lt hu (by decide)))) ?_
  refine RA.steps (i' := 8) (L' := [some (.ref 0), some (.int (nI u))]) (st' := [.ref 0]) (h' := h) 1 rfl ?_
  refine RA.getf rfl ho rfl (hF.ref (k := 5) rfl) ?_
  refine RA.steps (i' := 10) (L' := [some (.ref 0), some (.int (nI u))]) (st' := [.int (nI u), .ref 79]) (h' := h) 1 rfl ?_
  refine RA.aald rfl hc ⟨(nI_cl (by omega)).1, by rw [(nI_cl (by omega)).2, hx4]; exact hu⟩ (by rw [(nI_cl (by omega)).2]; exact hx u hu) ?_
  refine RA.steps (i' := 13) (L' := [some (.ref 0), some (.int (nI u))]) (st' := [.ref (82 + 2 * u)]) (h' := h) 1 rfl ?_
  exact RA.ret rfl rfl
theorem rowOf_n {d : Nat} {x : Int32} (hh : HI HT h) (hn : x.toInt < 0 ∨ 4 ≤ x.toInt) : Run prog E pV1 (d + 1) mX7_rowOf [.ref 0, .int x] h (some .null, h, 0, 0) := by
  obtain ⟨fs, ho, hF⟩ := hi_obj hh (a := 0) rfl
  obtain ⟨xx, hc, hx4, -⟩ := rows_at hh
  refine ⟨Nat.le_of_ble_eq_true rfl, ⟨_, _, rfl⟩, ?_⟩
  show RA prog E pV1 (d + 1) mX7_rowOf 0 [some (.ref 0), some (.int x)] [] h (some .null, h, 0, 0)
  by_cases c : x < 0
  · skip
    refine RA.steps (i' := 1) (L' := [some (.ref 0), some (.int x)]) (st' := [.int x]) (h' := h) 1 rfl ?_
    refine RA.if1T rfl (decide_eq_true c) ?_
    refine RA.steps (i' := 13) (L' := [some (.ref 0), some (.int x)]) (st' := [.null]) (h' := h) 1 rfl ?_
    exact RA.ret rfl rfl
  · have c' : ¬ x.toInt < 0 := fun q => c (Int32.lt_iff_toInt_lt.mpr q)
    have hx5 : nI 4 ≤ x := Int32.le_iff_toInt_le.mpr (by rw [nI_toInt (by decide)]; omega)
    refine RA.steps (i' := 1) (L' := [some (.ref 0), some (.int x)]) (st' := [.int x]) (h' := h) 1 rfl ?_
    refine RA.if1F rfl (decide_eq_false c) ?_
    refine RA.steps (i' := 4) (L' := [some (.ref 0), some (.int x)]) (st' := [.ref 0, .int x]) (h' := h) 2 rfl ?_
    refine RA.getf rfl ho rfl (hF.ref (k := 5) rfl) ?_
    refine RA.alenR rfl hc hx4 ?_
    refine RA.if2T rfl (decide_eq_true hx5) ?_
    refine RA.steps (i' := 13) (L' := [some (.ref 0), some (.int x)]) (st' := [.null]) (h' := h) 1 rfl ?_
    exact RA.ret rfl rfl
theorem row_obj (hh : HI HT h) : ∀ u : Nat, u < 4 → ∃ fs : List Value, pobj h (82 + 2 * u) = some (3, fs) ∧ fs[0]? = some (.ref (83 + 2 * u)) ∧ fs[1]? = some (.int (ri h (82 + 2 * u) 1)) ∧ fs[2]? = some (.int (ri h (82 + 2 * u) 2)) := by
  have one : ∀ (a b : Nat) (xs : List AV), HT[a]? = some (.inr (.inr (3, xs))) → xs[0]? = some (5, 0, 0, b) → elT HT 5 a 1 1 = some (.inl (-2147483648, 2147483647)) → elT HT 5 a 2 2 = some (.inl (-2147483648, 2147483647)) → ∃ fs : List Value, pobj h a = some (3, fs) ∧ fs[0]? = some (.ref b) ∧ fs[1]? = some (.int (ri h a 1)) ∧ fs[2]? = some (.int (ri h a 2)) := fun a b xs h1 h2 h3 h4 => by
    obtain ⟨fs, ho, hF⟩ := hi_obj hh h1
    have c1 := (ri_ty hh h3).1
    have c2 := (ri_ty hh h4).1
    unfold ct at c1 c2
    rw [pobj_at ho] at c1 c2
    exact ⟨fs, ho, hF.ref (k := 0) h2, c1, c2⟩
  intro u hu
  match u, hu with
  | 0, _ => exact one 82 83 _ rfl rfl rfl rfl
  | 1, _ => exact one 84 85 _ rfl rfl rfl rfl
  | 2, _ => exact one 86 87 _ rfl rfl rfl rfl
  | 3, _ => exact one 88 89 _ rfl rfl rfl rfl
theorem vals_at (hh : HI HT h) : ∀ u : Nat, u < 4 → ∃ f : Nat → Int32, pint h (83 + 2 * u) = some (24, f) ∧ ∀ j : Nat, j < 24 → ri h (83 + 2 * u) j = f j := by
  have one : ∀ a : Nat, HT[a]? = some (.inl (24, [])) → ∃ f : Nat → Int32, pint h a = some (24, f) ∧ ∀ j : Nat, j < 24 → ri h a j = f j := fun a h1 => by
    obtain ⟨f, p, u, -⟩ := hi_int hh h1
    exact ⟨f, p, u⟩
  intro u hu
  match u, hu with
  | 0, _ => exact one 83 rfl
  | 1, _ => exact one 85 rfl
  | 2, _ => exact one 87 rfl
  | 3, _ => exact one 89 rfl
/-- the numbers of the sheets are alike -/
def RV (h : List pC) : Prop := ∀ u j : Nat, u < 4 → j < 24 → ri h (83 + 2 * u) j = ri h 116 (24 * u + j)
/-- so are their sorts, and how many places they have -/
def RSS (h : List pC) : Prop := ∀ u : Nat, u < 4 → ri h (82 + 2 * u) 1 = ri h 114 u ∧ ri h (82 + 2 * u) 2 = ri h 115 u
theorem rows_ty (hh : HI HT h) : ∀ u : Nat, u < 4 → (-1 ≤ (ri h 114 u).toInt ∧ (ri h 114 u).toInt ≤ 1) ∧ 0 ≤ (ri h 115 u).toInt ∧ (ri h 115 u).toInt ≤ 24 := by
  intro u hu
  match u, hu with
  | 0, _ => exact ⟨(ri_ty (k := 0) (p := (-1, 1)) hh rfl).2, (ri_ty (k := 0) (p := (0, 24)) hh rfl).2⟩
  | 1, _ => exact ⟨(ri_ty (k := 0) (p := (-1, 1)) hh rfl).2, (ri_ty (k := 0) (p := (0, 24)) hh rfl).2⟩
  | 2, _ => exact ⟨(ri_ty (k := 0) (p := (-1, 1)) hh rfl).2, (ri_ty (k := 0) (p := (0, 24)) hh rfl).2⟩
  | 3, _ => exact ⟨(ri_ty (k := 0) (p := (-1, 1)) hh rfl).2, (ri_ty (k := 0) (p := (0, 24)) hh rfl).2⟩
theorem isMis_t {d u : Nat} (hh : HI HT h) (hu : u < 4) (c : ri h (82 + 2 * u) 1 = -1) : Run prog E pV1 (d + 1) mX3_isMissing [.ref (82 + 2 * u)] h (some (.int 1), h, 0, 0) := by
  obtain ⟨fs, ho, -, h1, -⟩ := row_obj hh u hu
  refine ⟨Nat.le_of_ble_eq_true rfl, ⟨_, _, rfl⟩, ?_⟩
  show RA prog E pV1 (d + 1) mX3_isMissing 0 [some (.ref (82 + 2 * u))] [] h (some (.int 1), h, 0, 0)
  refine RA.steps (i' := 1) (L' := [some (.ref (82 + 2 * u))]) (st' := [.ref (82 + 2 * u)]) (h' := h) 1 rfl ?_
  refine RA.getf rfl ho rfl h1 ?_
  refine RA.steps (i' := 3) (L' := [some (.ref (82 + 2 * u))]) (st' := [.int (-1), .int (ri h (82 + 2 * u) 1)]) (h' := h) 1 rfl ?_
  refine RA.if2F rfl (decide_eq_false (fun q => q c)) ?_
  refine RA.steps (i' := 7) (L' := [some (.ref (82 + 2 * u))]) (st' := [.int 1]) (h' := h) 2 rfl ?_
  exact RA.ret rfl rfl
theorem isMis_f {d u : Nat} (hh : HI HT h) (hu : u < 4) (c : ¬ ri h (82 + 2 * u) 1 = -1) : Run prog E pV1 (d + 1) mX3_isMissing [.ref (82 + 2 * u)] h (some (.int 0), h, 0, 0) := by
  obtain ⟨fs, ho, -, h1, -⟩ := row_obj hh u hu
  refine ⟨Nat.le_of_ble_eq_true rfl, ⟨_, _, rfl⟩, ?_⟩
  show RA prog E pV1 (d + 1) mX3_isMissing 0 [some (.ref (82 + 2 * u))] [] h (some (.int 0), h, 0, 0)
  refine RA.steps (i' := 1) (L' := [some (.ref (82 + 2 * u))]) (st' := [.ref (82 + 2 * u)]) (h' := h) 1 rfl ?_
  refine RA.getf rfl ho rfl h1 ?_
  refine RA.steps (i' := 3) (L' := [some (.ref (82 + 2 * u))]) (st' := [.int (-1), .int (ri h (82 + 2 * u) 1)]) (h' := h) 1 rfl ?_
  refine RA.if2T rfl (decide_eq_true c) ?_
  refine RA.steps (i' := 7) (L' := [some (.ref (82 + 2 * u))]) (st' := [.int 0]) (h' := h) 1 rfl ?_
  exact RA.ret rfl rfl
theorem has_t {d u : Nat} {x : Int32} (hh : HI HT h) (hu : u < 4) (b0 : 0 ≤ x) (b1 : x < ri h (82 + 2 * u) 2) : Run prog E pV1 (d + 1) mX3_has [.ref (82 + 2 * u), .int x] h (some (.int 1), h, 0, 0) := by
  obtain ⟨fs, ho, -, -, h2⟩ := row_obj hh u hu
  refine ⟨Nat.le_of_ble_eq_true rfl, ⟨_, _, rfl⟩, ?_⟩
  show RA prog E pV1 (d + 1) mX3_has 0 [some (.ref (82 + 2 * u)), some (.int x)] [] h (some (.int 1), h, 0, 0)
  refine RA.steps (i' := 1) (L' := [some (.ref (82 + 2 * u)), some (.int x)]) (st' := [.int x]) (h' := h) 1 rfl ?_
  refine RA.if1F rfl (decide_eq_false (Int32.not_lt.mpr b0)) ?_
  refine RA.steps (i' := 4) (L' := [some (.ref (82 + 2 * u)), some (.int x)]) (st' := [.ref (82 + 2 * u), .int x]) (h' := h) 2 rfl ?_
  refine RA.getf rfl ho rfl h2 ?_
  refine RA.if2F rfl (decide_eq_false (Int32.not_le.mpr b1)) ?_
  refine RA.steps (i' := 9) (L' := [some (.ref (82 + 2 * u)), some (.int x)]) (st' := [.int 1]) (h' := h) 2 rfl ?_
  exact RA.ret rfl rfl
theorem has_f {d u : Nat} {x : Int32} (hh : HI HT h) (hu : u < 4) (hn : ¬ (0 ≤ x ∧ x < ri h (82 + 2 * u) 2)) : Run prog E pV1 (d + 1) mX3_has [.ref (82 + 2 * u), .int x] h (some (.int 0), h, 0, 0) := by
  obtain ⟨fs, ho, -, -, h2⟩ := row_obj hh u hu
  refine ⟨Nat.le_of_ble_eq_true rfl, ⟨_, _, rfl⟩, ?_⟩
  show RA prog E pV1 (d + 1) mX3_has 0 [some (.ref (82 + 2 * u)), some (.int x)] [] h (some (.int 0), h, 0, 0)
  by_cases c : x < 0
  · skip
    refine RA.steps (i' := 1) (L' := [some (.ref (82 + 2 * u)), some (.int x)]) (st' := [.int x]) (h' := h) 1 rfl ?_
    refine RA.if1T rfl (decide_eq_true c) ?_
    refine RA.steps (i' := 9) (L' := [some (.ref (82 + 2 * u)), some (.int x)]) (st' := [.int 0]) (h' := h) 1 rfl ?_
    exact RA.ret rfl rfl
  · have hx5 : ri h (82 + 2 * u) 2 ≤ x := Int32.not_lt.mp (fun q => hn ⟨Int32.not_lt.mp c, q⟩)
    refine RA.steps (i' := 1) (L' := [some (.ref (82 + 2 * u)), some (.int x)]) (st' := [.int x]) (h' := h) 1 rfl ?_
    refine RA.if1F rfl (decide_eq_false c) ?_
    refine RA.steps (i' := 4) (L' := [some (.ref (82 + 2 * u)), some (.int x)]) (st' := [.ref (82 + 2 * u), .int x]) (h' := h) 2 rfl ?_
    refine RA.getf rfl ho rfl h2 ?_
    refine RA.if2T rfl (decide_eq_true hx5) ?_
    refine RA.steps (i' := 9) (L' := [some (.ref (82 + 2 * u)), some (.int x)]) (st' := [.int 0]) (h' := h) 1 rfl ?_
    exact RA.ret rfl rfl
theorem put_x {d u p : Nat} {w : Int32} {f : Nat → Int32} (hh : HI HT h) (hu : u < 4) (hp24 : p < 24) (hp : pint h (83 + 2 * u) = some (24, f)) (b0 : (0 : Int32) ≤ nI p) (b1 : nI p < ri h (82 + 2 * u) 2) : Run prog E pV1 (d + 2) mX3_put [.ref (82 + 2 * u), .int (nI p), .int w] h (none, h.set (83 + 2 * u) (.inl (24, va_up f p w)), 0, 0) := by
  obtain ⟨fs, ho, h0, -, h2⟩ := row_obj hh u hu
  have e : (nI p).toNatClampNeg = p := (nI_cl (by omega)).2
  refine ⟨Nat.le_of_ble_eq_true rfl, ⟨_, _, rfl⟩, ?_⟩
  show RA prog E pV1 (d + 2) mX3_put 0 [some (.ref (82 + 2 * u)), some (.int (nI p)), some (.int w)] [] h (none, h.set (83 + 2 * u) (.inl (24, va_up f p w)), 0, 0)
  rw [show va_up f p w = va_up f (nI p).toNatClampNeg w by rw [e]]
  refine RA.steps (i' := 2) (L' := [some (.ref (82 + 2 * u)), some (.int (nI p)), some (.int w)]) (st' := [.int (nI p), .ref (82 + 2 * u)]) (h' := h) 2 rfl ?_
  refine RA.call0 (N := mX3_has) (as := [.ref (82 + 2 * u), .int (nI p)]) (rest := []) rfl rfl (pcallV rfl rfl ho rfl rfl (Nat.le_of_ble_eq_true rfl)) (has_t (d := d) hh hu b0 b1) ?_
  refine RA.if1F rfl rfl ?_
  refine RA.steps (i' := 6) (L' := [some (.ref (82 + 2 * u)), some (.int (nI p)), some (.int w)]) (st' := [.ref (82 + 2 * u), .int (nI p)]) (h' := h) 2 rfl ?_
  refine RA.getf rfl ho rfl h0 ?_
  refine RA.alenI rfl hp ?_
  refine RA.if2F rfl (decide_eq_false (Int32.not_le.mpr (nI_lt hp24 (by decide)))) ?_
  refine RA.steps (i' := 10) (L' := [some (.ref (82 + 2 * u)), some (.int (nI p)), some (.int w)]) (st' := [.ref (82 + 2 * u)]) (h' := h) 1 rfl ?_
  refine RA.getf rfl ho rfl h0 ?_
  refine RA.steps (i' := 13) (L' := [some (.ref (82 + 2 * u)), some (.int (nI p)), some (.int w)]) (st' := [.int w, .int (nI p), .ref (83 + 2 * u)]) (h' := h) 2 rfl ?_
  refine RA.iast rfl hp ⟨(nI_cl (by omega)).1, by rw [(nI_cl (by omega)).2]; exact hp24⟩ ?_
  exact RA.ret rfl rfl
theorem isSh_t {d : Nat} {x : Int32} (H : (0 : Int32) ≤ x ∧ x ≤ 3) : Run prog E pV1 (d + 2) mX8_isSheet [.int x] h (some (.int 1), h, 0, 0) := by
  refine ⟨Nat.le_of_ble_eq_true rfl, ⟨_, _, rfl⟩, ?_⟩
  show RA prog E pV1 (d + 2) mX8_isSheet 0 [some (.int x)] [] h (some (.int 1), h, 0, 0)
  refine RA.steps (i' := 4) (L' := [some (.int x)]) (st' := [.long (Int32.toInt64 3), .long (Int32.toInt64 0), .long x.toInt64]) (h' := h) 4 rfl ?_
  refine RA.call0 (N := mX8_isIn) (as := [.long x.toInt64, .long (Int32.toInt64 0), .long (Int32.toInt64 3)]) (rest := []) rfl rfl rfl (isIn_t H) ?_
  exact RA.ret rfl rfl
theorem isSh_f {d : Nat} {x : Int32} (H : ¬ ((0 : Int32) ≤ x ∧ x ≤ 3)) : Run prog E pV1 (d + 2) mX8_isSheet [.int x] h (some (.int 0), h, 0, 0) := by
  refine ⟨Nat.le_of_ble_eq_true rfl, ⟨_, _, rfl⟩, ?_⟩
  show RA prog E pV1 (d + 2) mX8_isSheet 0 [some (.int x)] [] h (some (.int 0), h, 0, 0)
  refine RA.steps (i' := 4) (L' := [some (.int x)]) (st' := [.long (Int32.toInt64 3), .long (Int32.toInt64 0), .long x.toInt64]) (h' := h) 4 rfl ?_
  refine RA.call0 (N := mX8_isIn) (as := [.long x.toInt64, .long (Int32.toInt64 0), .long (Int32.toInt64 3)]) (rest := []) rfl rfl rfl (isIn_f H) ?_
  exact RA.ret rfl rfl
theorem sh16 (x : Int32) : (x <<< ((16 : Int32) &&& 31)) >>> ((16 : Int32) &&& 31) = x.toInt16.toInt32 := by
  have h16 : (((16 : Int32) &&& 31).toBitVec.smod 32).toNat = 16 := by decide
  refine Int32.toBitVec_inj.mp ?_
  show (x.toBitVec <<< (((16 : Int32) &&& 31).toBitVec.smod 32).toNat).sshiftRight (((16 : Int32) &&& 31).toBitVec.smod 32).toNat = (x.toBitVec.signExtend 16).signExtend 32
  rw [h16]
  refine BitVec.eq_of_getLsbD_eq_iff.mpr (fun i hi => ?_)
  simp only [BitVec.getLsbD_sshiftRight, BitVec.getLsbD_signExtend, BitVec.msb_eq_getLsbD_last, BitVec.getLsbD_shiftLeft]
  by_cases c : i < 16
  · have c2 : 16 + i < 32 := by omega
    have c3 : ¬ 32 ≤ i := by omega
    have c4 : ¬ 16 + i < 16 := by omega
    simp [c, c2, c3, c4, hi]
  · have c2 : ¬ 16 + i < 32 := by omega
    have c3 : ¬ 32 ≤ i := by omega
    simp [c, c2, c3, hi]

def atV (V : Nat → Int32) (l x : Nat) : Int32 := if x < l then V x else -1000000005
theorem has_c1 {d a x l : Nat} {fs : List Value} (ho : pobj h a = some (3, fs)) (r2 : fs[2]? = some (.int (nI l))) (hx : x < 24) (hc : x < l ∧ l ≤ 24) : Run prog E pV1 (d + 1) mX3_has [.ref a, .int (nI x)] h (some (.int 1), h, 0, 0) := by
  refine ⟨Nat.le_of_ble_eq_true rfl, ⟨_, _, rfl⟩, ?_⟩
  show RA prog E pV1 (d + 1) mX3_has 0 [some (.ref a), some (.int (nI x))] [] h (some (.int 1), h, 0, 0)
  refine RA.steps (i' := 1) (L' := [some (.ref a), some (.int (nI x))]) (st' := [.int (nI x)]) (h' := h) 1 rfl ?_
  refine RA.if1F rfl (decide_eq_false (Int32.not_lt.mpr (nI_cl (by omega)).1)) ?_
  refine RA.steps (i' := 4) (L' := [some (.ref a), some (.int (nI x))]) (st' := [.ref a, .int (nI x)]) (h' := h) 2 rfl ?_
  refine RA.getf rfl ho rfl r2 ?_
  refine RA.if2F rfl (decide_eq_false (Int32.not_le.mpr (nI_lt hc.1 (by omega)))) ?_
  refine RA.steps (i' := 9) (L' := [some (.ref a), some (.int (nI x))]) (st' := [.int 1]) (h' := h) 2 rfl ?_
  exact RA.ret rfl rfl
theorem has_c0 {d a x l : Nat} {fs : List Value} (ho : pobj h a = some (3, fs)) (r2 : fs[2]? = some (.int (nI l))) (hx : x < 24) (hc : l ≤ x) : Run prog E pV1 (d + 1) mX3_has [.ref a, .int (nI x)] h (some (.int 0), h, 0, 0) := by
  refine ⟨Nat.le_of_ble_eq_true rfl, ⟨_, _, rfl⟩, ?_⟩
  show RA prog E pV1 (d + 1) mX3_has 0 [some (.ref a), some (.int (nI x))] [] h (some (.int 0), h, 0, 0)
  refine RA.steps (i' := 1) (L' := [some (.ref a), some (.int (nI x))]) (st' := [.int (nI x)]) (h' := h) 1 rfl ?_
  refine RA.if1F rfl (decide_eq_false (Int32.not_lt.mpr (nI_cl (by omega)).1)) ?_
  refine RA.steps (i' := 4) (L' := [some (.ref a), some (.int (nI x))]) (st' := [.ref a, .int (nI x)]) (h' := h) 2 rfl ?_
  refine RA.getf rfl ho rfl r2 ?_
  refine RA.if2T rfl (decide_eq_true (nI_le hc (by omega))) ?_
  refine RA.steps (i' := 9) (L' := [some (.ref a), some (.int (nI x))]) (st' := [.int 0]) (h' := h) 1 rfl ?_
  exact RA.ret rfl rfl
theorem at_x {d a b x l : Nat} {V : Nat → Int32} {fs : List Value} (ho : pobj h a = some (3, fs)) (r0 : fs[0]? = some (.ref b)) (r2 : fs[2]? = some (.int (nI l))) (hx : x < 24 ∧ l ≤ 24) (hp : pint h b = some (24, V)) : Run prog E pV1 (d + 2) mX3_at [.ref a, .int (nI x)] h (some (.int (atV V l x)), h, 0, 0) := by
  obtain ⟨hx, hl⟩ := hx
  refine ⟨Nat.le_of_ble_eq_true rfl, ⟨_, _, rfl⟩, ?_⟩
  show RA prog E pV1 (d + 2) mX3_at 0 [some (.ref a), some (.int (nI x))] [] h (some (.int (atV V l x)), h, 0, 0)
  unfold atV
  by_cases hc : x < l
  · rw [if_pos hc]
    have hc : x < l ∧ l ≤ 24 := ⟨hc, hl⟩
    refine RA.steps (i' := 2) (L' := [some (.ref a), some (.int (nI x))]) (st' := [.int (nI x), .ref a]) (h' := h) 2 rfl ?_
    refine RA.call0 (N := mX3_has) (as := [.ref a, .int (nI x)]) (rest := []) rfl rfl (pcallV rfl rfl ho rfl rfl (Nat.le_of_ble_eq_true rfl)) (has_c1 (d := d) ho r2 hx hc) ?_
    refine RA.if1F rfl rfl ?_
    refine RA.steps (i' := 6) (L' := [some (.ref a), some (.int (nI x))]) (st' := [.ref a, .int (nI x)]) (h' := h) 2 rfl ?_
    refine RA.getf rfl ho rfl r0 ?_
    refine RA.alenI rfl hp ?_
    refine RA.if2F rfl (decide_eq_false (Int32.not_le.mpr (nI_lt hx (by decide)))) ?_
    refine RA.steps (i' := 10) (L' := [some (.ref a), some (.int (nI x))]) (st' := [.ref a]) (h' := h) 1 rfl ?_
    refine RA.getf rfl ho rfl r0 ?_
    refine RA.steps (i' := 12) (L' := [some (.ref a), some (.int (nI x))]) (st' := [.int (nI x), .ref b]) (h' := h) 1 rfl ?_
    refine RA.iald rfl hp ⟨(nI_cl (by omega)).1, by rw [(nI_cl (by omega)).2]; exact hx⟩ (by rw [(nI_cl (by omega)).2]) ?_
    refine RA.steps (i' := 15) (L' := [some (.ref a), some (.int (nI x))]) (st' := [.int (V x)]) (h' := h) 1 rfl ?_
    exact RA.ret rfl rfl
  · rw [if_neg hc]
    have hc : l ≤ x := by omega
    refine RA.steps (i' := 2) (L' := [some (.ref a), some (.int (nI x))]) (st' := [.int (nI x), .ref a]) (h' := h) 2 rfl ?_
    refine RA.call0 (N := mX3_has) (as := [.ref a, .int (nI x)]) (rest := []) rfl rfl (pcallV rfl rfl ho rfl rfl (Nat.le_of_ble_eq_true rfl)) (has_c0 (d := d) ho r2 hx hc) ?_
    refine RA.if1T rfl rfl ?_
    refine RA.steps (i' := 15) (L' := [some (.ref a), some (.int (nI x))]) (st' := [.int (-1000000005)]) (h' := h) 1 rfl ?_
    exact RA.ret rfl rfl
def WMc : aW := [(83, 83, 0, 23), (85, 85, 0, 23), (87, 87, 0, 23), (89, 89, 0, 23)]
def WMr : aW := [(116, 116, 0, 95)]
/-- what both calls of a method leave: of the sheets' numbers that they stay alike -/
def TwoV (E : pX) (M1 M2 : pM) (as1 as2 : List Value) (h : List pC) (W1 W2 : aW) : Prop := ∃ (r : Int32) (h1 h2 : List pC), Run prog E pV1 120 M1 as1 h (some (.int r), h1, 0, 0) ∧ Run prog E pV1 120 M2 as2 h1 (some (.int r), h2, 0, 0) ∧ HI HT h1 ∧ HI HT h2 ∧ JT h2 ∧ Fr W1 h h1 ∧ Fr W2 h1 h2 ∧ RV h2 ∧ (VB h → VB h2)
theorem i16_b (x : Int32) : -1000000005 ≤ (x.toInt16.toInt32).toInt ∧ (x.toInt16.toInt32).toInt ≤ 99999 := by
  have e : (x.toInt16.toInt32).toInt = x.toInt16.toInt := Int16.toInt_toInt32 _
  have a := Int16.le_toInt x.toInt16
  have b := Int16.toInt_lt x.toInt16
  rw [e]
  omega
theorem w_b {w : Int32} (hw : (-99999 : Int32) ≤ w ∧ w ≤ 99999) : -1000000005 ≤ w.toInt ∧ w.toInt ≤ 99999 := by
  have a := Int32.le_iff_toInt_le.mp hw.1
  have b := Int32.le_iff_toInt_le.mp hw.2
  rw [show (-99999 : Int32).toInt = -99999 by decide +kernel] at a
  rw [show (99999 : Int32).toInt = 99999 by decide +kernel] at b
  omega
theorem mark_same {x1 x2 x3 v : Int32} (hh : HI HT h) (hj : JT h) (hv : RV h) (q1 : Run prog E pV1 120 mX7_mark [.ref 0, .int x1, .int x2, .int x3] h (some (.int v), h, 0, 0)) (q2 : Run prog E pV1 120 mX8_mark [.ref 110, .int x1, .int x2, .int x3] h (some (.int v), h, 0, 0)) : TwoV E mX7_mark mX8_mark [.ref 0, .int x1, .int x2, .int x3] [.ref 110, .int x1, .int x2, .int x3] h WMc WMr := ⟨v, h, h, q1, q2, hh, hh, hj, Fr.rf _ _, Fr.rf _ _, hv, fun q => q⟩
theorem eAdr {u p : Nat} (hu : u < 4) : (24 * nI u + nI p : Int32) = nI (24 * u + p) := by
  rw [show (24 : Int32) = nI 24 by decide +kernel, nI_mul, nI_add]
/-- a number is put: what it is on both sides -/
theorem mark_put {x3 w : Int32} {u p : Nat} {f : Nat → Int32} (hh : HI HT h) (hj : JT h) (hv : RV h) (hu : u < 4) (hp24 : p < 24) (hp : pint h (83 + 2 * u) = some (24, f)) (hwb : -1000000005 ≤ w.toInt ∧ w.toInt ≤ 99999) (q1 : Run prog E pV1 120 mX7_mark [.ref 0, .int (nI u), .int (nI p), .int x3] h (some (.int 1), h.set (83 + 2 * u) (.inl (24, va_up f p w)), 0, 0))
    (q2 : ∀ (h1 : List pC) (g : Nat → Int32), HI HT h1 → ri h1 114 u = ri h 114 u → ri h1 115 u = ri h 115 u → pint h1 116 = some (96, g) → Run prog E pV1 120 mX8_mark [.ref 110, .int (nI u), .int (nI p), .int x3] h1 (some (.int 1), h1.set 116 (.inl (96, va_up g (24 * u + p) w)), 0, 0)) : TwoV E mX7_mark mX8_mark [.ref 0, .int (nI u), .int (nI p), .int x3] [.ref 110, .int (nI u), .int (nI p), .int x3] h WMc WMr := by
  obtain ⟨r1, h1, k1, hh1, f1, hj1⟩ := pub_of (E := E) (a := 0) (kg_c_markF) (N := mX7_mark) rfl (List.cons_ne_nil _ _) [nI u, nI p, x3] rfl (fun q => by cases q) (Nat.le_of_ble_eq_true rfl) hh hj
  have e1 := Run.det q1 k1
  obtain rfl : h.set (83 + 2 * u) (.inl (24, va_up f p w)) = h1 := (Prod.mk.inj (Prod.mk.inj e1).2).1
  have f1' : Fr WMc h (h.set (83 + 2 * u) (.inl (24, va_up f p w))) := f1
  obtain ⟨g, pg, ug, -⟩ := hi_int (a := 116) (n := 96) (sg := []) hh1 rfl
  have k2 := q2 _ g hh1 (ri_fr f1' (nin_iff.mpr (by simp only [WMc, List.forall_mem_cons]; exact ⟨by omega, by omega, by omega, by omega, fun _ h => absurd h List.not_mem_nil⟩))) (ri_fr f1' (nin_iff.mpr (by simp only [WMc, List.forall_mem_cons]; exact ⟨by omega, by omega, by omega, by omega, fun _ h => absurd h List.not_mem_nil⟩))) pg
  obtain ⟨r2, h2, k3, hh2, f2, hj2⟩ := pub_of (E := E) (a := 110) (kg_r_markF) (N := mX8_mark) rfl (List.cons_ne_nil _ _) [nI u, nI p, x3] rfl (fun q => by cases q) (Nat.le_of_ble_eq_true rfl) hh1 hj1
  have e2 := Run.det k2 k3
  obtain rfl : (h.set (83 + 2 * u) (.inl (24, va_up f p w))).set 116 (.inl (96, va_up g (24 * u + p) w)) = h2 := (Prod.mk.inj (Prod.mk.inj e2).2).1
  have hvb : VB h → VB ((h.set (83 + 2 * u) (.inl (24, va_up f p w))).set 116 (.inl (96, va_up g (24 * u + p) w))) := fun vb v j hv4 hj24 => by
    have l1 : ri ((h.set (83 + 2 * u) (.inl (24, va_up f p w))).set 116 (.inl (96, va_up g (24 * u + p) w))) (83 + 2 * v) j = ri (h.set (83 + 2 * u) (.inl (24, va_up f p w))) (83 + 2 * v) j := ri_setN (by omega)
    rw [l1]
    by_cases e : v = u
    · rw [e, ri_setI hp hj24]
      by_cases ej : j = p
      · rw [ej, va_up_self]
        exact hwb
      · rw [va_up_ne f w ej]
        obtain ⟨fv, pv, uv⟩ := vals_at hh u hu
        have ef : fv = f := (Prod.mk.inj (Option.some.inj (pv.symm.trans hp))).2
        rw [← ef, ← uv j hj24]
        exact vb u j hu hj24
    · rw [ri_setN (show ¬ 83 + 2 * u = 83 + 2 * v by omega)]
      exact vb v j hv4 hj24
  refine ⟨1, _, _, q1, k2, hh1, hh2, hj2, f1', f2, fun v j hv4 hj24 => ?_, hvb⟩
  obtain ⟨fv, pv, uv⟩ := vals_at hh v hv4
  have l2 : ri ((h.set (83 + 2 * u) (.inl (24, va_up f p w))).set 116 (.inl (96, va_up g (24 * u + p) w))) 116 (24 * v + j) = va_up g (24 * u + p) w (24 * v + j) := ri_setI pg (by omega)
  have l1 : ri ((h.set (83 + 2 * u) (.inl (24, va_up f p w))).set 116 (.inl (96, va_up g (24 * u + p) w))) (83 + 2 * v) j = ri (h.set (83 + 2 * u) (.inl (24, va_up f p w))) (83 + 2 * v) j := ri_setN (by omega)
  have g0 : g (24 * v + j) = ri h 116 (24 * v + j) := by
    rw [← ug (24 * v + j) (by omega)]
    exact ri_setN (by omega)
  rw [l1, l2]
  by_cases e : v = u
  · subst e
    rw [ri_setI hp hj24]
    by_cases ej : j = p
    · subst ej
      rw [va_up_self, va_up_self]
    · rw [va_up_ne f w ej, va_up_ne g w (show 24 * v + j ≠ 24 * v + p by omega), g0, ← hv v j hu hj24]
      obtain rfl : fv = f := by
        have := pv.symm.trans hp
        exact (Prod.mk.inj (Option.some.inj this)).2
      exact (uv j hj24).symm
  · rw [ri_setN (show ¬ 83 + 2 * u = 83 + 2 * v by omega), va_up_ne g w (show 24 * v + j ≠ 24 * u + p by omega), g0]
    exact hv v j hv4 hj24

theorem mark_both (x1 x2 x3 : Int32) (hh : HI HT h) (hj : JT h) (hs : RSS h) (hv : RV h) : TwoV E mX7_mark mX8_mark [.ref 0, .int x1, .int x2, .int x3] [.ref 110, .int x1, .int x2, .int x3] h WMc WMr := by
  have t0 : (0 : Int32).toInt = 0 := by decide
  have t3 : (3 : Int32).toInt = 3 := by decide
  obtain ⟨fs0, ho0, hF0⟩ := hi_obj hh (a := 0) rfl
  obtain ⟨fs8, ho8, hF8⟩ := hi_obj hh (a := 110) rfl
  obtain ⟨gS_, pS, uS, -⟩ := hi_int (a := 114) (n := 4) (sg := [(0, 3, -1, 1)]) hh rfl
  obtain ⟨gZ_, pZ, uZ, -⟩ := hi_int (a := 115) (n := 4) (sg := [(0, 3, 0, 24)]) hh rfl
  by_cases hn : x1.toInt < 0 ∨ 4 ≤ x1.toInt
  · have hs3 : ¬ ((0 : Int32) ≤ x1 ∧ x1 ≤ 3) := fun q => by
      have q1 := Int32.le_iff_toInt_le.mp q.1
      have q2 := Int32.le_iff_toInt_le.mp q.2
      omega
    refine mark_same hh hj hv (v := -1000000001) ⟨Nat.le_of_ble_eq_true rfl, ⟨_, _, rfl⟩, ?_⟩ ⟨Nat.le_of_ble_eq_true rfl, ⟨_, _, rfl⟩, ?_⟩
    · show RA prog E pV1 120 mX7_mark 0 [some (.ref 0), some (.int x1), some (.int x2), some (.int x3), none] [] h (some (.int (-1000000001)), h, 0, 0)
      refine RA.steps (i' := 2) (L' := [some (.ref 0), some (.int x1), some (.int x2), some (.int x3), none]) (st' := [.int x1, .ref 0]) (h' := h) 2 rfl ?_
      refine RA.call0 (N := mX7_rowOf) (as := [.ref 0, .int x1]) (rest := []) rfl rfl (pcallV rfl rfl ho0 rfl rfl (Nat.le_of_ble_eq_true rfl)) (rowOf_n (d := 118) hh hn) ?_
      refine RA.steps (i' := 7) (L' := [some (.ref 0), some (.int x1), some (.int x2), some (.int x3), some (.null)]) (st' := [.int (-1000000001)]) (h' := h) 4 rfl ?_
      exact RA.ret rfl rfl
    · show RA prog E pV1 120 mX8_mark 0 [some (.ref 110), some (.int x1), some (.int x2), some (.int x3)] [] h (some (.int (-1000000001)), h, 0, 0)
      refine RA.steps (i' := 1) (L' := [some (.ref 110), some (.int x1), some (.int x2), some (.int x3)]) (st' := [.int x1]) (h' := h) 1 rfl ?_
      refine RA.call0 (N := mX8_isSheet) (as := [.int x1]) (rest := []) rfl rfl rfl (isSh_f (d := 117) hs3) ?_
      refine RA.if1F rfl rfl ?_
      refine RA.steps (i' := 4) (L' := [some (.ref 110), some (.int x1), some (.int x2), some (.int x3)]) (st' := [.int (-1000000001)]) (h' := h) 1 rfl ?_
      exact RA.ret rfl rfl
  obtain ⟨u, rfl, hu0⟩ := nIof (x := x1) (by omega) (by omega)
  have hu : u < 4 := by omega
  have hs3 : (0 : Int32) ≤ nI u ∧ nI u ≤ 3 := ⟨(nI_cl (by omega)).1, Int32.le_iff_toInt_le.mpr (by omega)⟩
  obtain ⟨es, ez⟩ := hs u hu
  obtain ⟨⟨s0, s1⟩, z0, z24⟩ := rows_ty hh u hu
  obtain ⟨fsr, hor, h0, h1, h2⟩ := row_obj hh u hu
  have bS : 0 ≤ nI u ∧ (nI u).toNatClampNeg < 4 := ⟨(nI_cl (by omega)).1, by rw [(nI_cl (by omega)).2]; exact hu⟩
  have eS : gS_ (nI u).toNatClampNeg = ri h 114 u := by rw [(nI_cl (by omega)).2]; exact (uS u hu).symm
  have eZ : gZ_ (nI u).toNatClampNeg = ri h 115 u := by rw [(nI_cl (by omega)).2]; exact (uZ u hu).symm
  by_cases hm : ri h (82 + 2 * u) 1 = -1
  · have gS : ¬ (0 : Int32) ≤ ri h 114 u := by rw [← es, hm]; decide
    refine mark_same hh hj hv (v := -1000000011) ⟨Nat.le_of_ble_eq_true rfl, ⟨_, _, rfl⟩, ?_⟩ ⟨Nat.le_of_ble_eq_true rfl, ⟨_, _, rfl⟩, ?_⟩
    · show RA prog E pV1 120 mX7_mark 0 [some (.ref 0), some (.int (nI u)), some (.int x2), some (.int x3), none] [] h (some (.int (-1000000011)), h, 0, 0)
      refine RA.steps (i' := 2) (L' := [some (.ref 0), some (.int (nI u)), some (.int x2), some (.int x3), none]) (st' := [.int (nI u), .ref 0]) (h' := h) 2 rfl ?_
      refine RA.call0 (N := mX7_rowOf) (as := [.ref 0, .int (nI u)]) (rest := []) rfl rfl (pcallV rfl rfl ho0 rfl rfl (Nat.le_of_ble_eq_true rfl)) (rowOf_x (d := 118) hh hu) ?_
      refine RA.steps (i' := 9) (L' := [some (.ref 0), some (.int (nI u)), some (.int x2), some (.int x3), some (.ref (82 + 2 * u))]) (st' := [.ref (82 + 2 * u)]) (h' := h) 4 rfl ?_
      refine RA.call0 (N := mX3_isMissing) (as := [.ref (82 + 2 * u)]) (rest := []) rfl rfl (pcallV rfl rfl hor rfl rfl (Nat.le_of_ble_eq_true rfl)) (isMis_t (d := 118) hh hu hm) ?_
      refine RA.if1F rfl rfl ?_
      refine RA.steps (i' := 12) (L' := [some (.ref 0), some (.int (nI u)), some (.int x2), some (.int x3), some (.ref (82 + 2 * u))]) (st' := [.int (-1000000011)]) (h' := h) 1 rfl ?_
      exact RA.ret rfl rfl
    · show RA prog E pV1 120 mX8_mark 0 [some (.ref 110), some (.int (nI u)), some (.int x2), some (.int x3)] [] h (some (.int (-1000000011)), h, 0, 0)
      refine RA.steps (i' := 1) (L' := [some (.ref 110), some (.int (nI u)), some (.int x2), some (.int x3)]) (st' := [.int (nI u)]) (h' := h) 1 rfl ?_
      refine RA.call0 (N := mX8_isSheet) (as := [.int (nI u)]) (rest := []) rfl rfl rfl (isSh_t (d := 117) hs3) ?_
      refine RA.if1T rfl rfl ?_
      refine RA.steps (i' := 6) (L' := [some (.ref 110), some (.int (nI u)), some (.int x2), some (.int x3)]) (st' := [.ref 110]) (h' := h) 1 rfl ?_
      refine RA.getf rfl ho8 rfl (hF8.ref (k := 4) rfl) ?_
      refine RA.steps (i' := 8) (L' := [some (.ref 110), some (.int (nI u)), some (.int x2), some (.int x3)]) (st' := [.int (nI u), .ref 114]) (h' := h) 1 rfl ?_
      refine RA.iald rfl pS bS eS ?_
      refine RA.if1F rfl (decide_eq_false gS) ?_
      refine RA.steps (i' := 11) (L' := [some (.ref 110), some (.int (nI u)), some (.int x2), some (.int x3)]) (st' := [.int (-1000000011)]) (h' := h) 1 rfl ?_
      exact RA.ret rfl rfl
  have gS : (0 : Int32) ≤ ri h 114 u := Int32.le_iff_toInt_le.mpr (by
    have : ¬ (ri h 114 u).toInt = -1 := fun q => hm (by rw [es]; exact Int32.toInt_inj.mp (q.trans (by decide)))
    omega)
  have z1 : (ri h 115 u - 1).toInt = (ri h 115 u).toInt - 1 := by
    rw [Int32.toInt_sub, show (1 : Int32).toInt = 1 by decide]
    exact bm32 (by unfold mI; omega) (by unfold MI; omega)
  by_cases hb : 0 ≤ x2 ∧ x2 < ri h (82 + 2 * u) 2
  rotate_left
  · have hi : ¬ ((0 : Int32) ≤ x2 ∧ x2 ≤ ri h 115 u - 1) := fun q => hb ⟨q.1, by
      have q2 := Int32.le_iff_toInt_le.mp q.2
      rw [ez]
      exact Int32.lt_iff_toInt_lt.mpr (by omega)⟩
    refine mark_same hh hj hv (v := -1000000013) ⟨Nat.le_of_ble_eq_true rfl, ⟨_, _, rfl⟩, ?_⟩ ⟨Nat.le_of_ble_eq_true rfl, ⟨_, _, rfl⟩, ?_⟩
    · show RA prog E pV1 120 mX7_mark 0 [some (.ref 0), some (.int (nI u)), some (.int x2), some (.int x3), none] [] h (some (.int (-1000000013)), h, 0, 0)
      refine RA.steps (i' := 2) (L' := [some (.ref 0), some (.int (nI u)), some (.int x2), some (.int x3), none]) (st' := [.int (nI u), .ref 0]) (h' := h) 2 rfl ?_
      refine RA.call0 (N := mX7_rowOf) (as := [.ref 0, .int (nI u)]) (rest := []) rfl rfl (pcallV rfl rfl ho0 rfl rfl (Nat.le_of_ble_eq_true rfl)) (rowOf_x (d := 118) hh hu) ?_
      refine RA.steps (i' := 9) (L' := [some (.ref 0), some (.int (nI u)), some (.int x2), some (.int x3), some (.ref (82 + 2 * u))]) (st' := [.ref (82 + 2 * u)]) (h' := h) 4 rfl ?_
      refine RA.call0 (N := mX3_isMissing) (as := [.ref (82 + 2 * u)]) (rest := []) rfl rfl (pcallV rfl rfl hor rfl rfl (Nat.le_of_ble_eq_true rfl)) (isMis_f (d := 118) hh hu hm) ?_
      refine RA.if1T rfl rfl ?_
      refine RA.steps (i' := 15) (L' := [some (.ref 0), some (.int (nI u)), some (.int x2), some (.int x3), some (.ref (82 + 2 * u))]) (st' := [.int x2, .ref (82 + 2 * u)]) (h' := h) 2 rfl ?_
      refine RA.call0 (N := mX3_has) (as := [.ref (82 + 2 * u), .int x2]) (rest := []) rfl rfl (pcallV rfl rfl hor rfl rfl (Nat.le_of_ble_eq_true rfl)) (has_f (d := 118) hh hu hb) ?_
      refine RA.if1F rfl rfl ?_
      refine RA.steps (i' := 18) (L' := [some (.ref 0), some (.int (nI u)), some (.int x2), some (.int x3), some (.ref (82 + 2 * u))]) (st' := [.int (-1000000013)]) (h' := h) 1 rfl ?_
      exact RA.ret rfl rfl
    · show RA prog E pV1 120 mX8_mark 0 [some (.ref 110), some (.int (nI u)), some (.int x2), some (.int x3)] [] h (some (.int (-1000000013)), h, 0, 0)
      refine RA.steps (i' := 1) (L' := [some (.ref 110), some (.int (nI u)), some (.int x2), some (.int x3)]) (st' := [.int (nI u)]) (h' := h) 1 rfl ?_
      refine RA.call0 (N := mX8_isSheet) (as := [.int (nI u)]) (rest := []) rfl rfl rfl (isSh_t (d := 117) hs3) ?_
      refine RA.if1T rfl rfl ?_
      refine RA.steps (i' := 6) (L' := [some (.ref 110), some (.int (nI u)), some (.int x2), some (.int x3)]) (st' := [.ref 110]) (h' := h) 1 rfl ?_
      refine RA.getf rfl ho8 rfl (hF8.ref (k := 4) rfl) ?_
      refine RA.steps (i' := 8) (L' := [some (.ref 110), some (.int (nI u)), some (.int x2), some (.int x3)]) (st' := [.int (nI u), .ref 114]) (h' := h) 1 rfl ?_
      refine RA.iald rfl pS bS eS ?_
      refine RA.if1T rfl (decide_eq_true gS) ?_
      refine RA.steps (i' := 16) (L' := [some (.ref 110), some (.int (nI u)), some (.int x2), some (.int x3)]) (st' := [.ref 110, .long (Int32.toInt64 0), .long x2.toInt64]) (h' := h) 4 rfl ?_
      refine RA.getf rfl ho8 rfl (hF8.ref (k := 5) rfl) ?_
      refine RA.steps (i' := 18) (L' := [some (.ref 110), some (.int (nI u)), some (.int x2), some (.int x3)]) (st' := [.int (nI u), .ref 115, .long (Int32.toInt64 0), .long x2.toInt64]) (h' := h) 1 rfl ?_
      refine RA.iald rfl pZ bS eZ ?_
      refine RA.steps (i' := 22) (L' := [some (.ref 110), some (.int (nI u)), some (.int x2), some (.int x3)]) (st' := [.long ((ri h 115 u) - 1).toInt64, .long (Int32.toInt64 0), .long x2.toInt64]) (h' := h) 3 rfl ?_
      refine RA.call0 (N := mX8_isIn) (as := [.long x2.toInt64, .long (Int32.toInt64 0), .long ((ri h 115 u) - 1).toInt64]) (rest := []) rfl rfl rfl (isIn_f hi) ?_
      refine RA.if1F rfl rfl ?_
      refine RA.steps (i' := 25) (L' := [some (.ref 110), some (.int (nI u)), some (.int x2), some (.int x3)]) (st' := [.int (-1000000013)]) (h' := h) 1 rfl ?_
      exact RA.ret rfl rfl
  have b1 := Int32.le_iff_toInt_le.mp hb.1
  have b2 := Int32.lt_iff_toInt_lt.mp hb.2
  rw [ez] at b2
  obtain ⟨p, rfl, hp0⟩ := nIof (x := x2) (by omega) (by omega)
  have hp24 : p < 24 := by omega
  obtain ⟨f, hp, -⟩ := vals_at hh u hu
  have hi : (0 : Int32) ≤ nI p ∧ nI p ≤ ri h 115 u - 1 := ⟨hb.1, Int32.le_iff_toInt_le.mpr (by omega)⟩
  by_cases hz : ri h 114 u = 0
  · have hz2 : ri h (82 + 2 * u) 1 = 0 := es.trans hz
    by_cases hn3 : x3 = -1000000005
    · skip
      refine mark_same hh hj hv (v := -1000000012) ⟨Nat.le_of_ble_eq_true rfl, ⟨_, _, rfl⟩, ?_⟩ ⟨Nat.le_of_ble_eq_true rfl, ⟨_, _, rfl⟩, ?_⟩
      · show RA prog E pV1 120 mX7_mark 0 [some (.ref 0), some (.int (nI u)), some (.int (nI p)), some (.int x3), none] [] h (some (.int (-1000000012)), h, 0, 0)
        refine RA.steps (i' := 2) (L' := [some (.ref 0), some (.int (nI u)), some (.int (nI p)), some (.int x3), none]) (st' := [.int (nI u), .ref 0]) (h' := h) 2 rfl ?_
        refine RA.call0 (N := mX7_rowOf) (as := [.ref 0, .int (nI u)]) (rest := []) rfl rfl (pcallV rfl rfl ho0 rfl rfl (Nat.le_of_ble_eq_true rfl)) (rowOf_x (d := 118) hh hu) ?_
        refine RA.steps (i' := 9) (L' := [some (.ref 0), some (.int (nI u)), some (.int (nI p)), some (.int x3), some (.ref (82 + 2 * u))]) (st' := [.ref (82 + 2 * u)]) (h' := h) 4 rfl ?_
        refine RA.call0 (N := mX3_isMissing) (as := [.ref (82 + 2 * u)]) (rest := []) rfl rfl (pcallV rfl rfl hor rfl rfl (Nat.le_of_ble_eq_true rfl)) (isMis_f (d := 118) hh hu hm) ?_
        refine RA.if1T rfl rfl ?_
        refine RA.steps (i' := 15) (L' := [some (.ref 0), some (.int (nI u)), some (.int (nI p)), some (.int x3), some (.ref (82 + 2 * u))]) (st' := [.int (nI p), .ref (82 + 2 * u)]) (h' := h) 2 rfl ?_
        refine RA.call0 (N := mX3_has) (as := [.ref (82 + 2 * u), .int (nI p)]) (rest := []) rfl rfl (pcallV rfl rfl hor rfl rfl (Nat.le_of_ble_eq_true rfl)) (has_t (d := 118) hh hu hb.1 hb.2) ?_
        refine RA.if1T rfl rfl ?_
        refine RA.steps (i' := 20) (L' := [some (.ref 0), some (.int (nI u)), some (.int (nI p)), some (.int x3), some (.ref (82 + 2 * u))]) (st' := [.ref (82 + 2 * u)]) (h' := h) 1 rfl ?_
        refine RA.getf rfl hor rfl h1 ?_
        refine RA.if1F rfl (decide_eq_false (fun q => q hz2)) ?_
        refine RA.steps (i' := 24) (L' := [some (.ref 0), some (.int (nI u)), some (.int (nI p)), some (.int x3), some (.ref (82 + 2 * u))]) (st' := [.int (-1000000005), .int x3]) (h' := h) 2 rfl ?_
        refine RA.if2F rfl (decide_eq_false (fun q => q hn3)) ?_
        refine RA.steps (i' := 26) (L' := [some (.ref 0), some (.int (nI u)), some (.int (nI p)), some (.int x3), some (.ref (82 + 2 * u))]) (st' := [.int (-1000000012)]) (h' := h) 1 rfl ?_
        exact RA.ret rfl rfl
      · show RA prog E pV1 120 mX8_mark 0 [some (.ref 110), some (.int (nI u)), some (.int (nI p)), some (.int x3)] [] h (some (.int (-1000000012)), h, 0, 0)
        refine RA.steps (i' := 1) (L' := [some (.ref 110), some (.int (nI u)), some (.int (nI p)), some (.int x3)]) (st' := [.int (nI u)]) (h' := h) 1 rfl ?_
        refine RA.call0 (N := mX8_isSheet) (as := [.int (nI u)]) (rest := []) rfl rfl rfl (isSh_t (d := 117) hs3) ?_
        refine RA.if1T rfl rfl ?_
        refine RA.steps (i' := 6) (L' := [some (.ref 110), some (.int (nI u)), some (.int (nI p)), some (.int x3)]) (st' := [.ref 110]) (h' := h) 1 rfl ?_
        refine RA.getf rfl ho8 rfl (hF8.ref (k := 4) rfl) ?_
        refine RA.steps (i' := 8) (L' := [some (.ref 110), some (.int (nI u)), some (.int (nI p)), some (.int x3)]) (st' := [.int (nI u), .ref 114]) (h' := h) 1 rfl ?_
        refine RA.iald rfl pS bS eS ?_
        refine RA.if1T rfl (decide_eq_true gS) ?_
        refine RA.steps (i' := 16) (L' := [some (.ref 110), some (.int (nI u)), some (.int (nI p)), some (.int x3)]) (st' := [.ref 110, .long (Int32.toInt64 0), .long (nI p).toInt64]) (h' := h) 4 rfl ?_
        refine RA.getf rfl ho8 rfl (hF8.ref (k := 5) rfl) ?_
        refine RA.steps (i' := 18) (L' := [some (.ref 110), some (.int (nI u)), some (.int (nI p)), some (.int x3)]) (st' := [.int (nI u), .ref 115, .long (Int32.toInt64 0), .long (nI p).toInt64]) (h' := h) 1 rfl ?_
        refine RA.iald rfl pZ bS eZ ?_
        refine RA.steps (i' := 22) (L' := [some (.ref 110), some (.int (nI u)), some (.int (nI p)), some (.int x3)]) (st' := [.long ((ri h 115 u) - 1).toInt64, .long (Int32.toInt64 0), .long (nI p).toInt64]) (h' := h) 3 rfl ?_
        refine RA.call0 (N := mX8_isIn) (as := [.long (nI p).toInt64, .long (Int32.toInt64 0), .long ((ri h 115 u) - 1).toInt64]) (rest := []) rfl rfl rfl (isIn_t hi) ?_
        refine RA.if1T rfl rfl ?_
        refine RA.steps (i' := 27) (L' := [some (.ref 110), some (.int (nI u)), some (.int (nI p)), some (.int x3)]) (st' := [.ref 110]) (h' := h) 1 rfl ?_
        refine RA.getf rfl ho8 rfl (hF8.ref (k := 4) rfl) ?_
        refine RA.steps (i' := 29) (L' := [some (.ref 110), some (.int (nI u)), some (.int (nI p)), some (.int x3)]) (st' := [.int (nI u), .ref 114]) (h' := h) 1 rfl ?_
        refine RA.iald rfl pS bS eS ?_
        refine RA.if1F rfl (decide_eq_false (fun q => q hz)) ?_
        refine RA.steps (i' := 33) (L' := [some (.ref 110), some (.int (nI u)), some (.int (nI p)), some (.int x3)]) (st' := [.int (-1000000005), .int x3]) (h' := h) 2 rfl ?_
        refine RA.if2F rfl (decide_eq_false (fun q => q hn3)) ?_
        refine RA.steps (i' := 35) (L' := [some (.ref 110), some (.int (nI u)), some (.int (nI p)), some (.int x3)]) (st' := [.int (-1000000012)]) (h' := h) 1 rfl ?_
        exact RA.ret rfl rfl
    · skip
      refine mark_put hh hj hv hu hp24 hp (w := x3.toInt16.toInt32) (hwb := i16_b x3) ⟨Nat.le_of_ble_eq_true rfl, ⟨_, _, rfl⟩, ?_⟩ (fun h1 g hh1 e14 e15 pg => ⟨Nat.le_of_ble_eq_true rfl, ⟨_, _, rfl⟩, ?_⟩)
      · show RA prog E pV1 120 mX7_mark 0 [some (.ref 0), some (.int (nI u)), some (.int (nI p)), some (.int x3), none] [] h (some (.int 1), (h.set (83 + 2 * u) (.inl (24, va_up f p x3.toInt16.toInt32))), 0, 0)
        refine RA.steps (i' := 2) (L' := [some (.ref 0), some (.int (nI u)), some (.int (nI p)), some (.int x3), none]) (st' := [.int (nI u), .ref 0]) (h' := h) 2 rfl ?_
        refine RA.call0 (N := mX7_rowOf) (as := [.ref 0, .int (nI u)]) (rest := []) rfl rfl (pcallV rfl rfl ho0 rfl rfl (Nat.le_of_ble_eq_true rfl)) (rowOf_x (d := 118) hh hu) ?_
        refine RA.steps (i' := 9) (L' := [some (.ref 0), some (.int (nI u)), some (.int (nI p)), some (.int x3), some (.ref (82 + 2 * u))]) (st' := [.ref (82 + 2 * u)]) (h' := h) 4 rfl ?_
        refine RA.call0 (N := mX3_isMissing) (as := [.ref (82 + 2 * u)]) (rest := []) rfl rfl (pcallV rfl rfl hor rfl rfl (Nat.le_of_ble_eq_true rfl)) (isMis_f (d := 118) hh hu hm) ?_
        refine RA.if1T rfl rfl ?_
        refine RA.steps (i' := 15) (L' := [some (.ref 0), some (.int (nI u)), some (.int (nI p)), some (.int x3), some (.ref (82 + 2 * u))]) (st' := [.int (nI p), .ref (82 + 2 * u)]) (h' := h) 2 rfl ?_
        refine RA.call0 (N := mX3_has) (as := [.ref (82 + 2 * u), .int (nI p)]) (rest := []) rfl rfl (pcallV rfl rfl hor rfl rfl (Nat.le_of_ble_eq_true rfl)) (has_t (d := 118) hh hu hb.1 hb.2) ?_
        refine RA.if1T rfl rfl ?_
        refine RA.steps (i' := 20) (L' := [some (.ref 0), some (.int (nI u)), some (.int (nI p)), some (.int x3), some (.ref (82 + 2 * u))]) (st' := [.ref (82 + 2 * u)]) (h' := h) 1 rfl ?_
        refine RA.getf rfl hor rfl h1 ?_
        refine RA.if1F rfl (decide_eq_false (fun q => q hz2)) ?_
        refine RA.steps (i' := 24) (L' := [some (.ref 0), some (.int (nI u)), some (.int (nI p)), some (.int x3), some (.ref (82 + 2 * u))]) (st' := [.int (-1000000005), .int x3]) (h' := h) 2 rfl ?_
        refine RA.if2T rfl (decide_eq_true hn3) ?_
        refine RA.steps (i' := 31) (L' := [some (.ref 0), some (.int (nI u)), some (.int (nI p)), some (.int x3), some (.ref (82 + 2 * u))]) (st' := [.int (x3.toInt16.toInt32), .int (nI p), .ref (82 + 2 * u)]) (h' := h) 4 rfl ?_
        refine RA.call0 (N := mX3_put) (as := [.ref (82 + 2 * u), .int (nI p), .int (x3.toInt16.toInt32)]) (rest := []) rfl rfl (pcallV rfl rfl hor rfl rfl (Nat.le_of_ble_eq_true rfl)) (put_x (d := 117) hh hu hp24 hp hb.1 hb.2) ?_
        refine RA.steps (i' := 33) (L' := [some (.ref 0), some (.int (nI u)), some (.int (nI p)), some (.int x3), some (.ref (82 + 2 * u))]) (st' := [.int 1]) (h' := (h.set (83 + 2 * u) (.inl (24, va_up f p x3.toInt16.toInt32)))) 1 rfl ?_
        exact RA.ret rfl rfl
      · obtain ⟨fs8, ho8, hF8⟩ := hi_obj hh1 (a := 110) rfl
        obtain ⟨gS_, pS, uS, -⟩ := hi_int (a := 114) (n := 4) (sg := [(0, 3, -1, 1)]) hh1 rfl
        obtain ⟨gZ_, pZ, uZ, -⟩ := hi_int (a := 115) (n := 4) (sg := [(0, 3, 0, 24)]) hh1 rfl
        have eS : gS_ (nI u).toNatClampNeg = ri h 114 u := by rw [(nI_cl (by omega)).2, ← uS u hu, e14]
        have eZ : gZ_ (nI u).toNatClampNeg = ri h 115 u := by rw [(nI_cl (by omega)).2, ← uZ u hu, e15]
        show RA prog E pV1 120 mX8_mark 0 [some (.ref 110), some (.int (nI u)), some (.int (nI p)), some (.int x3)] [] h1 (some (.int 1), h1.set 116 (.inl (96, va_up g (24 * u + p) x3.toInt16.toInt32)), 0, 0)
        rw [show va_up g (24 * u + p) x3.toInt16.toInt32 = va_up g (nI (24 * u + p)).toNatClampNeg x3.toInt16.toInt32 by rw [(nI_cl (by omega)).2]]
        refine RA.steps (i' := 1) (L' := [some (.ref 110), some (.int (nI u)), some (.int (nI p)), some (.int x3)]) (st' := [.int (nI u)]) (h' := h1) 1 rfl ?_
        refine RA.call0 (N := mX8_isSheet) (as := [.int (nI u)]) (rest := []) rfl rfl rfl (isSh_t (d := 117) hs3) ?_
        refine RA.if1T rfl rfl ?_
        refine RA.steps (i' := 6) (L' := [some (.ref 110), some (.int (nI u)), some (.int (nI p)), some (.int x3)]) (st' := [.ref 110]) (h' := h1) 1 rfl ?_
        refine RA.getf rfl ho8 rfl (hF8.ref (k := 4) rfl) ?_
        refine RA.steps (i' := 8) (L' := [some (.ref 110), some (.int (nI u)), some (.int (nI p)), some (.int x3)]) (st' := [.int (nI u), .ref 114]) (h' := h1) 1 rfl ?_
        refine RA.iald rfl pS bS eS ?_
        refine RA.if1T rfl (decide_eq_true gS) ?_
        refine RA.steps (i' := 16) (L' := [some (.ref 110), some (.int (nI u)), some (.int (nI p)), some (.int x3)]) (st' := [.ref 110, .long (Int32.toInt64 0), .long (nI p).toInt64]) (h' := h1) 4 rfl ?_
        refine RA.getf rfl ho8 rfl (hF8.ref (k := 5) rfl) ?_
        refine RA.steps (i' := 18) (L' := [some (.ref 110), some (.int (nI u)), some (.int (nI p)), some (.int x3)]) (st' := [.int (nI u), .ref 115, .long (Int32.toInt64 0), .long (nI p).toInt64]) (h' := h1) 1 rfl ?_
        refine RA.iald rfl pZ bS eZ ?_
        refine RA.steps (i' := 22) (L' := [some (.ref 110), some (.int (nI u)), some (.int (nI p)), some (.int x3)]) (st' := [.long ((ri h 115 u) - 1).toInt64, .long (Int32.toInt64 0), .long (nI p).toInt64]) (h' := h1) 3 rfl ?_
        refine RA.call0 (N := mX8_isIn) (as := [.long (nI p).toInt64, .long (Int32.toInt64 0), .long ((ri h 115 u) - 1).toInt64]) (rest := []) rfl rfl rfl (isIn_t hi) ?_
        refine RA.if1T rfl rfl ?_
        refine RA.steps (i' := 27) (L' := [some (.ref 110), some (.int (nI u)), some (.int (nI p)), some (.int x3)]) (st' := [.ref 110]) (h' := h1) 1 rfl ?_
        refine RA.getf rfl ho8 rfl (hF8.ref (k := 4) rfl) ?_
        refine RA.steps (i' := 29) (L' := [some (.ref 110), some (.int (nI u)), some (.int (nI p)), some (.int x3)]) (st' := [.int (nI u), .ref 114]) (h' := h1) 1 rfl ?_
        refine RA.iald rfl pS bS eS ?_
        refine RA.if1F rfl (decide_eq_false (fun q => q hz)) ?_
        refine RA.steps (i' := 33) (L' := [some (.ref 110), some (.int (nI u)), some (.int (nI p)), some (.int x3)]) (st' := [.int (-1000000005), .int x3]) (h' := h1) 2 rfl ?_
        refine RA.if2T rfl (decide_eq_true hn3) ?_
        refine RA.steps (i' := 37) (L' := [some (.ref 110), some (.int (nI u)), some (.int (nI p)), some (.int x3)]) (st' := [.ref 110]) (h' := h1) 1 rfl ?_
        refine RA.getf rfl ho8 rfl (hF8.ref (k := 4) rfl) ?_
        refine RA.steps (i' := 39) (L' := [some (.ref 110), some (.int (nI u)), some (.int (nI p)), some (.int x3)]) (st' := [.int (nI u), .ref 114]) (h' := h1) 1 rfl ?_
        refine RA.iald rfl pS bS eS ?_
        refine RA.steps (i' := 41) (L' := [some (.ref 110), some (.int (nI u)), some (.int (nI p)), some (.int x3)]) (st' := [.int 1, .int (ri h 114 u)]) (h' := h1) 1 rfl ?_
        refine RA.if2T rfl (decide_eq_true (fun q => absurd (hz.symm.trans q) (by decide))) ?_
        refine RA.steps (i' := 54) (L' := [some (.ref 110), some (.int (nI u)), some (.int (nI p)), some (.int x3)]) (st' := [.ref 110]) (h' := h1) 1 rfl ?_
        refine RA.getf rfl ho8 rfl (hF8.ref (k := 6) rfl) ?_
        refine RA.steps (i' := 60) (L' := [some (.ref 110), some (.int (nI u)), some (.int (nI p)), some (.int x3)]) (st' := [.int ((24 * (nI u)) + (nI p)), .ref 116]) (h' := h1) 5 rfl ?_
        rw [(eAdr hu)]
        refine RA.steps (i' := 61) (L' := [some (.ref 110), some (.int (nI u)), some (.int (nI p)), some (.int x3)]) (st' := [.ref 110, .int (nI (24 * u + p)), .ref 116]) (h' := h1) 1 rfl ?_
        refine RA.getf rfl ho8 rfl (hF8.ref (k := 4) rfl) ?_
        refine RA.steps (i' := 63) (L' := [some (.ref 110), some (.int (nI u)), some (.int (nI p)), some (.int x3)]) (st' := [.int (nI u), .ref 114, .int (nI (24 * u + p)), .ref 116]) (h' := h1) 1 rfl ?_
        refine RA.iald rfl pS bS eS ?_
        refine RA.if1F rfl (decide_eq_false (fun q => q hz)) ?_
        refine RA.steps (i' := 70) (L' := [some (.ref 110), some (.int (nI u)), some (.int (nI p)), some (.int x3)]) (st' := [.int ((x3 <<< ((16 : Int32) &&& 31)) >>> ((16 : Int32) &&& 31)), .int (nI (24 * u + p)), .ref 116]) (h' := h1) 5 rfl ?_
        rw [(sh16 x3)]
        refine RA.steps (i' := 72) (L' := [some (.ref 110), some (.int (nI u)), some (.int (nI p)), some (.int x3)]) (st' := [.int (x3.toInt16.toInt32), .int (nI (24 * u + p)), .ref 116]) (h' := h1) 1 rfl ?_
        refine RA.iast rfl pg ⟨(nI_cl (by omega)).1, by rw [(nI_cl (by omega)).2]; show 24 * u + p < 96; omega⟩ ?_
        refine RA.steps (i' := 74) (L' := [some (.ref 110), some (.int (nI u)), some (.int (nI p)), some (.int x3)]) (st' := [.int 1]) (h' := (h1.set 116 (.inl (96, va_up g (nI (24 * u + p)).toNatClampNeg x3.toInt16.toInt32)))) 1 rfl ?_
        exact RA.ret rfl rfl
  have hz1 : ri h 114 u = 1 := Int32.toInt_inj.mp (by
    have : ¬ (ri h 114 u).toInt = 0 := fun q => hz (Int32.toInt_inj.mp (q.trans (by decide)))
    have := Int32.le_iff_toInt_le.mp gS
    rw [show (1 : Int32).toInt = 1 by decide]
    omega)
  by_cases hn3 : x3 = -1000000005
  · skip
    refine mark_put hh hj hv hu hp24 hp (w := x3) (hwb := by rw [hn3]; decide +kernel) ⟨Nat.le_of_ble_eq_true rfl, ⟨_, _, rfl⟩, ?_⟩ (fun h1 g hh1 e14 e15 pg => ⟨Nat.le_of_ble_eq_true rfl, ⟨_, _, rfl⟩, ?_⟩)
    · show RA prog E pV1 120 mX7_mark 0 [some (.ref 0), some (.int (nI u)), some (.int (nI p)), some (.int x3), none] [] h (some (.int 1), (h.set (83 + 2 * u) (.inl (24, va_up f p x3))), 0, 0)
      refine RA.steps (i' := 2) (L' := [some (.ref 0), some (.int (nI u)), some (.int (nI p)), some (.int x3), none]) (st' := [.int (nI u), .ref 0]) (h' := h) 2 rfl ?_
      refine RA.call0 (N := mX7_rowOf) (as := [.ref 0, .int (nI u)]) (rest := []) rfl rfl (pcallV rfl rfl ho0 rfl rfl (Nat.le_of_ble_eq_true rfl)) (rowOf_x (d := 118) hh hu) ?_
      refine RA.steps (i' := 9) (L' := [some (.ref 0), some (.int (nI u)), some (.int (nI p)), some (.int x3), some (.ref (82 + 2 * u))]) (st' := [.ref (82 + 2 * u)]) (h' := h) 4 rfl ?_
      refine RA.call0 (N := mX3_isMissing) (as := [.ref (82 + 2 * u)]) (rest := []) rfl rfl (pcallV rfl rfl hor rfl rfl (Nat.le_of_ble_eq_true rfl)) (isMis_f (d := 118) hh hu hm) ?_
      refine RA.if1T rfl rfl ?_
      refine RA.steps (i' := 15) (L' := [some (.ref 0), some (.int (nI u)), some (.int (nI p)), some (.int x3), some (.ref (82 + 2 * u))]) (st' := [.int (nI p), .ref (82 + 2 * u)]) (h' := h) 2 rfl ?_
      refine RA.call0 (N := mX3_has) (as := [.ref (82 + 2 * u), .int (nI p)]) (rest := []) rfl rfl (pcallV rfl rfl hor rfl rfl (Nat.le_of_ble_eq_true rfl)) (has_t (d := 118) hh hu hb.1 hb.2) ?_
      refine RA.if1T rfl rfl ?_
      refine RA.steps (i' := 20) (L' := [some (.ref 0), some (.int (nI u)), some (.int (nI p)), some (.int x3), some (.ref (82 + 2 * u))]) (st' := [.ref (82 + 2 * u)]) (h' := h) 1 rfl ?_
      refine RA.getf rfl hor rfl h1 ?_
      refine RA.if1T rfl (decide_eq_true (fun q => hz (es.symm.trans q))) ?_
      refine RA.steps (i' := 36) (L' := [some (.ref 0), some (.int (nI u)), some (.int (nI p)), some (.int x3), some (.ref (82 + 2 * u))]) (st' := [.int (-1000000005), .int x3]) (h' := h) 2 rfl ?_
      refine RA.if2T rfl (decide_eq_true hn3) ?_
      refine RA.steps (i' := 47) (L' := [some (.ref 0), some (.int (nI u)), some (.int (nI p)), some (.int x3), some (.ref (82 + 2 * u))]) (st' := [.int x3, .int (nI p), .ref (82 + 2 * u)]) (h' := h) 3 rfl ?_
      refine RA.call0 (N := mX3_put) (as := [.ref (82 + 2 * u), .int (nI p), .int x3]) (rest := []) rfl rfl (pcallV rfl rfl hor rfl rfl (Nat.le_of_ble_eq_true rfl)) (put_x (d := 117) hh hu hp24 hp hb.1 hb.2) ?_
      refine RA.steps (i' := 49) (L' := [some (.ref 0), some (.int (nI u)), some (.int (nI p)), some (.int x3), some (.ref (82 + 2 * u))]) (st' := [.int 1]) (h' := (h.set (83 + 2 * u) (.inl (24, va_up f p x3)))) 1 rfl ?_
      exact RA.ret rfl rfl
    · obtain ⟨fs8, ho8, hF8⟩ := hi_obj hh1 (a := 110) rfl
      obtain ⟨gS_, pS, uS, -⟩ := hi_int (a := 114) (n := 4) (sg := [(0, 3, -1, 1)]) hh1 rfl
      obtain ⟨gZ_, pZ, uZ, -⟩ := hi_int (a := 115) (n := 4) (sg := [(0, 3, 0, 24)]) hh1 rfl
      have eS : gS_ (nI u).toNatClampNeg = ri h 114 u := by rw [(nI_cl (by omega)).2, ← uS u hu, e14]
      have eZ : gZ_ (nI u).toNatClampNeg = ri h 115 u := by rw [(nI_cl (by omega)).2, ← uZ u hu, e15]
      show RA prog E pV1 120 mX8_mark 0 [some (.ref 110), some (.int (nI u)), some (.int (nI p)), some (.int x3)] [] h1 (some (.int 1), h1.set 116 (.inl (96, va_up g (24 * u + p) x3)), 0, 0)
      rw [show va_up g (24 * u + p) x3 = va_up g (nI (24 * u + p)).toNatClampNeg x3 by rw [(nI_cl (by omega)).2]]
      refine RA.steps (i' := 1) (L' := [some (.ref 110), some (.int (nI u)), some (.int (nI p)), some (.int x3)]) (st' := [.int (nI u)]) (h' := h1) 1 rfl ?_
      refine RA.call0 (N := mX8_isSheet) (as := [.int (nI u)]) (rest := []) rfl rfl rfl (isSh_t (d := 117) hs3) ?_
      refine RA.if1T rfl rfl ?_
      refine RA.steps (i' := 6) (L' := [some (.ref 110), some (.int (nI u)), some (.int (nI p)), some (.int x3)]) (st' := [.ref 110]) (h' := h1) 1 rfl ?_
      refine RA.getf rfl ho8 rfl (hF8.ref (k := 4) rfl) ?_
      refine RA.steps (i' := 8) (L' := [some (.ref 110), some (.int (nI u)), some (.int (nI p)), some (.int x3)]) (st' := [.int (nI u), .ref 114]) (h' := h1) 1 rfl ?_
      refine RA.iald rfl pS bS eS ?_
      refine RA.if1T rfl (decide_eq_true gS) ?_
      refine RA.steps (i' := 16) (L' := [some (.ref 110), some (.int (nI u)), some (.int (nI p)), some (.int x3)]) (st' := [.ref 110, .long (Int32.toInt64 0), .long (nI p).toInt64]) (h' := h1) 4 rfl ?_
      refine RA.getf rfl ho8 rfl (hF8.ref (k := 5) rfl) ?_
      refine RA.steps (i' := 18) (L' := [some (.ref 110), some (.int (nI u)), some (.int (nI p)), some (.int x3)]) (st' := [.int (nI u), .ref 115, .long (Int32.toInt64 0), .long (nI p).toInt64]) (h' := h1) 1 rfl ?_
      refine RA.iald rfl pZ bS eZ ?_
      refine RA.steps (i' := 22) (L' := [some (.ref 110), some (.int (nI u)), some (.int (nI p)), some (.int x3)]) (st' := [.long ((ri h 115 u) - 1).toInt64, .long (Int32.toInt64 0), .long (nI p).toInt64]) (h' := h1) 3 rfl ?_
      refine RA.call0 (N := mX8_isIn) (as := [.long (nI p).toInt64, .long (Int32.toInt64 0), .long ((ri h 115 u) - 1).toInt64]) (rest := []) rfl rfl rfl (isIn_t hi) ?_
      refine RA.if1T rfl rfl ?_
      refine RA.steps (i' := 27) (L' := [some (.ref 110), some (.int (nI u)), some (.int (nI p)), some (.int x3)]) (st' := [.ref 110]) (h' := h1) 1 rfl ?_
      refine RA.getf rfl ho8 rfl (hF8.ref (k := 4) rfl) ?_
      refine RA.steps (i' := 29) (L' := [some (.ref 110), some (.int (nI u)), some (.int (nI p)), some (.int x3)]) (st' := [.int (nI u), .ref 114]) (h' := h1) 1 rfl ?_
      refine RA.iald rfl pS bS eS ?_
      refine RA.if1T rfl (decide_eq_true hz) ?_
      refine RA.steps (i' := 37) (L' := [some (.ref 110), some (.int (nI u)), some (.int (nI p)), some (.int x3)]) (st' := [.ref 110]) (h' := h1) 1 rfl ?_
      refine RA.getf rfl ho8 rfl (hF8.ref (k := 4) rfl) ?_
      refine RA.steps (i' := 39) (L' := [some (.ref 110), some (.int (nI u)), some (.int (nI p)), some (.int x3)]) (st' := [.int (nI u), .ref 114]) (h' := h1) 1 rfl ?_
      refine RA.iald rfl pS bS eS ?_
      refine RA.steps (i' := 41) (L' := [some (.ref 110), some (.int (nI u)), some (.int (nI p)), some (.int x3)]) (st' := [.int 1, .int (ri h 114 u)]) (h' := h1) 1 rfl ?_
      refine RA.if2F rfl (decide_eq_false (fun q => q hz1)) ?_
      refine RA.steps (i' := 44) (L' := [some (.ref 110), some (.int (nI u)), some (.int (nI p)), some (.int x3)]) (st' := [.int (-1000000005), .int x3]) (h' := h1) 2 rfl ?_
      refine RA.if2T rfl (decide_eq_true hn3) ?_
      refine RA.steps (i' := 54) (L' := [some (.ref 110), some (.int (nI u)), some (.int (nI p)), some (.int x3)]) (st' := [.ref 110]) (h' := h1) 1 rfl ?_
      refine RA.getf rfl ho8 rfl (hF8.ref (k := 6) rfl) ?_
      refine RA.steps (i' := 60) (L' := [some (.ref 110), some (.int (nI u)), some (.int (nI p)), some (.int x3)]) (st' := [.int ((24 * (nI u)) + (nI p)), .ref 116]) (h' := h1) 5 rfl ?_
      rw [(eAdr hu)]
      refine RA.steps (i' := 61) (L' := [some (.ref 110), some (.int (nI u)), some (.int (nI p)), some (.int x3)]) (st' := [.ref 110, .int (nI (24 * u + p)), .ref 116]) (h' := h1) 1 rfl ?_
      refine RA.getf rfl ho8 rfl (hF8.ref (k := 4) rfl) ?_
      refine RA.steps (i' := 63) (L' := [some (.ref 110), some (.int (nI u)), some (.int (nI p)), some (.int x3)]) (st' := [.int (nI u), .ref 114, .int (nI (24 * u + p)), .ref 116]) (h' := h1) 1 rfl ?_
      refine RA.iald rfl pS bS eS ?_
      refine RA.if1T rfl (decide_eq_true hz) ?_
      refine RA.steps (i' := 72) (L' := [some (.ref 110), some (.int (nI u)), some (.int (nI p)), some (.int x3)]) (st' := [.int x3, .int (nI (24 * u + p)), .ref 116]) (h' := h1) 1 rfl ?_
      refine RA.iast rfl pg ⟨(nI_cl (by omega)).1, by rw [(nI_cl (by omega)).2]; show 24 * u + p < 96; omega⟩ ?_
      refine RA.steps (i' := 74) (L' := [some (.ref 110), some (.int (nI u)), some (.int (nI p)), some (.int x3)]) (st' := [.int 1]) (h' := (h1.set 116 (.inl (96, va_up g (nI (24 * u + p)).toNatClampNeg x3)))) 1 rfl ?_
      exact RA.ret rfl rfl
  by_cases hw : (-99999 : Int32) ≤ x3 ∧ x3 ≤ 99999
  · skip
    refine mark_put hh hj hv hu hp24 hp (w := x3) (hwb := w_b hw) ⟨Nat.le_of_ble_eq_true rfl, ⟨_, _, rfl⟩, ?_⟩ (fun h1 g hh1 e14 e15 pg => ⟨Nat.le_of_ble_eq_true rfl, ⟨_, _, rfl⟩, ?_⟩)
    · show RA prog E pV1 120 mX7_mark 0 [some (.ref 0), some (.int (nI u)), some (.int (nI p)), some (.int x3), none] [] h (some (.int 1), (h.set (83 + 2 * u) (.inl (24, va_up f p x3))), 0, 0)
      refine RA.steps (i' := 2) (L' := [some (.ref 0), some (.int (nI u)), some (.int (nI p)), some (.int x3), none]) (st' := [.int (nI u), .ref 0]) (h' := h) 2 rfl ?_
      refine RA.call0 (N := mX7_rowOf) (as := [.ref 0, .int (nI u)]) (rest := []) rfl rfl (pcallV rfl rfl ho0 rfl rfl (Nat.le_of_ble_eq_true rfl)) (rowOf_x (d := 118) hh hu) ?_
      refine RA.steps (i' := 9) (L' := [some (.ref 0), some (.int (nI u)), some (.int (nI p)), some (.int x3), some (.ref (82 + 2 * u))]) (st' := [.ref (82 + 2 * u)]) (h' := h) 4 rfl ?_
      refine RA.call0 (N := mX3_isMissing) (as := [.ref (82 + 2 * u)]) (rest := []) rfl rfl (pcallV rfl rfl hor rfl rfl (Nat.le_of_ble_eq_true rfl)) (isMis_f (d := 118) hh hu hm) ?_
      refine RA.if1T rfl rfl ?_
      refine RA.steps (i' := 15) (L' := [some (.ref 0), some (.int (nI u)), some (.int (nI p)), some (.int x3), some (.ref (82 + 2 * u))]) (st' := [.int (nI p), .ref (82 + 2 * u)]) (h' := h) 2 rfl ?_
      refine RA.call0 (N := mX3_has) (as := [.ref (82 + 2 * u), .int (nI p)]) (rest := []) rfl rfl (pcallV rfl rfl hor rfl rfl (Nat.le_of_ble_eq_true rfl)) (has_t (d := 118) hh hu hb.1 hb.2) ?_
      refine RA.if1T rfl rfl ?_
      refine RA.steps (i' := 20) (L' := [some (.ref 0), some (.int (nI u)), some (.int (nI p)), some (.int x3), some (.ref (82 + 2 * u))]) (st' := [.ref (82 + 2 * u)]) (h' := h) 1 rfl ?_
      refine RA.getf rfl hor rfl h1 ?_
      refine RA.if1T rfl (decide_eq_true (fun q => hz (es.symm.trans q))) ?_
      refine RA.steps (i' := 36) (L' := [some (.ref 0), some (.int (nI u)), some (.int (nI p)), some (.int x3), some (.ref (82 + 2 * u))]) (st' := [.int (-1000000005), .int x3]) (h' := h) 2 rfl ?_
      refine RA.if2F rfl (decide_eq_false hn3) ?_
      refine RA.steps (i' := 40) (L' := [some (.ref 0), some (.int (nI u)), some (.int (nI p)), some (.int x3), some (.ref (82 + 2 * u))]) (st' := [.int 99999, .int (-99999), .int x3]) (h' := h) 3 rfl ?_
      refine RA.call0 (N := mX7_within) (as := [.int x3, .int (-99999), .int 99999]) (rest := []) rfl rfl rfl (within_t hw) ?_
      refine RA.if1T rfl rfl ?_
      refine RA.steps (i' := 47) (L' := [some (.ref 0), some (.int (nI u)), some (.int (nI p)), some (.int x3), some (.ref (82 + 2 * u))]) (st' := [.int x3, .int (nI p), .ref (82 + 2 * u)]) (h' := h) 3 rfl ?_
      refine RA.call0 (N := mX3_put) (as := [.ref (82 + 2 * u), .int (nI p), .int x3]) (rest := []) rfl rfl (pcallV rfl rfl hor rfl rfl (Nat.le_of_ble_eq_true rfl)) (put_x (d := 117) hh hu hp24 hp hb.1 hb.2) ?_
      refine RA.steps (i' := 49) (L' := [some (.ref 0), some (.int (nI u)), some (.int (nI p)), some (.int x3), some (.ref (82 + 2 * u))]) (st' := [.int 1]) (h' := (h.set (83 + 2 * u) (.inl (24, va_up f p x3)))) 1 rfl ?_
      exact RA.ret rfl rfl
    · obtain ⟨fs8, ho8, hF8⟩ := hi_obj hh1 (a := 110) rfl
      obtain ⟨gS_, pS, uS, -⟩ := hi_int (a := 114) (n := 4) (sg := [(0, 3, -1, 1)]) hh1 rfl
      obtain ⟨gZ_, pZ, uZ, -⟩ := hi_int (a := 115) (n := 4) (sg := [(0, 3, 0, 24)]) hh1 rfl
      have eS : gS_ (nI u).toNatClampNeg = ri h 114 u := by rw [(nI_cl (by omega)).2, ← uS u hu, e14]
      have eZ : gZ_ (nI u).toNatClampNeg = ri h 115 u := by rw [(nI_cl (by omega)).2, ← uZ u hu, e15]
      show RA prog E pV1 120 mX8_mark 0 [some (.ref 110), some (.int (nI u)), some (.int (nI p)), some (.int x3)] [] h1 (some (.int 1), h1.set 116 (.inl (96, va_up g (24 * u + p) x3)), 0, 0)
      rw [show va_up g (24 * u + p) x3 = va_up g (nI (24 * u + p)).toNatClampNeg x3 by rw [(nI_cl (by omega)).2]]
      refine RA.steps (i' := 1) (L' := [some (.ref 110), some (.int (nI u)), some (.int (nI p)), some (.int x3)]) (st' := [.int (nI u)]) (h' := h1) 1 rfl ?_
      refine RA.call0 (N := mX8_isSheet) (as := [.int (nI u)]) (rest := []) rfl rfl rfl (isSh_t (d := 117) hs3) ?_
      refine RA.if1T rfl rfl ?_
      refine RA.steps (i' := 6) (L' := [some (.ref 110), some (.int (nI u)), some (.int (nI p)), some (.int x3)]) (st' := [.ref 110]) (h' := h1) 1 rfl ?_
      refine RA.getf rfl ho8 rfl (hF8.ref (k := 4) rfl) ?_
      refine RA.steps (i' := 8) (L' := [some (.ref 110), some (.int (nI u)), some (.int (nI p)), some (.int x3)]) (st' := [.int (nI u), .ref 114]) (h' := h1) 1 rfl ?_
      refine RA.iald rfl pS bS eS ?_
      refine RA.if1T rfl (decide_eq_true gS) ?_
      refine RA.steps (i' := 16) (L' := [some (.ref 110), some (.int (nI u)), some (.int (nI p)), some (.int x3)]) (st' := [.ref 110, .long (Int32.toInt64 0), .long (nI p).toInt64]) (h' := h1) 4 rfl ?_
      refine RA.getf rfl ho8 rfl (hF8.ref (k := 5) rfl) ?_
      refine RA.steps (i' := 18) (L' := [some (.ref 110), some (.int (nI u)), some (.int (nI p)), some (.int x3)]) (st' := [.int (nI u), .ref 115, .long (Int32.toInt64 0), .long (nI p).toInt64]) (h' := h1) 1 rfl ?_
      refine RA.iald rfl pZ bS eZ ?_
      refine RA.steps (i' := 22) (L' := [some (.ref 110), some (.int (nI u)), some (.int (nI p)), some (.int x3)]) (st' := [.long ((ri h 115 u) - 1).toInt64, .long (Int32.toInt64 0), .long (nI p).toInt64]) (h' := h1) 3 rfl ?_
      refine RA.call0 (N := mX8_isIn) (as := [.long (nI p).toInt64, .long (Int32.toInt64 0), .long ((ri h 115 u) - 1).toInt64]) (rest := []) rfl rfl rfl (isIn_t hi) ?_
      refine RA.if1T rfl rfl ?_
      refine RA.steps (i' := 27) (L' := [some (.ref 110), some (.int (nI u)), some (.int (nI p)), some (.int x3)]) (st' := [.ref 110]) (h' := h1) 1 rfl ?_
      refine RA.getf rfl ho8 rfl (hF8.ref (k := 4) rfl) ?_
      refine RA.steps (i' := 29) (L' := [some (.ref 110), some (.int (nI u)), some (.int (nI p)), some (.int x3)]) (st' := [.int (nI u), .ref 114]) (h' := h1) 1 rfl ?_
      refine RA.iald rfl pS bS eS ?_
      refine RA.if1T rfl (decide_eq_true hz) ?_
      refine RA.steps (i' := 37) (L' := [some (.ref 110), some (.int (nI u)), some (.int (nI p)), some (.int x3)]) (st' := [.ref 110]) (h' := h1) 1 rfl ?_
      refine RA.getf rfl ho8 rfl (hF8.ref (k := 4) rfl) ?_
      refine RA.steps (i' := 39) (L' := [some (.ref 110), some (.int (nI u)), some (.int (nI p)), some (.int x3)]) (st' := [.int (nI u), .ref 114]) (h' := h1) 1 rfl ?_
      refine RA.iald rfl pS bS eS ?_
      refine RA.steps (i' := 41) (L' := [some (.ref 110), some (.int (nI u)), some (.int (nI p)), some (.int x3)]) (st' := [.int 1, .int (ri h 114 u)]) (h' := h1) 1 rfl ?_
      refine RA.if2F rfl (decide_eq_false (fun q => q hz1)) ?_
      refine RA.steps (i' := 44) (L' := [some (.ref 110), some (.int (nI u)), some (.int (nI p)), some (.int x3)]) (st' := [.int (-1000000005), .int x3]) (h' := h1) 2 rfl ?_
      refine RA.if2F rfl (decide_eq_false hn3) ?_
      refine RA.steps (i' := 49) (L' := [some (.ref 110), some (.int (nI u)), some (.int (nI p)), some (.int x3)]) (st' := [.long (Int32.toInt64 99999), .long (Int32.toInt64 (-99999)), .long x3.toInt64]) (h' := h1) 4 rfl ?_
      refine RA.call0 (N := mX8_isIn) (as := [.long x3.toInt64, .long (Int32.toInt64 (-99999)), .long (Int32.toInt64 99999)]) (rest := []) rfl rfl rfl (isIn_t hw) ?_
      refine RA.if1T rfl rfl ?_
      refine RA.steps (i' := 54) (L' := [some (.ref 110), some (.int (nI u)), some (.int (nI p)), some (.int x3)]) (st' := [.ref 110]) (h' := h1) 1 rfl ?_
      refine RA.getf rfl ho8 rfl (hF8.ref (k := 6) rfl) ?_
      refine RA.steps (i' := 60) (L' := [some (.ref 110), some (.int (nI u)), some (.int (nI p)), some (.int x3)]) (st' := [.int ((24 * (nI u)) + (nI p)), .ref 116]) (h' := h1) 5 rfl ?_
      rw [(eAdr hu)]
      refine RA.steps (i' := 61) (L' := [some (.ref 110), some (.int (nI u)), some (.int (nI p)), some (.int x3)]) (st' := [.ref 110, .int (nI (24 * u + p)), .ref 116]) (h' := h1) 1 rfl ?_
      refine RA.getf rfl ho8 rfl (hF8.ref (k := 4) rfl) ?_
      refine RA.steps (i' := 63) (L' := [some (.ref 110), some (.int (nI u)), some (.int (nI p)), some (.int x3)]) (st' := [.int (nI u), .ref 114, .int (nI (24 * u + p)), .ref 116]) (h' := h1) 1 rfl ?_
      refine RA.iald rfl pS bS eS ?_
      refine RA.if1T rfl (decide_eq_true hz) ?_
      refine RA.steps (i' := 72) (L' := [some (.ref 110), some (.int (nI u)), some (.int (nI p)), some (.int x3)]) (st' := [.int x3, .int (nI (24 * u + p)), .ref 116]) (h' := h1) 1 rfl ?_
      refine RA.iast rfl pg ⟨(nI_cl (by omega)).1, by rw [(nI_cl (by omega)).2]; show 24 * u + p < 96; omega⟩ ?_
      refine RA.steps (i' := 74) (L' := [some (.ref 110), some (.int (nI u)), some (.int (nI p)), some (.int x3)]) (st' := [.int 1]) (h' := (h1.set 116 (.inl (96, va_up g (nI (24 * u + p)).toNatClampNeg x3)))) 1 rfl ?_
      exact RA.ret rfl rfl
  · skip
    refine mark_same hh hj hv (v := -1000000001) ⟨Nat.le_of_ble_eq_true rfl, ⟨_, _, rfl⟩, ?_⟩ ⟨Nat.le_of_ble_eq_true rfl, ⟨_, _, rfl⟩, ?_⟩
    · show RA prog E pV1 120 mX7_mark 0 [some (.ref 0), some (.int (nI u)), some (.int (nI p)), some (.int x3), none] [] h (some (.int (-1000000001)), h, 0, 0)
      refine RA.steps (i' := 2) (L' := [some (.ref 0), some (.int (nI u)), some (.int (nI p)), some (.int x3), none]) (st' := [.int (nI u), .ref 0]) (h' := h) 2 rfl ?_
      refine RA.call0 (N := mX7_rowOf) (as := [.ref 0, .int (nI u)]) (rest := []) rfl rfl (pcallV rfl rfl ho0 rfl rfl (Nat.le_of_ble_eq_true rfl)) (rowOf_x (d := 118) hh hu) ?_
      refine RA.steps (i' := 9) (L' := [some (.ref 0), some (.int (nI u)), some (.int (nI p)), some (.int x3), some (.ref (82 + 2 * u))]) (st' := [.ref (82 + 2 * u)]) (h' := h) 4 rfl ?_
      refine RA.call0 (N := mX3_isMissing) (as := [.ref (82 + 2 * u)]) (rest := []) rfl rfl (pcallV rfl rfl hor rfl rfl (Nat.le_of_ble_eq_true rfl)) (isMis_f (d := 118) hh hu hm) ?_
      refine RA.if1T rfl rfl ?_
      refine RA.steps (i' := 15) (L' := [some (.ref 0), some (.int (nI u)), some (.int (nI p)), some (.int x3), some (.ref (82 + 2 * u))]) (st' := [.int (nI p), .ref (82 + 2 * u)]) (h' := h) 2 rfl ?_
      refine RA.call0 (N := mX3_has) (as := [.ref (82 + 2 * u), .int (nI p)]) (rest := []) rfl rfl (pcallV rfl rfl hor rfl rfl (Nat.le_of_ble_eq_true rfl)) (has_t (d := 118) hh hu hb.1 hb.2) ?_
      refine RA.if1T rfl rfl ?_
      refine RA.steps (i' := 20) (L' := [some (.ref 0), some (.int (nI u)), some (.int (nI p)), some (.int x3), some (.ref (82 + 2 * u))]) (st' := [.ref (82 + 2 * u)]) (h' := h) 1 rfl ?_
      refine RA.getf rfl hor rfl h1 ?_
      refine RA.if1T rfl (decide_eq_true (fun q => hz (es.symm.trans q))) ?_
      refine RA.steps (i' := 36) (L' := [some (.ref 0), some (.int (nI u)), some (.int (nI p)), some (.int x3), some (.ref (82 + 2 * u))]) (st' := [.int (-1000000005), .int x3]) (h' := h) 2 rfl ?_
      refine RA.if2F rfl (decide_eq_false hn3) ?_
      refine RA.steps (i' := 40) (L' := [some (.ref 0), some (.int (nI u)), some (.int (nI p)), some (.int x3), some (.ref (82 + 2 * u))]) (st' := [.int 99999, .int (-99999), .int x3]) (h' := h) 3 rfl ?_
      refine RA.call0 (N := mX7_within) (as := [.int x3, .int (-99999), .int 99999]) (rest := []) rfl rfl rfl (within_f hw) ?_
      refine RA.if1F rfl rfl ?_
      refine RA.steps (i' := 43) (L' := [some (.ref 0), some (.int (nI u)), some (.int (nI p)), some (.int x3), some (.ref (82 + 2 * u))]) (st' := [.int (-1000000001)]) (h' := h) 1 rfl ?_
      exact RA.ret rfl rfl
    · show RA prog E pV1 120 mX8_mark 0 [some (.ref 110), some (.int (nI u)), some (.int (nI p)), some (.int x3)] [] h (some (.int (-1000000001)), h, 0, 0)
      refine RA.steps (i' := 1) (L' := [some (.ref 110), some (.int (nI u)), some (.int (nI p)), some (.int x3)]) (st' := [.int (nI u)]) (h' := h) 1 rfl ?_
      refine RA.call0 (N := mX8_isSheet) (as := [.int (nI u)]) (rest := []) rfl rfl rfl (isSh_t (d := 117) hs3) ?_
      refine RA.if1T rfl rfl ?_
      refine RA.steps (i' := 6) (L' := [some (.ref 110), some (.int (nI u)), some (.int (nI p)), some (.int x3)]) (st' := [.ref 110]) (h' := h) 1 rfl ?_
      refine RA.getf rfl ho8 rfl (hF8.ref (k := 4) rfl) ?_
      refine RA.steps (i' := 8) (L' := [some (.ref 110), some (.int (nI u)), some (.int (nI p)), some (.int x3)]) (st' := [.int (nI u), .ref 114]) (h' := h) 1 rfl ?_
      refine RA.iald rfl pS bS eS ?_
      refine RA.if1T rfl (decide_eq_true gS) ?_
      refine RA.steps (i' := 16) (L' := [some (.ref 110), some (.int (nI u)), some (.int (nI p)), some (.int x3)]) (st' := [.ref 110, .long (Int32.toInt64 0), .long (nI p).toInt64]) (h' := h) 4 rfl ?_
      refine RA.getf rfl ho8 rfl (hF8.ref (k := 5) rfl) ?_
      refine RA.steps (i' := 18) (L' := [some (.ref 110), some (.int (nI u)), some (.int (nI p)), some (.int x3)]) (st' := [.int (nI u), .ref 115, .long (Int32.toInt64 0), .long (nI p).toInt64]) (h' := h) 1 rfl ?_
      refine RA.iald rfl pZ bS eZ ?_
      refine RA.steps (i' := 22) (L' := [some (.ref 110), some (.int (nI u)), some (.int (nI p)), some (.int x3)]) (st' := [.long ((ri h 115 u) - 1).toInt64, .long (Int32.toInt64 0), .long (nI p).toInt64]) (h' := h) 3 rfl ?_
      refine RA.call0 (N := mX8_isIn) (as := [.long (nI p).toInt64, .long (Int32.toInt64 0), .long ((ri h 115 u) - 1).toInt64]) (rest := []) rfl rfl rfl (isIn_t hi) ?_
      refine RA.if1T rfl rfl ?_
      refine RA.steps (i' := 27) (L' := [some (.ref 110), some (.int (nI u)), some (.int (nI p)), some (.int x3)]) (st' := [.ref 110]) (h' := h) 1 rfl ?_
      refine RA.getf rfl ho8 rfl (hF8.ref (k := 4) rfl) ?_
      refine RA.steps (i' := 29) (L' := [some (.ref 110), some (.int (nI u)), some (.int (nI p)), some (.int x3)]) (st' := [.int (nI u), .ref 114]) (h' := h) 1 rfl ?_
      refine RA.iald rfl pS bS eS ?_
      refine RA.if1T rfl (decide_eq_true hz) ?_
      refine RA.steps (i' := 37) (L' := [some (.ref 110), some (.int (nI u)), some (.int (nI p)), some (.int x3)]) (st' := [.ref 110]) (h' := h) 1 rfl ?_
      refine RA.getf rfl ho8 rfl (hF8.ref (k := 4) rfl) ?_
      refine RA.steps (i' := 39) (L' := [some (.ref 110), some (.int (nI u)), some (.int (nI p)), some (.int x3)]) (st' := [.int (nI u), .ref 114]) (h' := h) 1 rfl ?_
      refine RA.iald rfl pS bS eS ?_
      refine RA.steps (i' := 41) (L' := [some (.ref 110), some (.int (nI u)), some (.int (nI p)), some (.int x3)]) (st' := [.int 1, .int (ri h 114 u)]) (h' := h) 1 rfl ?_
      refine RA.if2F rfl (decide_eq_false (fun q => q hz1)) ?_
      refine RA.steps (i' := 44) (L' := [some (.ref 110), some (.int (nI u)), some (.int (nI p)), some (.int x3)]) (st' := [.int (-1000000005), .int x3]) (h' := h) 2 rfl ?_
      refine RA.if2F rfl (decide_eq_false hn3) ?_
      refine RA.steps (i' := 49) (L' := [some (.ref 110), some (.int (nI u)), some (.int (nI p)), some (.int x3)]) (st' := [.long (Int32.toInt64 99999), .long (Int32.toInt64 (-99999)), .long x3.toInt64]) (h' := h) 4 rfl ?_
      refine RA.call0 (N := mX8_isIn) (as := [.long x3.toInt64, .long (Int32.toInt64 (-99999)), .long (Int32.toInt64 99999)]) (rest := []) rfl rfl rfl (isIn_f hw) ?_
      refine RA.if1F rfl rfl ?_
      refine RA.steps (i' := 52) (L' := [some (.ref 110), some (.int (nI u)), some (.int (nI p)), some (.int x3)]) (st' := [.int (-1000000001)]) (h' := h) 1 rfl ?_
      exact RA.ret rfl rfl
end VLX
