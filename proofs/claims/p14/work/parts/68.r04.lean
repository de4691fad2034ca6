/-! ===== a rubbing by its number, or none ===== -/
section NON
variable {E : pX} {h : List pC}
/-- no rubbing of that number -/
def NoR (h : List pC) (x : Int32) : Prop := x.toInt < 0 ∨ (ri h 34 5).toInt ≤ x.toInt
theorem one_n {d : Nat} {x : Int32} (hh : HI HT h) (hn : NoR h x) : Run prog E pV1 (d + 1) mX6_one [.ref 34, .int x] h (some .null, h, 0, 0) := by
  obtain ⟨fs, ho, hm5, -, -⟩ := w_obj hh
  refine ⟨Nat.le_of_ble_eq_true rfl, ⟨_, _, rfl⟩, ?_⟩
  show RA prog E pV1 (d + 1) mX6_one 0 [some (.ref 34), some (.int x)] [] h (some .null, h, 0, 0)
  refine RA.steps (i' := 1) (L' := [some (.ref 34), some (.int x)]) (st' := [.int x]) (h' := h) 1 rfl ?_
  by_cases c : x < 0
  · refine RA.if1T rfl (decide_eq_true c) ?_
    refine RA.steps (i' := 17) (L' := [some (.ref 34), some (.int x)]) (st' := [.null]) (h' := h) 1 rfl ?_
    exact RA.ret rfl rfl
  have c' : ¬ x.toInt < 0 := fun q => c (Int32.lt_iff_toInt_lt.mpr q)
  have hx : ri h 34 5 ≤ x := Int32.le_iff_toInt_le.mpr (by unfold NoR at hn; omega)
  refine RA.if1F rfl (decide_eq_false c) ?_
  refine RA.steps (i' := 4) (L' := [some (.ref 34), some (.int x)]) (st' := [.ref 34, .int x]) (h' := h) 2 rfl ?_
  refine RA.getf rfl ho rfl hm5 ?_
  refine RA.if2T rfl (decide_eq_true hx) ?_
  refine RA.steps (i' := 17) (L' := [some (.ref 34), some (.int x)]) (st' := [.null]) (h' := h) 1 rfl ?_
  exact RA.ret rfl rfl
theorem isr_n {d : Nat} {x : Int32} (hh : HI HT h) (hq : ri h 34 5 = ri h 111 0) (hn : NoR h x) : Run prog E pV1 (d + 2) mX8_isRubbing [.ref 110, .int x] h (some (.int 0), h, 0, 0) := by
  obtain ⟨fs, ho, g0, -⟩ := m_ob hh
  obtain ⟨f, p1, u1, -⟩ := hi_int hh HT111
  have e0 : f 0 = ri h 111 0 := (u1 0 (by decide)).symm
  have b := (ri_ty (k := 0) (a := 111) (i := 0) (p := (0, 9)) hh rfl).2
  have s1 : (ri h 111 0 - 1).toInt = (ri h 111 0).toInt - 1 := by
    rw [Int32.toInt_sub, show (1 : Int32).toInt = 1 by decide]
    exact bm32 (by unfold mI; omega) (by unfold MI; omega)
  refine ⟨Nat.le_of_ble_eq_true rfl, ⟨_, _, rfl⟩, ?_⟩
  show RA prog E pV1 (d + 2) mX8_isRubbing 0 [some (.ref 110), some (.int x)] [] h (some (.int 0), h, 0, 0)
  refine RA.steps (i' := 4) (L' := [some (.ref 110), some (.int x)]) (st' := [.ref 110, .long (Int32.toInt64 0), .long x.toInt64]) (h' := h) 4 rfl ?_
  refine RA.getf rfl ho rfl g0 ?_
  refine RA.steps 1 rfl ?_
  refine RA.iald rfl p1 ⟨by decide, Nat.le_of_ble_eq_true rfl⟩ e0 ?_
  refine RA.steps (i' := 10) (L' := [some (.ref 110), some (.int x)]) (st' := [.long (ri h 111 0 - 1).toInt64, .long (Int32.toInt64 0), .long x.toInt64]) (h' := h) 3 rfl ?_
  refine RA.call0 (N := mX8_isIn) (as := [.long x.toInt64, .long (Int32.toInt64 0), .long (ri h 111 0 - 1).toInt64]) (rest := []) rfl rfl rfl (isIn_f (fun q => ?_)) ?_
  · have q1 : (0 : Int) ≤ x.toInt := Int32.le_iff_toInt_le.mp q.1
    have q2 := Int32.le_iff_toInt_le.mp q.2
    unfold NoR at hn
    rw [hq] at hn
    omega
  · exact RA.ret rfl rfl
theorem rub_dec (x : Int32) (hh : HI HT h) : (∃ k : Nat, k < 9 ∧ x = nI k ∧ (k : Int) < (ri h 34 5).toInt) ∨ NoR h x := by
  have b := (ri_ty (k := 8) (a := 34) (i := 5) (p := (0, 9)) hh rfl).2
  dsimp only at b
  by_cases c : x.toInt < 0
  · exact Or.inr (Or.inl c)
  by_cases c2 : (ri h 34 5).toInt ≤ x.toInt
  · exact Or.inr (Or.inr c2)
  obtain ⟨k, rfl, hk⟩ := nIof (x := x) (by omega) (by omega)
  exact Or.inl ⟨k, by omega, rfl, by omega⟩
/-- what it says, place by place, on both sides -/
def SayF (E : pX) (h : List pC) (k sz : Nat) (S : Nat → Int32) : Prop := ∀ p : Nat, p < sz → Run prog E pV1 118 mX4_sayAt [.ref (39 + k), .int (nI p)] h (some (.int (S p)), h, 0, 0) ∧ Run prog E pV1 118 mX8_saysAt [.ref 110, .int (nI k), .int (nI p)] h (some (.int (S p)), h, 0, 0)
theorem say_fn {k sz : Nat} (hh : HI HT h) (hj : JT h) (hk : k < 9) (hr : RubK h k) (hs : (ri h (39 + k) 2).toInt = sz) : ∃ S, SayF E h k sz S := by
  have H : ∀ p : Nat, ∃ v : Int32, p < sz → Run prog E pV1 118 mX4_sayAt [.ref (39 + k), .int (nI p)] h (some (.int v), h, 0, 0) ∧ Run prog E pV1 118 mX8_saysAt [.ref 110, .int (nI k), .int (nI p)] h (some (.int v), h, 0, 0) := fun p => by
    by_cases c : p < sz
    · have s8 := (rub_c hh k hk 2 (by decide)).2 rfl
      obtain ⟨v, q1, q2⟩ := say_both (E := E) (d := 118) (p := nI p) (by decide) hh hj hk hr (by rw [nI_toInt (by omega)]; omega) (by rw [nI_toInt (by omega)]; omega)
      exact ⟨v, fun _ => ⟨q1, q2⟩⟩
    · exact ⟨0, fun q => absurd q c⟩
  exact ⟨fun p => Classical.choose (H p), fun p hp => Classical.choose_spec (H p) hp⟩
theorem of_z {d k z : Nat} (hh : HI HT h) (hk : k < 9) (hz : ri h 111 (21 + 6 * k + 2) = nI z) : Run prog E pV1 (d + 1) mX8_of [.ref 110, .int (nI k), .int 2] h (some (.int (nI z)), h, 0, 0) := by
  rw [← hz]
  exact of_x (f := 2) hh hk (by decide)
/-- its size -/
theorem rub_sz {k : Nat} (hh : HI HT h) (hk : k < 9) : ∃ sz : Nat, 1 ≤ sz ∧ sz ≤ 8 ∧ ri h (39 + k) 2 = nI sz := by
  have s8 := (rub_c hh k hk 2 (by decide)).2 rfl
  obtain ⟨sz, e, hs⟩ := nIof (x := ri h (39 + k) 2) (by omega) (by omega)
  exact ⟨sz, by omega, by omega, e⟩
end NON
/-! ===== join ===== -/
section JOI
variable {E : pX} {h : List pC}
def JV (Sa Sb : Nat → Int32) (D : Nat) : Nat → Nat → Int32 → Int32
  | 0, _, s => s
  | m + 1, P, s => JV Sa Sb D m (P + 1) (s + if Sa P = Sb (P - D) then 1 else (-2))
theorem JV_s (Sa Sb : Nat → Int32) (D m P : Nat) (s : Int32) : JV Sa Sb D (m + 1) P s = JV Sa Sb D m (P + 1) (s + if Sa P = Sb (P - D) then 1 else (-2)) := rfl
def JB (J : Nat → Int32) : Nat → Nat → Nat → Nat
  | 0, _, p => p
  | m + 1, D, p => JB J m (D + 1) (if J p < J D then D else p)
theorem JB_s (J : Nat → Int32) (m D p : Nat) : JB J (m + 1) D p = JB J m (D + 1) (if J p < J D then D else p) := rfl
theorem joined_l {a b sa sb D : Nat} {Sa Sb : Nat → Int32} (hh : HI HT h) (ha : a < 9) (hb : b < 9) (za : ri h (39 + a) 2 = nI sa) (zb : ri h (39 + b) 2 = nI sb) (sa8 : sa ≤ 8) (sb8 : sb ≤ 8) (fa : SayF E h a sa Sa) (fb : SayF E h b sb Sb) : ∀ (m P : Nat) (s : Int32), D ≤ P → P + m ≤ sa → P - D + m ≤ sb → (P + m = sa ∨ P - D + m = sb) → RA prog E pV1 119 mX4_joined 4 [some (.ref (39 + a)), some (.ref (39 + b)), some (.int (nI D)), some (.int s), some (.int (nI P))] [] h (some (.int (JV Sa Sb D m P s)), h, 0, 0) := by
  obtain ⟨fsa, hoa, hfa⟩ := rub_obj hh ha
  obtain ⟨fsb, hob, hfb⟩ := rub_obj hh hb
  have hsa := hfa 2 (by decide)
  have hsb := hfb 2 (by decide)
  rw [za] at hsa
  rw [zb] at hsb
  intro m
  induction m with
  | zero =>
    intro P s h1 h2 h3 h4
    show RA prog E pV1 119 mX4_joined 4 [some (.ref (39 + a)), some (.ref (39 + b)), some (.int (nI D)), some (.int s), some (.int (nI P))] [] h (some (.int s), h, 0, 0)
    by_cases c0 : sa ≤ P
    · skip
      refine RA.steps (i' := 6) (L' := [some (.ref (39 + a)), some (.ref (39 + b)), some (.int (nI D)), some (.int s), some (.int (nI P))]) (st' := [.ref (39 + a), .int (nI P)]) (h' := h) 2 rfl ?_
      refine RA.getf rfl hoa rfl hsa ?_
      refine RA.if2T rfl (decide_eq_true (nI_le (show sa ≤ P by omega) (by omega))) ?_
      refine RA.steps (i' := 32) (L' := [some (.ref (39 + a)), some (.ref (39 + b)), some (.int (nI D)), some (.int s), some (.int (nI P))]) (st' := [.int s]) (h' := h) 1 rfl ?_
      exact RA.ret rfl rfl
    · skip
      refine RA.steps (i' := 6) (L' := [some (.ref (39 + a)), some (.ref (39 + b)), some (.int (nI D)), some (.int s), some (.int (nI P))]) (st' := [.ref (39 + a), .int (nI P)]) (h' := h) 2 rfl ?_
      refine RA.getf rfl hoa rfl hsa ?_
      refine RA.if2F rfl (decide_eq_false (Int32.not_le.mpr (nI_lt (show P < sa by omega) (by omega)))) ?_
      refine RA.steps (i' := 11) (L' := [some (.ref (39 + a)), some (.ref (39 + b)), some (.int (nI D)), some (.int s), some (.int (nI P))]) (st' := [.int ((nI P) - (nI D))]) (h' := h) 3 rfl ?_
      rw [(nIsub (show D ≤ P by omega) (by omega))]
      refine RA.steps (i' := 12) (L' := [some (.ref (39 + a)), some (.ref (39 + b)), some (.int (nI D)), some (.int s), some (.int (nI P))]) (st' := [.ref (39 + b), .int (nI (P - D))]) (h' := h) 1 rfl ?_
      refine RA.getf rfl hob rfl hsb ?_
      refine RA.if2T rfl (decide_eq_true (nI_le (show sb ≤ P - D by omega) (by omega))) ?_
      refine RA.steps (i' := 32) (L' := [some (.ref (39 + a)), some (.ref (39 + b)), some (.int (nI D)), some (.int s), some (.int (nI P))]) (st' := [.int s]) (h' := h) 1 rfl ?_
      exact RA.ret rfl rfl
  | succ m ih =>
    intro P s h1 h2 h3 h4
    rw [JV_s]
    refine RA.steps (i' := 6) (L' := [some (.ref (39 + a)), some (.ref (39 + b)), some (.int (nI D)), some (.int s), some (.int (nI P))]) (st' := [.ref (39 + a), .int (nI P)]) (h' := h) 2 rfl ?_
    refine RA.getf rfl hoa rfl hsa ?_
    refine RA.if2F rfl (decide_eq_false (Int32.not_le.mpr (nI_lt (show P < sa by omega) (by omega)))) ?_
    refine RA.steps (i' := 11) (L' := [some (.ref (39 + a)), some (.ref (39 + b)), some (.int (nI D)), some (.int s), some (.int (nI P))]) (st' := [.int ((nI P) - (nI D))]) (h' := h) 3 rfl ?_
    rw [(nIsub (show D ≤ P by omega) (by omega))]
    refine RA.steps (i' := 12) (L' := [some (.ref (39 + a)), some (.ref (39 + b)), some (.int (nI D)), some (.int s), some (.int (nI P))]) (st' := [.ref (39 + b), .int (nI (P - D))]) (h' := h) 1 rfl ?_
    refine RA.getf rfl hob rfl hsb ?_
    refine RA.if2F rfl (decide_eq_false (Int32.not_le.mpr (nI_lt (show P - D < sb by omega) (by omega)))) ?_
    refine RA.steps (i' := 17) (L' := [some (.ref (39 + a)), some (.ref (39 + b)), some (.int (nI D)), some (.int s), some (.int (nI P))]) (st' := [.int (nI P), .ref (39 + a), .int s]) (h' := h) 3 rfl ?_
    refine RA.call0 (N := mX4_sayAt) (as := [.ref (39 + a), .int (nI P)]) (rest := [.int s]) rfl rfl (pcallV rfl rfl hoa rfl rfl (Nat.le_of_ble_eq_true rfl)) (fa P (by omega)).1 ?_
    refine RA.steps (i' := 22) (L' := [some (.ref (39 + a)), some (.ref (39 + b)), some (.int (nI D)), some (.int s), some (.int (nI P))]) (st' := [.int ((nI P) - (nI D)), .ref (39 + b), .int (Sa P), .int s]) (h' := h) 4 rfl ?_
    rw [(nIsub (show D ≤ P by omega) (by omega))]
    refine RA.call0 (N := mX4_sayAt) (as := [.ref (39 + b), .int (nI (P - D))]) (rest := [.int (Sa P), .int s]) rfl rfl (pcallV rfl rfl hob rfl rfl (Nat.le_of_ble_eq_true rfl)) (fb (P - D) (by omega)).1 ?_
    by_cases c : Sa P = Sb (P - D)
    · rw [if_pos c]
      refine RA.if2F rfl (decide_eq_false (fun q => q c)) ?_
      refine RA.steps (i' := 29) (L' := [some (.ref (39 + a)), some (.ref (39 + b)), some (.int (nI D)), some (.int (s + 1)), some (.int (nI P))]) (st' := []) (h' := h) 4 rfl ?_
      refine RA.iinc rfl rfl (nI_1 P) rfl ?_
      refine RA.steps (i' := 4) (L' := [some (.ref (39 + a)), some (.ref (39 + b)), some (.int (nI D)), some (.int (s + 1)), some (.int (nI (P + 1)))]) (st' := []) (h' := h) 1 rfl ?_
      exact ih (P + 1) (s + 1) (by omega) (by omega) (by omega) (by omega)
    · rw [if_neg c]
      refine RA.if2T rfl (decide_eq_true c) ?_
      refine RA.steps (i' := 29) (L' := [some (.ref (39 + a)), some (.ref (39 + b)), some (.int (nI D)), some (.int (s + (-2))), some (.int (nI P))]) (st' := []) (h' := h) 3 rfl ?_
      refine RA.iinc rfl rfl (nI_1 P) rfl ?_
      refine RA.steps (i' := 4) (L' := [some (.ref (39 + a)), some (.ref (39 + b)), some (.int (nI D)), some (.int (s + (-2))), some (.int (nI (P + 1)))]) (st' := []) (h' := h) 1 rfl ?_
      exact ih (P + 1) (s + (-2)) (by omega) (by omega) (by omega) (by omega)
theorem joinBy_l {a b sa sb D : Nat} {Sa Sb : Nat → Int32} (hh : HI HT h) (ha : a < 9) (hb : b < 9) (za : ri h (39 + a) 2 = nI sa) (zb : ri h (39 + b) 2 = nI sb) (sa8 : sa ≤ 8) (sb8 : sb ≤ 8) (fa : SayF E h a sa Sa) (fb : SayF E h b sb Sb) (ra : ri h 111 (21 + 6 * a + 2) = nI sa) (rb : ri h 111 (21 + 6 * b + 2) = nI sb) : ∀ (m P : Nat) (s : Int32), D ≤ P → P + m ≤ sa → P - D + m ≤ sb → (P + m = sa ∨ P - D + m = sb) → RA prog E pV1 119 mX8_joinBy 4 [some (.ref 110), some (.int (nI a)), some (.int (nI b)), some (.int (nI D)), some (.int s), some (.int (nI P))] [] h (some (.int (JV Sa Sb D m P s)), h, 0, 0) := by
  obtain ⟨o8, ho8, hc8⟩ := mobj hh
  intro m
  induction m with
  | zero =>
    intro P s h1 h2 h3 h4
    show RA prog E pV1 119 mX8_joinBy 4 [some (.ref 110), some (.int (nI a)), some (.int (nI b)), some (.int (nI D)), some (.int s), some (.int (nI P))] [] h (some (.int s), h, 0, 0)
    by_cases c0 : sa ≤ P
    · skip
      refine RA.steps (i' := 8) (L' := [some (.ref 110), some (.int (nI a)), some (.int (nI b)), some (.int (nI D)), some (.int s), some (.int (nI P))]) (st' := [.int 2, .int (nI a), .ref 110, .int (nI P)]) (h' := h) 4 rfl ?_
      refine RA.call0 (N := mX8_of) (as := [.ref 110, .int (nI a), .int 2]) (rest := [.int (nI P)]) rfl rfl (pcallV rfl rfl ho8 rfl hc8 (Nat.le_of_ble_eq_true rfl)) (of_z (d := 117) hh ha ra) ?_
      refine RA.if2T rfl (decide_eq_true (nI_le (show sa ≤ P by omega) (by omega))) ?_
      refine RA.steps (i' := 38) (L' := [some (.ref 110), some (.int (nI a)), some (.int (nI b)), some (.int (nI D)), some (.int s), some (.int (nI P))]) (st' := [.int s]) (h' := h) 1 rfl ?_
      exact RA.ret rfl rfl
    · skip
      refine RA.steps (i' := 8) (L' := [some (.ref 110), some (.int (nI a)), some (.int (nI b)), some (.int (nI D)), some (.int s), some (.int (nI P))]) (st' := [.int 2, .int (nI a), .ref 110, .int (nI P)]) (h' := h) 4 rfl ?_
      refine RA.call0 (N := mX8_of) (as := [.ref 110, .int (nI a), .int 2]) (rest := [.int (nI P)]) rfl rfl (pcallV rfl rfl ho8 rfl hc8 (Nat.le_of_ble_eq_true rfl)) (of_z (d := 117) hh ha ra) ?_
      refine RA.if2F rfl (decide_eq_false (Int32.not_le.mpr (nI_lt (show P < sa by omega) (by omega)))) ?_
      refine RA.steps (i' := 13) (L' := [some (.ref 110), some (.int (nI a)), some (.int (nI b)), some (.int (nI D)), some (.int s), some (.int (nI P))]) (st' := [.int ((nI P) - (nI D))]) (h' := h) 3 rfl ?_
      rw [(nIsub (show D ≤ P by omega) (by omega))]
      refine RA.steps (i' := 16) (L' := [some (.ref 110), some (.int (nI a)), some (.int (nI b)), some (.int (nI D)), some (.int s), some (.int (nI P))]) (st' := [.int 2, .int (nI b), .ref 110, .int (nI (P - D))]) (h' := h) 3 rfl ?_
      refine RA.call0 (N := mX8_of) (as := [.ref 110, .int (nI b), .int 2]) (rest := [.int (nI (P - D))]) rfl rfl (pcallV rfl rfl ho8 rfl hc8 (Nat.le_of_ble_eq_true rfl)) (of_z (d := 117) hh hb rb) ?_
      refine RA.if2T rfl (decide_eq_true (nI_le (show sb ≤ P - D by omega) (by omega))) ?_
      refine RA.steps (i' := 38) (L' := [some (.ref 110), some (.int (nI a)), some (.int (nI b)), some (.int (nI D)), some (.int s), some (.int (nI P))]) (st' := [.int s]) (h' := h) 1 rfl ?_
      exact RA.ret rfl rfl
  | succ m ih =>
    intro P s h1 h2 h3 h4
    rw [JV_s]
    refine RA.steps (i' := 8) (L' := [some (.ref 110), some (.int (nI a)), some (.int (nI b)), some (.int (nI D)), some (.int s), some (.int (nI P))]) (st' := [.int 2, .int (nI a), .ref 110, .int (nI P)]) (h' := h) 4 rfl ?_
    refine RA.call0 (N := mX8_of) (as := [.ref 110, .int (nI a), .int 2]) (rest := [.int (nI P)]) rfl rfl (pcallV rfl rfl ho8 rfl hc8 (Nat.le_of_ble_eq_true rfl)) (of_z (d := 117) hh ha ra) ?_
    refine RA.if2F rfl (decide_eq_false (Int32.not_le.mpr (nI_lt (show P < sa by omega) (by omega)))) ?_
    refine RA.steps (i' := 13) (L' := [some (.ref 110), some (.int (nI a)), some (.int (nI b)), some (.int (nI D)), some (.int s), some (.int (nI P))]) (st' := [.int ((nI P) - (nI D))]) (h' := h) 3 rfl ?_
    rw [(nIsub (show D ≤ P by omega) (by omega))]
    refine RA.steps (i' := 16) (L' := [some (.ref 110), some (.int (nI a)), some (.int (nI b)), some (.int (nI D)), some (.int s), some (.int (nI P))]) (st' := [.int 2, .int (nI b), .ref 110, .int (nI (P - D))]) (h' := h) 3 rfl ?_
    refine RA.call0 (N := mX8_of) (as := [.ref 110, .int (nI b), .int 2]) (rest := [.int (nI (P - D))]) rfl rfl (pcallV rfl rfl ho8 rfl hc8 (Nat.le_of_ble_eq_true rfl)) (of_z (d := 117) hh hb rb) ?_
    refine RA.if2F rfl (decide_eq_false (Int32.not_le.mpr (nI_lt (show P - D < sb by omega) (by omega)))) ?_
    refine RA.steps (i' := 22) (L' := [some (.ref 110), some (.int (nI a)), some (.int (nI b)), some (.int (nI D)), some (.int s), some (.int (nI P))]) (st' := [.int (nI P), .int (nI a), .ref 110, .int s]) (h' := h) 4 rfl ?_
    refine RA.call0 (N := mX8_saysAt) (as := [.ref 110, .int (nI a), .int (nI P)]) (rest := [.int s]) rfl rfl (pcallV rfl rfl ho8 rfl hc8 (Nat.le_of_ble_eq_true rfl)) (fa P (by omega)).2 ?_
    refine RA.steps (i' := 28) (L' := [some (.ref 110), some (.int (nI a)), some (.int (nI b)), some (.int (nI D)), some (.int s), some (.int (nI P))]) (st' := [.int ((nI P) - (nI D)), .int (nI b), .ref 110, .int (Sa P), .int s]) (h' := h) 5 rfl ?_
    rw [(nIsub (show D ≤ P by omega) (by omega))]
    refine RA.call0 (N := mX8_saysAt) (as := [.ref 110, .int (nI b), .int (nI (P - D))]) (rest := [.int (Sa P), .int s]) rfl rfl (pcallV rfl rfl ho8 rfl hc8 (Nat.le_of_ble_eq_true rfl)) (fb (P - D) (by omega)).2 ?_
    by_cases c : Sa P = Sb (P - D)
    · rw [if_pos c]
      refine RA.if2F rfl (decide_eq_false (fun q => q c)) ?_
      refine RA.steps (i' := 35) (L' := [some (.ref 110), some (.int (nI a)), some (.int (nI b)), some (.int (nI D)), some (.int (s + 1)), some (.int (nI P))]) (st' := []) (h' := h) 4 rfl ?_
      refine RA.iinc rfl rfl (nI_1 P) rfl ?_
      refine RA.steps (i' := 4) (L' := [some (.ref 110), some (.int (nI a)), some (.int (nI b)), some (.int (nI D)), some (.int (s + 1)), some (.int (nI (P + 1)))]) (st' := []) (h' := h) 1 rfl ?_
      exact ih (P + 1) (s + 1) (by omega) (by omega) (by omega) (by omega)
    · rw [if_neg c]
      refine RA.if2T rfl (decide_eq_true c) ?_
      refine RA.steps (i' := 35) (L' := [some (.ref 110), some (.int (nI a)), some (.int (nI b)), some (.int (nI D)), some (.int (s + (-2))), some (.int (nI P))]) (st' := []) (h' := h) 3 rfl ?_
      refine RA.iinc rfl rfl (nI_1 P) rfl ?_
      refine RA.steps (i' := 4) (L' := [some (.ref 110), some (.int (nI a)), some (.int (nI b)), some (.int (nI D)), some (.int (s + (-2))), some (.int (nI (P + 1)))]) (st' := []) (h' := h) 1 rfl ?_
      exact ih (P + 1) (s + (-2)) (by omega) (by omega) (by omega) (by omega)
theorem join_cl {a b sa : Nat} {J : Nat → Int32} {x3 : Int32} (hh : HI HT h) (ha : a < 9) (sa8 : sa ≤ 8) {fsa : List Value} (za : ri h (39 + a) 2 = nI sa) (hoa : pobj h (39 + a) = some (4, fsa)) (hsa : fsa[2]? = some (.int (nI sa))) (jc : ∀ D : Nat, D < sa → Run prog E pV1 119 mX4_joined [.ref (39 + a), .ref (39 + b), .int (nI D)] h (some (.int (J D)), h, 0, 0)) : ∀ (m D p : Nat) (o9 : Option Value), D + m = sa → p < D → RA prog E pV1 120 mX7_join 33 [some (.ref 0), some (.int (nI a)), some (.int (nI b)), some (.int x3), some (.ref (39 + a)), some (.ref (39 + b)), some (.int (nI p)), some (.int (J p)), some (.int (nI D)), o9] [] h (some (.int (if x3 = 0 then nI (JB J m D p) else J (JB J m D p))), h, 0, 0) := by
  have _ := za
  intro m
  induction m with
  | zero =>
    intro D p o9 h1 h2
    show RA prog E pV1 120 mX7_join 33 [some (.ref 0), some (.int (nI a)), some (.int (nI b)), some (.int x3), some (.ref (39 + a)), some (.ref (39 + b)), some (.int (nI p)), some (.int (J p)), some (.int (nI D)), o9] [] h (some (.int (if x3 = 0 then nI p else J p)), h, 0, 0)
    by_cases c : x3 = 0
    · rw [if_pos c]
      refine RA.steps (i' := 35) (L' := [some (.ref 0), some (.int (nI a)), some (.int (nI b)), some (.int x3), some (.ref (39 + a)), some (.ref (39 + b)), some (.int (nI p)), some (.int (J p)), some (.int (nI D)), o9]) (st' := [.ref (39 + a), .int (nI D)]) (h' := h) 2 rfl ?_
      refine RA.getf rfl hoa rfl hsa ?_
      refine RA.if2T rfl (decide_eq_true (nI_le (show sa ≤ D by omega) (by omega))) ?_
      refine RA.steps (i' := 52) (L' := [some (.ref 0), some (.int (nI a)), some (.int (nI b)), some (.int x3), some (.ref (39 + a)), some (.ref (39 + b)), some (.int (nI p)), some (.int (J p)), some (.int (nI D)), o9]) (st' := [.int x3]) (h' := h) 1 rfl ?_
      refine RA.if1F rfl (decide_eq_false (fun q => q c)) ?_
      refine RA.steps (i' := 56) (L' := [some (.ref 0), some (.int (nI a)), some (.int (nI b)), some (.int x3), some (.ref (39 + a)), some (.ref (39 + b)), some (.int (nI p)), some (.int (J p)), some (.int (nI D)), o9]) (st' := [.int (nI p)]) (h' := h) 2 rfl ?_
      exact RA.ret rfl rfl
    · rw [if_neg c]
      refine RA.steps (i' := 35) (L' := [some (.ref 0), some (.int (nI a)), some (.int (nI b)), some (.int x3), some (.ref (39 + a)), some (.ref (39 + b)), some (.int (nI p)), some (.int (J p)), some (.int (nI D)), o9]) (st' := [.ref (39 + a), .int (nI D)]) (h' := h) 2 rfl ?_
      refine RA.getf rfl hoa rfl hsa ?_
      refine RA.if2T rfl (decide_eq_true (nI_le (show sa ≤ D by omega) (by omega))) ?_
      refine RA.steps (i' := 52) (L' := [some (.ref 0), some (.int (nI a)), some (.int (nI b)), some (.int x3), some (.ref (39 + a)), some (.ref (39 + b)), some (.int (nI p)), some (.int (J p)), some (.int (nI D)), o9]) (st' := [.int x3]) (h' := h) 1 rfl ?_
      refine RA.if1T rfl (decide_eq_true c) ?_
      refine RA.steps (i' := 56) (L' := [some (.ref 0), some (.int (nI a)), some (.int (nI b)), some (.int x3), some (.ref (39 + a)), some (.ref (39 + b)), some (.int (nI p)), some (.int (J p)), some (.int (nI D)), o9]) (st' := [.int (J p)]) (h' := h) 1 rfl ?_
      exact RA.ret rfl rfl
  | succ m ih =>
    intro D p o9 h1 h2
    rw [JB_s]
    refine RA.steps (i' := 35) (L' := [some (.ref 0), some (.int (nI a)), some (.int (nI b)), some (.int x3), some (.ref (39 + a)), some (.ref (39 + b)), some (.int (nI p)), some (.int (J p)), some (.int (nI D)), o9]) (st' := [.ref (39 + a), .int (nI D)]) (h' := h) 2 rfl ?_
    refine RA.getf rfl hoa rfl hsa ?_
    refine RA.if2F rfl (decide_eq_false (Int32.not_le.mpr (nI_lt (show D < sa by omega) (by omega)))) ?_
    refine RA.steps (i' := 40) (L' := [some (.ref 0), some (.int (nI a)), some (.int (nI b)), some (.int x3), some (.ref (39 + a)), some (.ref (39 + b)), some (.int (nI p)), some (.int (J p)), some (.int (nI D)), o9]) (st' := [.int (nI D), .ref (39 + b), .ref (39 + a)]) (h' := h) 3 rfl ?_
    refine RA.call0 (N := mX4_joined) (as := [.ref (39 + a), .ref (39 + b), .int (nI D)]) (rest := []) rfl rfl (pcallV rfl rfl hoa rfl rfl (Nat.le_of_ble_eq_true rfl)) (jc D (by omega)) ?_
    refine RA.steps (i' := 44) (L' := [some (.ref 0), some (.int (nI a)), some (.int (nI b)), some (.int x3), some (.ref (39 + a)), some (.ref (39 + b)), some (.int (nI p)), some (.int (J p)), some (.int (nI D)), some (.int (J D))]) (st' := [.int (J p), .int (J D)]) (h' := h) 3 rfl ?_
    by_cases c : J p < J D
    · rw [if_pos c]
      refine RA.if2F rfl (decide_eq_false (Int32.not_le.mpr c)) ?_
      refine RA.steps (i' := 49) (L' := [some (.ref 0), some (.int (nI a)), some (.int (nI b)), some (.int x3), some (.ref (39 + a)), some (.ref (39 + b)), some (.int (nI D)), some (.int (J D)), some (.int (nI D)), some (.int (J D))]) (st' := []) (h' := h) 4 rfl ?_
      refine RA.iinc rfl rfl (nI_1 D) rfl ?_
      refine RA.steps (i' := 33) (L' := [some (.ref 0), some (.int (nI a)), some (.int (nI b)), some (.int x3), some (.ref (39 + a)), some (.ref (39 + b)), some (.int (nI D)), some (.int (J D)), some (.int (nI (D + 1))), some (.int (J D))]) (st' := []) (h' := h) 1 rfl ?_
      exact ih (D + 1) D _ (by omega) (by omega)
    · rw [if_neg c]
      refine RA.if2T rfl (decide_eq_true (Int32.not_lt.mp c)) ?_
      refine RA.iinc rfl rfl (nI_1 D) rfl ?_
      refine RA.steps (i' := 33) (L' := [some (.ref 0), some (.int (nI a)), some (.int (nI b)), some (.int x3), some (.ref (39 + a)), some (.ref (39 + b)), some (.int (nI p)), some (.int (J p)), some (.int (nI (D + 1))), some (.int (J D))]) (st' := []) (h' := h) 1 rfl ?_
      exact ih (D + 1) p _ (by omega) (by omega)
theorem join_rl {a b sa : Nat} {J : Nat → Int32} {x3 : Int32} (hh : HI HT h) (ha : a < 9) (sa8 : sa ≤ 8) (ra : ri h 111 (21 + 6 * a + 2) = nI sa) (jr : ∀ D : Nat, D < sa → Run prog E pV1 119 mX8_joinBy [.ref 110, .int (nI a), .int (nI b), .int (nI D)] h (some (.int (J D)), h, 0, 0)) : ∀ (m D p : Nat), D + m = sa → p < D → RA prog E pV1 120 mX8_join 23 [some (.ref 110), some (.int (nI a)), some (.int (nI b)), some (.int x3), some (.int (nI p)), some (.int (nI D))] [] h (some (.int (if x3 = 0 then nI (JB J m D p) else J (JB J m D p))), h, 0, 0) := by
  obtain ⟨o8, ho8, hc8⟩ := mobj hh
  intro m
  induction m with
  | zero =>
    intro D p h1 h2
    show RA prog E pV1 120 mX8_join 23 [some (.ref 110), some (.int (nI a)), some (.int (nI b)), some (.int x3), some (.int (nI p)), some (.int (nI D))] [] h (some (.int (if x3 = 0 then nI p else J p)), h, 0, 0)
    by_cases c : x3 = 0
    · rw [if_pos c]
      refine RA.steps (i' := 27) (L' := [some (.ref 110), some (.int (nI a)), some (.int (nI b)), some (.int x3), some (.int (nI p)), some (.int (nI D))]) (st' := [.int 2, .int (nI a), .ref 110, .int (nI D)]) (h' := h) 4 rfl ?_
      refine RA.call0 (N := mX8_of) (as := [.ref 110, .int (nI a), .int 2]) (rest := [.int (nI D)]) rfl rfl (pcallV rfl rfl ho8 rfl hc8 (Nat.le_of_ble_eq_true rfl)) (of_z (d := 118) hh ha ra) ?_
      refine RA.if2T rfl (decide_eq_true (nI_le (show sa ≤ D by omega) (by omega))) ?_
      refine RA.steps (i' := 47) (L' := [some (.ref 110), some (.int (nI a)), some (.int (nI b)), some (.int x3), some (.int (nI p)), some (.int (nI D))]) (st' := [.int x3]) (h' := h) 1 rfl ?_
      refine RA.if1F rfl (decide_eq_false (fun q => q c)) ?_
      refine RA.steps (i' := 55) (L' := [some (.ref 110), some (.int (nI a)), some (.int (nI b)), some (.int x3), some (.int (nI p)), some (.int (nI D))]) (st' := [.int (nI p)]) (h' := h) 2 rfl ?_
      exact RA.ret rfl rfl
    · rw [if_neg c]
      refine RA.steps (i' := 27) (L' := [some (.ref 110), some (.int (nI a)), some (.int (nI b)), some (.int x3), some (.int (nI p)), some (.int (nI D))]) (st' := [.int 2, .int (nI a), .ref 110, .int (nI D)]) (h' := h) 4 rfl ?_
      refine RA.call0 (N := mX8_of) (as := [.ref 110, .int (nI a), .int 2]) (rest := [.int (nI D)]) rfl rfl (pcallV rfl rfl ho8 rfl hc8 (Nat.le_of_ble_eq_true rfl)) (of_z (d := 118) hh ha ra) ?_
      refine RA.if2T rfl (decide_eq_true (nI_le (show sa ≤ D by omega) (by omega))) ?_
      refine RA.steps (i' := 47) (L' := [some (.ref 110), some (.int (nI a)), some (.int (nI b)), some (.int x3), some (.int (nI p)), some (.int (nI D))]) (st' := [.int x3]) (h' := h) 1 rfl ?_
      refine RA.if1T rfl (decide_eq_true c) ?_
      refine RA.steps (i' := 54) (L' := [some (.ref 110), some (.int (nI a)), some (.int (nI b)), some (.int x3), some (.int (nI p)), some (.int (nI D))]) (st' := [.int (nI p), .int (nI b), .int (nI a), .ref 110]) (h' := h) 4 rfl ?_
      refine RA.call0 (N := mX8_joinBy) (as := [.ref 110, .int (nI a), .int (nI b), .int (nI p)]) (rest := []) rfl rfl (pcallV rfl rfl ho8 rfl hc8 (Nat.le_of_ble_eq_true rfl)) (jr p (by omega)) ?_
      exact RA.ret rfl rfl
  | succ m ih =>
    intro D p h1 h2
    rw [JB_s]
    refine RA.steps (i' := 27) (L' := [some (.ref 110), some (.int (nI a)), some (.int (nI b)), some (.int x3), some (.int (nI p)), some (.int (nI D))]) (st' := [.int 2, .int (nI a), .ref 110, .int (nI D)]) (h' := h) 4 rfl ?_
    refine RA.call0 (N := mX8_of) (as := [.ref 110, .int (nI a), .int 2]) (rest := [.int (nI D)]) rfl rfl (pcallV rfl rfl ho8 rfl hc8 (Nat.le_of_ble_eq_true rfl)) (of_z (d := 118) hh ha ra) ?_
    refine RA.if2F rfl (decide_eq_false (Int32.not_le.mpr (nI_lt (show D < sa by omega) (by omega)))) ?_
    refine RA.steps (i' := 33) (L' := [some (.ref 110), some (.int (nI a)), some (.int (nI b)), some (.int x3), some (.int (nI p)), some (.int (nI D))]) (st' := [.int (nI D), .int (nI b), .int (nI a), .ref 110]) (h' := h) 4 rfl ?_
    refine RA.call0 (N := mX8_joinBy) (as := [.ref 110, .int (nI a), .int (nI b), .int (nI D)]) (rest := []) rfl rfl (pcallV rfl rfl ho8 rfl hc8 (Nat.le_of_ble_eq_true rfl)) (jr D (by omega)) ?_
    refine RA.steps (i' := 38) (L' := [some (.ref 110), some (.int (nI a)), some (.int (nI b)), some (.int x3), some (.int (nI p)), some (.int (nI D))]) (st' := [.int (nI p), .int (nI b), .int (nI a), .ref 110, .int (J D)]) (h' := h) 4 rfl ?_
    refine RA.call0 (N := mX8_joinBy) (as := [.ref 110, .int (nI a), .int (nI b), .int (nI p)]) (rest := [.int (J D)]) rfl rfl (pcallV rfl rfl ho8 rfl hc8 (Nat.le_of_ble_eq_true rfl)) (jr p (by omega)) ?_
    by_cases c : J p < J D
    · rw [if_pos c]
      refine RA.if2F rfl (decide_eq_false (Int32.not_le.mpr c)) ?_
      refine RA.steps (i' := 44) (L' := [some (.ref 110), some (.int (nI a)), some (.int (nI b)), some (.int x3), some (.int (nI D)), some (.int (nI D))]) (st' := []) (h' := h) 3 rfl ?_
      refine RA.iinc rfl rfl (nI_1 D) rfl ?_
      refine RA.steps (i' := 23) (L' := [some (.ref 110), some (.int (nI a)), some (.int (nI b)), some (.int x3), some (.int (nI D)), some (.int (nI (D + 1)))]) (st' := []) (h' := h) 1 rfl ?_
      exact ih (D + 1) D (by omega) (by omega)
    · rw [if_neg c]
      refine RA.if2T rfl (decide_eq_true (Int32.not_lt.mp c)) ?_
      refine RA.steps (i' := 44) (L' := [some (.ref 110), some (.int (nI a)), some (.int (nI b)), some (.int x3), some (.int (nI p)), some (.int (nI D))]) (st' := []) (h' := h) 2 rfl ?_
      refine RA.iinc rfl rfl (nI_1 D) rfl ?_
      refine RA.steps (i' := 23) (L' := [some (.ref 110), some (.int (nI a)), some (.int (nI b)), some (.int x3), some (.int (nI p)), some (.int (nI (D + 1)))]) (st' := []) (h' := h) 1 rfl ?_
      exact ih (D + 1) p (by omega) (by omega)
theorem join_both (x1 x2 x3 : Int32) (hh : HI HT h) (hj : JT h) (hq : ri h 34 5 = ri h 111 0) (hr : ∀ k : Nat, k < 9 → (k : Int) < (ri h 34 5).toInt → RubK h k) : ∃ v : Int32, Run prog E pV1 120 mX7_join [.ref 0, .int x1, .int x2, .int x3] h (some (.int v), h, 0, 0) ∧ Run prog E pV1 120 mX8_join [.ref 110, .int x1, .int x2, .int x3] h (some (.int v), h, 0, 0) := by
  obtain ⟨fs0, ho0, hF0⟩ := hi_obj hh (a := 0) rfl
  obtain ⟨fs34, ho34, -⟩ := w_obj hh
  obtain ⟨o8, ho8, hc8⟩ := mobj hh
  rcases rub_dec x1 hh with ⟨a, ha, rfl, ma⟩ | na
  rotate_left
  · rcases rub_dec x2 hh with ⟨b, hb, rfl, mb⟩ | nb
    · have mb2 : (b : Int) < (ri h 111 0).toInt := by rw [← hq]; exact mb
      refine ⟨-1000000001, ⟨Nat.le_of_ble_eq_true rfl, ⟨_, _, rfl⟩, ?_⟩, ⟨Nat.le_of_ble_eq_true rfl, ⟨_, _, rfl⟩, ?_⟩⟩
      · show RA prog E pV1 120 mX7_join 0 [some (.ref 0), some (.int x1), some (.int (nI b)), some (.int x3), none, none, none, none, none, none] [] h (some (.int (-1000000001)), h, 0, 0)
        refine RA.steps (i' := 1) (L' := [some (.ref 0), some (.int x1), some (.int (nI b)), some (.int x3), none, none, none, none, none, none]) (st' := [.ref 0]) (h' := h) 1 rfl ?_
        refine RA.getf rfl ho0 rfl (hF0.ref (k := 1) rfl) ?_
        refine RA.steps (i' := 3) (L' := [some (.ref 0), some (.int x1), some (.int (nI b)), some (.int x3), none, none, none, none, none, none]) (st' := [.int x1, .ref 34]) (h' := h) 1 rfl ?_
        refine RA.call0 (N := mX6_one) (as := [.ref 34, .int x1]) (rest := []) rfl rfl (pcallV rfl rfl ho34 rfl rfl (Nat.le_of_ble_eq_true rfl)) (one_n (d := 118) hh na) ?_
        refine RA.steps (i' := 6) (L' := [some (.ref 0), some (.int x1), some (.int (nI b)), some (.int x3), some (.null), none, none, none, none, none]) (st' := [.ref 0]) (h' := h) 2 rfl ?_
        refine RA.getf rfl ho0 rfl (hF0.ref (k := 1) rfl) ?_
        refine RA.steps (i' := 8) (L' := [some (.ref 0), some (.int x1), some (.int (nI b)), some (.int x3), some (.null), none, none, none, none, none]) (st' := [.int (nI b), .ref 34]) (h' := h) 1 rfl ?_
        refine RA.call0 (N := mX6_one) (as := [.ref 34, .int (nI b)]) (rest := []) rfl rfl (pcallV rfl rfl ho34 rfl rfl (Nat.le_of_ble_eq_true rfl)) (one_x (d := 118) hh hb mb) ?_
        refine RA.steps (i' := 23) (L' := [some (.ref 0), some (.int x1), some (.int (nI b)), some (.int x3), some (.null), some (.ref (39 + b)), none, none, none, none]) (st' := [.int (-1000000001)]) (h' := h) 4 rfl ?_
        exact RA.ret rfl rfl
      · show RA prog E pV1 120 mX8_join 0 [some (.ref 110), some (.int x1), some (.int (nI b)), some (.int x3), none, none] [] h (some (.int (-1000000001)), h, 0, 0)
        refine RA.steps (i' := 2) (L' := [some (.ref 110), some (.int x1), some (.int (nI b)), some (.int x3), none, none]) (st' := [.int x1, .ref 110]) (h' := h) 2 rfl ?_
        refine RA.call0 (N := mX8_isRubbing) (as := [.ref 110, .int x1]) (rest := []) rfl rfl (pcallV rfl rfl ho8 rfl hc8 (Nat.le_of_ble_eq_true rfl)) (isr_n (d := 117) hh hq na) ?_
        refine RA.if1T rfl rfl ?_
        refine RA.steps (i' := 18) (L' := [some (.ref 110), some (.int x1), some (.int (nI b)), some (.int x3), none, none]) (st' := [.int (-1000000001)]) (h' := h) 1 rfl ?_
        exact RA.ret rfl rfl
    · skip
      refine ⟨-1000000001, ⟨Nat.le_of_ble_eq_true rfl, ⟨_, _, rfl⟩, ?_⟩, ⟨Nat.le_of_ble_eq_true rfl, ⟨_, _, rfl⟩, ?_⟩⟩
      · show RA prog E pV1 120 mX7_join 0 [some (.ref 0), some (.int x1), some (.int x2), some (.int x3), none, none, none, none, none, none] [] h (some (.int (-1000000001)), h, 0, 0)
        refine RA.steps (i' := 1) (L' := [some (.ref 0), some (.int x1), some (.int x2), some (.int x3), none, none, none, none, none, none]) (st' := [.ref 0]) (h' := h) 1 rfl ?_
        refine RA.getf rfl ho0 rfl (hF0.ref (k := 1) rfl) ?_
        refine RA.steps (i' := 3) (L' := [some (.ref 0), some (.int x1), some (.int x2), some (.int x3), none, none, none, none, none, none]) (st' := [.int x1, .ref 34]) (h' := h) 1 rfl ?_
        refine RA.call0 (N := mX6_one) (as := [.ref 34, .int x1]) (rest := []) rfl rfl (pcallV rfl rfl ho34 rfl rfl (Nat.le_of_ble_eq_true rfl)) (one_n (d := 118) hh na) ?_
        refine RA.steps (i' := 6) (L' := [some (.ref 0), some (.int x1), some (.int x2), some (.int x3), some (.null), none, none, none, none, none]) (st' := [.ref 0]) (h' := h) 2 rfl ?_
        refine RA.getf rfl ho0 rfl (hF0.ref (k := 1) rfl) ?_
        refine RA.steps (i' := 8) (L' := [some (.ref 0), some (.int x1), some (.int x2), some (.int x3), some (.null), none, none, none, none, none]) (st' := [.int x2, .ref 34]) (h' := h) 1 rfl ?_
        refine RA.call0 (N := mX6_one) (as := [.ref 34, .int x2]) (rest := []) rfl rfl (pcallV rfl rfl ho34 rfl rfl (Nat.le_of_ble_eq_true rfl)) (one_n (d := 118) hh nb) ?_
        refine RA.steps (i' := 23) (L' := [some (.ref 0), some (.int x1), some (.int x2), some (.int x3), some (.null), some (.null), none, none, none, none]) (st' := [.int (-1000000001)]) (h' := h) 4 rfl ?_
        exact RA.ret rfl rfl
      · show RA prog E pV1 120 mX8_join 0 [some (.ref 110), some (.int x1), some (.int x2), some (.int x3), none, none] [] h (some (.int (-1000000001)), h, 0, 0)
        refine RA.steps (i' := 2) (L' := [some (.ref 110), some (.int x1), some (.int x2), some (.int x3), none, none]) (st' := [.int x1, .ref 110]) (h' := h) 2 rfl ?_
        refine RA.call0 (N := mX8_isRubbing) (as := [.ref 110, .int x1]) (rest := []) rfl rfl (pcallV rfl rfl ho8 rfl hc8 (Nat.le_of_ble_eq_true rfl)) (isr_n (d := 117) hh hq na) ?_
        refine RA.if1T rfl rfl ?_
        refine RA.steps (i' := 18) (L' := [some (.ref 110), some (.int x1), some (.int x2), some (.int x3), none, none]) (st' := [.int (-1000000001)]) (h' := h) 1 rfl ?_
        exact RA.ret rfl rfl
  have ma2 : (a : Int) < (ri h 111 0).toInt := by rw [← hq]; exact ma
  rcases rub_dec x2 hh with ⟨b, hb, rfl, mb⟩ | nb
  rotate_left
  · skip
    refine ⟨-1000000001, ⟨Nat.le_of_ble_eq_true rfl, ⟨_, _, rfl⟩, ?_⟩, ⟨Nat.le_of_ble_eq_true rfl, ⟨_, _, rfl⟩, ?_⟩⟩
    · show RA prog E pV1 120 mX7_join 0 [some (.ref 0), some (.int (nI a)), some (.int x2), some (.int x3), none, none, none, none, none, none] [] h (some (.int (-1000000001)), h, 0, 0)
      refine RA.steps (i' := 1) (L' := [some (.ref 0), some (.int (nI a)), some (.int x2), some (.int x3), none, none, none, none, none, none]) (st' := [.ref 0]) (h' := h) 1 rfl ?_
      refine RA.getf rfl ho0 rfl (hF0.ref (k := 1) rfl) ?_
      refine RA.steps (i' := 3) (L' := [some (.ref 0), some (.int (nI a)), some (.int x2), some (.int x3), none, none, none, none, none, none]) (st' := [.int (nI a), .ref 34]) (h' := h) 1 rfl ?_
      refine RA.call0 (N := mX6_one) (as := [.ref 34, .int (nI a)]) (rest := []) rfl rfl (pcallV rfl rfl ho34 rfl rfl (Nat.le_of_ble_eq_true rfl)) (one_x (d := 118) hh ha ma) ?_
      refine RA.steps (i' := 6) (L' := [some (.ref 0), some (.int (nI a)), some (.int x2), some (.int x3), some (.ref (39 + a)), none, none, none, none, none]) (st' := [.ref 0]) (h' := h) 2 rfl ?_
      refine RA.getf rfl ho0 rfl (hF0.ref (k := 1) rfl) ?_
      refine RA.steps (i' := 8) (L' := [some (.ref 0), some (.int (nI a)), some (.int x2), some (.int x3), some (.ref (39 + a)), none, none, none, none, none]) (st' := [.int x2, .ref 34]) (h' := h) 1 rfl ?_
      refine RA.call0 (N := mX6_one) (as := [.ref 34, .int x2]) (rest := []) rfl rfl (pcallV rfl rfl ho34 rfl rfl (Nat.le_of_ble_eq_true rfl)) (one_n (d := 118) hh nb) ?_
      refine RA.steps (i' := 23) (L' := [some (.ref 0), some (.int (nI a)), some (.int x2), some (.int x3), some (.ref (39 + a)), some (.null), none, none, none, none]) (st' := [.int (-1000000001)]) (h' := h) 6 rfl ?_
      exact RA.ret rfl rfl
    · show RA prog E pV1 120 mX8_join 0 [some (.ref 110), some (.int (nI a)), some (.int x2), some (.int x3), none, none] [] h (some (.int (-1000000001)), h, 0, 0)
      refine RA.steps (i' := 2) (L' := [some (.ref 110), some (.int (nI a)), some (.int x2), some (.int x3), none, none]) (st' := [.int (nI a), .ref 110]) (h' := h) 2 rfl ?_
      refine RA.call0 (N := mX8_isRubbing) (as := [.ref 110, .int (nI a)]) (rest := []) rfl rfl (pcallV rfl rfl ho8 rfl hc8 (Nat.le_of_ble_eq_true rfl)) (isr_x (d := 117) hh ha ma2) ?_
      refine RA.if1F rfl rfl ?_
      refine RA.steps (i' := 6) (L' := [some (.ref 110), some (.int (nI a)), some (.int x2), some (.int x3), none, none]) (st' := [.int x2, .ref 110]) (h' := h) 2 rfl ?_
      refine RA.call0 (N := mX8_isRubbing) (as := [.ref 110, .int x2]) (rest := []) rfl rfl (pcallV rfl rfl ho8 rfl hc8 (Nat.le_of_ble_eq_true rfl)) (isr_n (d := 117) hh hq nb) ?_
      refine RA.if1T rfl rfl ?_
      refine RA.steps (i' := 18) (L' := [some (.ref 110), some (.int (nI a)), some (.int x2), some (.int x3), none, none]) (st' := [.int (-1000000001)]) (h' := h) 1 rfl ?_
      exact RA.ret rfl rfl
  have mb2 : (b : Int) < (ri h 111 0).toInt := by rw [← hq]; exact mb
  by_cases c3 : a = b
  · subst c3
    refine ⟨-1000000001, ⟨Nat.le_of_ble_eq_true rfl, ⟨_, _, rfl⟩, ?_⟩, ⟨Nat.le_of_ble_eq_true rfl, ⟨_, _, rfl⟩, ?_⟩⟩
    · show RA prog E pV1 120 mX7_join 0 [some (.ref 0), some (.int (nI a)), some (.int (nI a)), some (.int x3), none, none, none, none, none, none] [] h (some (.int (-1000000001)), h, 0, 0)
      refine RA.steps (i' := 1) (L' := [some (.ref 0), some (.int (nI a)), some (.int (nI a)), some (.int x3), none, none, none, none, none, none]) (st' := [.ref 0]) (h' := h) 1 rfl ?_
      refine RA.getf rfl ho0 rfl (hF0.ref (k := 1) rfl) ?_
      refine RA.steps (i' := 3) (L' := [some (.ref 0), some (.int (nI a)), some (.int (nI a)), some (.int x3), none, none, none, none, none, none]) (st' := [.int (nI a), .ref 34]) (h' := h) 1 rfl ?_
      refine RA.call0 (N := mX6_one) (as := [.ref 34, .int (nI a)]) (rest := []) rfl rfl (pcallV rfl rfl ho34 rfl rfl (Nat.le_of_ble_eq_true rfl)) (one_x (d := 118) hh ha ma) ?_
      refine RA.steps (i' := 6) (L' := [some (.ref 0), some (.int (nI a)), some (.int (nI a)), some (.int x3), some (.ref (39 + a)), none, none, none, none, none]) (st' := [.ref 0]) (h' := h) 2 rfl ?_
      refine RA.getf rfl ho0 rfl (hF0.ref (k := 1) rfl) ?_
      refine RA.steps (i' := 8) (L' := [some (.ref 0), some (.int (nI a)), some (.int (nI a)), some (.int x3), some (.ref (39 + a)), none, none, none, none, none]) (st' := [.int (nI a), .ref 34]) (h' := h) 1 rfl ?_
      refine RA.call0 (N := mX6_one) (as := [.ref 34, .int (nI a)]) (rest := []) rfl rfl (pcallV rfl rfl ho34 rfl rfl (Nat.le_of_ble_eq_true rfl)) (one_x (d := 118) hh ha ma) ?_
      refine RA.steps (i' := 16) (L' := [some (.ref 0), some (.int (nI a)), some (.int (nI a)), some (.int x3), some (.ref (39 + a)), some (.ref (39 + a)), none, none, none, none]) (st' := [.int (nI a), .int (nI a)]) (h' := h) 7 rfl ?_
      refine RA.if2T rfl (decide_eq_true rfl) ?_
      refine RA.steps (i' := 23) (L' := [some (.ref 0), some (.int (nI a)), some (.int (nI a)), some (.int x3), some (.ref (39 + a)), some (.ref (39 + a)), none, none, none, none]) (st' := [.int (-1000000001)]) (h' := h) 1 rfl ?_
      exact RA.ret rfl rfl
    · show RA prog E pV1 120 mX8_join 0 [some (.ref 110), some (.int (nI a)), some (.int (nI a)), some (.int x3), none, none] [] h (some (.int (-1000000001)), h, 0, 0)
      refine RA.steps (i' := 2) (L' := [some (.ref 110), some (.int (nI a)), some (.int (nI a)), some (.int x3), none, none]) (st' := [.int (nI a), .ref 110]) (h' := h) 2 rfl ?_
      refine RA.call0 (N := mX8_isRubbing) (as := [.ref 110, .int (nI a)]) (rest := []) rfl rfl (pcallV rfl rfl ho8 rfl hc8 (Nat.le_of_ble_eq_true rfl)) (isr_x (d := 117) hh ha ma2) ?_
      refine RA.if1F rfl rfl ?_
      refine RA.steps (i' := 6) (L' := [some (.ref 110), some (.int (nI a)), some (.int (nI a)), some (.int x3), none, none]) (st' := [.int (nI a), .ref 110]) (h' := h) 2 rfl ?_
      refine RA.call0 (N := mX8_isRubbing) (as := [.ref 110, .int (nI a)]) (rest := []) rfl rfl (pcallV rfl rfl ho8 rfl hc8 (Nat.le_of_ble_eq_true rfl)) (isr_x (d := 117) hh ha ma2) ?_
      refine RA.if1F rfl rfl ?_
      refine RA.steps (i' := 10) (L' := [some (.ref 110), some (.int (nI a)), some (.int (nI a)), some (.int x3), none, none]) (st' := [.int (nI a), .int (nI a)]) (h' := h) 2 rfl ?_
      refine RA.if2T rfl (decide_eq_true rfl) ?_
      refine RA.steps (i' := 18) (L' := [some (.ref 110), some (.int (nI a)), some (.int (nI a)), some (.int x3), none, none]) (st' := [.int (-1000000001)]) (h' := h) 1 rfl ?_
      exact RA.ret rfl rfl
  by_cases hin : (0 : Int32) ≤ x3 ∧ x3 ≤ 1
  rotate_left
  · skip
    refine ⟨-1000000001, ⟨Nat.le_of_ble_eq_true rfl, ⟨_, _, rfl⟩, ?_⟩, ⟨Nat.le_of_ble_eq_true rfl, ⟨_, _, rfl⟩, ?_⟩⟩
    · show RA prog E pV1 120 mX7_join 0 [some (.ref 0), some (.int (nI a)), some (.int (nI b)), some (.int x3), none, none, none, none, none, none] [] h (some (.int (-1000000001)), h, 0, 0)
      refine RA.steps (i' := 1) (L' := [some (.ref 0), some (.int (nI a)), some (.int (nI b)), some (.int x3), none, none, none, none, none, none]) (st' := [.ref 0]) (h' := h) 1 rfl ?_
      refine RA.getf rfl ho0 rfl (hF0.ref (k := 1) rfl) ?_
      refine RA.steps (i' := 3) (L' := [some (.ref 0), some (.int (nI a)), some (.int (nI b)), some (.int x3), none, none, none, none, none, none]) (st' := [.int (nI a), .ref 34]) (h' := h) 1 rfl ?_
      refine RA.call0 (N := mX6_one) (as := [.ref 34, .int (nI a)]) (rest := []) rfl rfl (pcallV rfl rfl ho34 rfl rfl (Nat.le_of_ble_eq_true rfl)) (one_x (d := 118) hh ha ma) ?_
      refine RA.steps (i' := 6) (L' := [some (.ref 0), some (.int (nI a)), some (.int (nI b)), some (.int x3), some (.ref (39 + a)), none, none, none, none, none]) (st' := [.ref 0]) (h' := h) 2 rfl ?_
      refine RA.getf rfl ho0 rfl (hF0.ref (k := 1) rfl) ?_
      refine RA.steps (i' := 8) (L' := [some (.ref 0), some (.int (nI a)), some (.int (nI b)), some (.int x3), some (.ref (39 + a)), none, none, none, none, none]) (st' := [.int (nI b), .ref 34]) (h' := h) 1 rfl ?_
      refine RA.call0 (N := mX6_one) (as := [.ref 34, .int (nI b)]) (rest := []) rfl rfl (pcallV rfl rfl ho34 rfl rfl (Nat.le_of_ble_eq_true rfl)) (one_x (d := 118) hh hb mb) ?_
      refine RA.steps (i' := 16) (L' := [some (.ref 0), some (.int (nI a)), some (.int (nI b)), some (.int x3), some (.ref (39 + a)), some (.ref (39 + b)), none, none, none, none]) (st' := [.int (nI b), .int (nI a)]) (h' := h) 7 rfl ?_
      refine RA.if2F rfl (decide_eq_false (fun q => c3 ((nI_eq (by omega) (by omega)).mp q))) ?_
      refine RA.steps (i' := 20) (L' := [some (.ref 0), some (.int (nI a)), some (.int (nI b)), some (.int x3), some (.ref (39 + a)), some (.ref (39 + b)), none, none, none, none]) (st' := [.int 1, .int 0, .int x3]) (h' := h) 3 rfl ?_
      refine RA.call0 (N := mX7_within) (as := [.int x3, .int 0, .int 1]) (rest := []) rfl rfl rfl (within_f hin) ?_
      refine RA.if1F rfl rfl ?_
      refine RA.steps (i' := 23) (L' := [some (.ref 0), some (.int (nI a)), some (.int (nI b)), some (.int x3), some (.ref (39 + a)), some (.ref (39 + b)), none, none, none, none]) (st' := [.int (-1000000001)]) (h' := h) 1 rfl ?_
      exact RA.ret rfl rfl
    · show RA prog E pV1 120 mX8_join 0 [some (.ref 110), some (.int (nI a)), some (.int (nI b)), some (.int x3), none, none] [] h (some (.int (-1000000001)), h, 0, 0)
      refine RA.steps (i' := 2) (L' := [some (.ref 110), some (.int (nI a)), some (.int (nI b)), some (.int x3), none, none]) (st' := [.int (nI a), .ref 110]) (h' := h) 2 rfl ?_
      refine RA.call0 (N := mX8_isRubbing) (as := [.ref 110, .int (nI a)]) (rest := []) rfl rfl (pcallV rfl rfl ho8 rfl hc8 (Nat.le_of_ble_eq_true rfl)) (isr_x (d := 117) hh ha ma2) ?_
      refine RA.if1F rfl rfl ?_
      refine RA.steps (i' := 6) (L' := [some (.ref 110), some (.int (nI a)), some (.int (nI b)), some (.int x3), none, none]) (st' := [.int (nI b), .ref 110]) (h' := h) 2 rfl ?_
      refine RA.call0 (N := mX8_isRubbing) (as := [.ref 110, .int (nI b)]) (rest := []) rfl rfl (pcallV rfl rfl ho8 rfl hc8 (Nat.le_of_ble_eq_true rfl)) (isr_x (d := 117) hh hb mb2) ?_
      refine RA.if1F rfl rfl ?_
      refine RA.steps (i' := 10) (L' := [some (.ref 110), some (.int (nI a)), some (.int (nI b)), some (.int x3), none, none]) (st' := [.int (nI b), .int (nI a)]) (h' := h) 2 rfl ?_
      refine RA.if2F rfl (decide_eq_false (fun q => c3 ((nI_eq (by omega) (by omega)).mp q))) ?_
      refine RA.steps (i' := 15) (L' := [some (.ref 110), some (.int (nI a)), some (.int (nI b)), some (.int x3), none, none]) (st' := [.long (Int32.toInt64 1), .long (Int32.toInt64 0), .long x3.toInt64]) (h' := h) 4 rfl ?_
      refine RA.call0 (N := mX8_isIn) (as := [.long x3.toInt64, .long (Int32.toInt64 0), .long (Int32.toInt64 1)]) (rest := []) rfl rfl rfl (isIn_f hin) ?_
      refine RA.if1F rfl rfl ?_
      refine RA.steps (i' := 18) (L' := [some (.ref 110), some (.int (nI a)), some (.int (nI b)), some (.int x3), none, none]) (st' := [.int (-1000000001)]) (h' := h) 1 rfl ?_
      exact RA.ret rfl rfl
  obtain ⟨sa, sa1, sa8, za⟩ := rub_sz hh ha
  obtain ⟨sb, sb1, sb8, zb⟩ := rub_sz hh hb
  have ra : ri h 111 (21 + 6 * a + 2) = nI sa := by rw [← hr a ha ma 2 (by decide)]; exact za
  have rb : ri h 111 (21 + 6 * b + 2) = nI sb := by rw [← hr b hb mb 2 (by decide)]; exact zb
  obtain ⟨Sa, fa⟩ := say_fn (E := E) (sz := sa) hh hj ha (hr a ha ma) (by rw [za]; exact nI_toInt (by omega))
  obtain ⟨Sb, fb⟩ := say_fn (E := E) (sz := sb) hh hj hb (hr b hb mb) (by rw [zb]; exact nI_toInt (by omega))
  obtain ⟨fsa, hoa, hfa⟩ := rub_obj hh ha
  have hsa := hfa 2 (by decide)
  rw [za] at hsa
  obtain ⟨J, jc, jr⟩ : ∃ J : Nat → Int32, (∀ D : Nat, D < sa → Run prog E pV1 119 mX4_joined [.ref (39 + a), .ref (39 + b), .int (nI D)] h (some (.int (J D)), h, 0, 0)) ∧ (∀ D : Nat, D < sa → Run prog E pV1 119 mX8_joinBy [.ref 110, .int (nI a), .int (nI b), .int (nI D)] h (some (.int (J D)), h, 0, 0)) := by
    refine ⟨fun D => JV Sa Sb D (min (sa - D) sb) D 0, fun D hD => ⟨Nat.le_of_ble_eq_true rfl, ⟨_, _, rfl⟩, ?_⟩, fun D hD => ⟨Nat.le_of_ble_eq_true rfl, ⟨_, _, rfl⟩, ?_⟩⟩
    · exact RA.steps (i' := 4) (L' := [some (.ref (39 + a)), some (.ref (39 + b)), some (.int (nI D)), some (.int 0), some (.int (nI D))]) (st' := []) (h' := h) 4 rfl (joined_l hh ha hb za zb sa8 sb8 fa fb _ D 0 (by omega) (by omega) (by omega) (by omega))
    · exact RA.steps (i' := 4) (L' := [some (.ref 110), some (.int (nI a)), some (.int (nI b)), some (.int (nI D)), some (.int 0), some (.int (nI D))]) (st' := []) (h' := h) 4 rfl (joinBy_l hh ha hb za zb sa8 sb8 fa fb ra rb _ D 0 (by omega) (by omega) (by omega) (by omega))
  refine ⟨if x3 = 0 then nI (JB J (sa - 1) 1 0) else J (JB J (sa - 1) 1 0), ⟨Nat.le_of_ble_eq_true rfl, ⟨_, _, rfl⟩, ?_⟩, ⟨Nat.le_of_ble_eq_true rfl, ⟨_, _, rfl⟩, ?_⟩⟩
  · show RA prog E pV1 120 mX7_join 0 [some (.ref 0), some (.int (nI a)), some (.int (nI b)), some (.int x3), none, none, none, none, none, none] [] h (some (.int (if x3 = 0 then nI (JB J (sa - 1) 1 0) else J (JB J (sa - 1) 1 0))), h, 0, 0)
    refine RA.steps (i' := 1) (L' := [some (.ref 0), some (.int (nI a)), some (.int (nI b)), some (.int x3), none, none, none, none, none, none]) (st' := [.ref 0]) (h' := h) 1 rfl ?_
    refine RA.getf rfl ho0 rfl (hF0.ref (k := 1) rfl) ?_
    refine RA.steps (i' := 3) (L' := [some (.ref 0), some (.int (nI a)), some (.int (nI b)), some (.int x3), none, none, none, none, none, none]) (st' := [.int (nI a), .ref 34]) (h' := h) 1 rfl ?_
    refine RA.call0 (N := mX6_one) (as := [.ref 34, .int (nI a)]) (rest := []) rfl rfl (pcallV rfl rfl ho34 rfl rfl (Nat.le_of_ble_eq_true rfl)) (one_x (d := 118) hh ha ma) ?_
    refine RA.steps (i' := 6) (L' := [some (.ref 0), some (.int (nI a)), some (.int (nI b)), some (.int x3), some (.ref (39 + a)), none, none, none, none, none]) (st' := [.ref 0]) (h' := h) 2 rfl ?_
    refine RA.getf rfl ho0 rfl (hF0.ref (k := 1) rfl) ?_
    refine RA.steps (i' := 8) (L' := [some (.ref 0), some (.int (nI a)), some (.int (nI b)), some (.int x3), some (.ref (39 + a)), none, none, none, none, none]) (st' := [.int (nI b), .ref 34]) (h' := h) 1 rfl ?_
    refine RA.call0 (N := mX6_one) (as := [.ref 34, .int (nI b)]) (rest := []) rfl rfl (pcallV rfl rfl ho34 rfl rfl (Nat.le_of_ble_eq_true rfl)) (one_x (d := 118) hh hb mb) ?_
    refine RA.steps (i' := 16) (L' := [some (.ref 0), some (.int (nI a)), some (.int (nI b)), some (.int x3), some (.ref (39 + a)), some (.ref (39 + b)), none, none, none, none]) (st' := [.int (nI b), .int (nI a)]) (h' := h) 7 rfl ?_
    refine RA.if2F rfl (decide_eq_false (fun q => c3 ((nI_eq (by omega) (by omega)).mp q))) ?_
    refine RA.steps (i' := 20) (L' := [some (.ref 0), some (.int (nI a)), some (.int (nI b)), some (.int x3), some (.ref (39 + a)), some (.ref (39 + b)), none, none, none, none]) (st' := [.int 1, .int 0, .int x3]) (h' := h) 3 rfl ?_
    refine RA.call0 (N := mX7_within) (as := [.int x3, .int 0, .int 1]) (rest := []) rfl rfl rfl (within_t hin) ?_
    refine RA.if1T rfl rfl ?_
    refine RA.steps (i' := 29) (L' := [some (.ref 0), some (.int (nI a)), some (.int (nI b)), some (.int x3), some (.ref (39 + a)), some (.ref (39 + b)), some (.int 0), none, none, none]) (st' := [.int 0, .ref (39 + b), .ref (39 + a)]) (h' := h) 5 rfl ?_
    refine RA.call0 (N := mX4_joined) (as := [.ref (39 + a), .ref (39 + b), .int 0]) (rest := []) rfl rfl (pcallV rfl rfl hoa rfl rfl (Nat.le_of_ble_eq_true rfl)) (jc 0 (by omega)) ?_
    refine RA.steps (i' := 33) (L' := [some (.ref 0), some (.int (nI a)), some (.int (nI b)), some (.int x3), some (.ref (39 + a)), some (.ref (39 + b)), some (.int 0), some (.int (J 0)), some (.int 1), none]) (st' := []) (h' := h) 3 rfl ?_
    have k := join_cl (x3 := x3) hh ha sa8 za hoa hsa jc (sa - 1) 1 0 none (by omega) (by omega)
    rw [nI_0, show nI 1 = 1 from by decide +kernel] at k
    exact k
  · show RA prog E pV1 120 mX8_join 0 [some (.ref 110), some (.int (nI a)), some (.int (nI b)), some (.int x3), none, none] [] h (some (.int (if x3 = 0 then nI (JB J (sa - 1) 1 0) else J (JB J (sa - 1) 1 0))), h, 0, 0)
    refine RA.steps (i' := 2) (L' := [some (.ref 110), some (.int (nI a)), some (.int (nI b)), some (.int x3), none, none]) (st' := [.int (nI a), .ref 110]) (h' := h) 2 rfl ?_
    refine RA.call0 (N := mX8_isRubbing) (as := [.ref 110, .int (nI a)]) (rest := []) rfl rfl (pcallV rfl rfl ho8 rfl hc8 (Nat.le_of_ble_eq_true rfl)) (isr_x (d := 117) hh ha ma2) ?_
    refine RA.if1F rfl rfl ?_
    refine RA.steps (i' := 6) (L' := [some (.ref 110), some (.int (nI a)), some (.int (nI b)), some (.int x3), none, none]) (st' := [.int (nI b), .ref 110]) (h' := h) 2 rfl ?_
    refine RA.call0 (N := mX8_isRubbing) (as := [.ref 110, .int (nI b)]) (rest := []) rfl rfl (pcallV rfl rfl ho8 rfl hc8 (Nat.le_of_ble_eq_true rfl)) (isr_x (d := 117) hh hb mb2) ?_
    refine RA.if1F rfl rfl ?_
    refine RA.steps (i' := 10) (L' := [some (.ref 110), some (.int (nI a)), some (.int (nI b)), some (.int x3), none, none]) (st' := [.int (nI b), .int (nI a)]) (h' := h) 2 rfl ?_
    refine RA.if2F rfl (decide_eq_false (fun q => c3 ((nI_eq (by omega) (by omega)).mp q))) ?_
    refine RA.steps (i' := 15) (L' := [some (.ref 110), some (.int (nI a)), some (.int (nI b)), some (.int x3), none, none]) (st' := [.long (Int32.toInt64 1), .long (Int32.toInt64 0), .long x3.toInt64]) (h' := h) 4 rfl ?_
    refine RA.call0 (N := mX8_isIn) (as := [.long x3.toInt64, .long (Int32.toInt64 0), .long (Int32.toInt64 1)]) (rest := []) rfl rfl rfl (isIn_t hin) ?_
    refine RA.if1T rfl rfl ?_
    refine RA.steps (i' := 23) (L' := [some (.ref 110), some (.int (nI a)), some (.int (nI b)), some (.int x3), some (.int 0), some (.int 1)]) (st' := []) (h' := h) 4 rfl ?_
    have k := join_rl (x3 := x3) hh ha sa8 ra jr (sa - 1) 1 0 (by omega) (by omega)
    rw [nI_0, show nI 1 = 1 from by decide +kernel] at k
    exact k
end JOI
