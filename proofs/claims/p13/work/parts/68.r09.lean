/-! ===== falseAt, fits ===== -/
section FLS
variable {E : pX} {h : List pC}
def FV (S M : Nat → Int32) (x : Nat) : Nat → Nat → Int32 → Int32
  | 0, _, c => c
  | m + 1, p, c => FV S M x m (p + 1) (if S p = M (x + p) then c else c + 1)
theorem FV_s (S M : Nat → Int32) (x m p : Nat) (c : Int32) : FV S M x (m + 1) p c = FV S M x m (p + 1) (if S p = M (x + p) then c else c + 1) := rfl
def FB (F : Nat → Int32) : Nat → Nat → Nat → Nat
  | 0, _, p => p
  | m + 1, x, p => FB F m (x + 1) (if F x < F p then x else p)
theorem FB_s (F : Nat → Int32) (m x p : Nat) : FB F (m + 1) x p = FB F m (x + 1) (if F x < F p then x else p) := rfl
theorem e16 {sz : Nat} (hs : sz ≤ 8) : (16 - nI sz : Int32) = nI (16 - sz) := by
  rw [show (16 : Int32) = nI 16 by decide +kernel, nIsub (by omega) (by decide)]
theorem false_cl {k sz x : Nat} {S M : Nat → Int32} (hh : HI HT h) (hk : k < 9) (sz8 : sz ≤ 8) (hx : x < 16) (fS : SayF E h k sz S) {fs : List Value} (za : ri h (39 + k) 2 = nI sz) (ho34 : pobj h 34 = some (6, fs)) (w1 : fs[1]? = some (.ref 35)) (pm : pint h 35 = some (16, M)) : ∀ (m p : Nat) (c : Int32), p + m ≤ sz → x + p + m ≤ 16 → (p + m = sz ∨ x + p + m = 16) → RA prog E pV1 119 mX6_falsehood 4 [some (.ref 34), some (.ref (39 + k)), some (.int (nI x)), some (.int c), some (.int (nI p))] [] h (some (.int (FV S M x m p c)), h, 0, 0) := by
  obtain ⟨fsr, hor, hfr⟩ := rub_obj hh hk
  have hsz := hfr 2 (by decide)
  rw [za] at hsz
  intro m
  induction m with
  | zero =>
    intro p c h1 h2 h3
    show RA prog E pV1 119 mX6_falsehood 4 [some (.ref 34), some (.ref (39 + k)), some (.int (nI x)), some (.int c), some (.int (nI p))] [] h (some (.int c), h, 0, 0)
    by_cases c0 : sz ≤ p
    · skip
      refine RA.steps (i' := 6) (L' := [some (.ref 34), some (.ref (39 + k)), some (.int (nI x)), some (.int c), some (.int (nI p))]) (st' := [.ref (39 + k), .int (nI p)]) (h' := h) 2 rfl ?_
      refine RA.getf rfl hor rfl hsz ?_
      refine RA.if2T rfl (decide_eq_true (nI_le (show sz ≤ p by omega) (by omega))) ?_
      refine RA.steps (i' := 26) (L' := [some (.ref 34), some (.ref (39 + k)), some (.int (nI x)), some (.int c), some (.int (nI p))]) (st' := [.int c]) (h' := h) 1 rfl ?_
      exact RA.ret rfl rfl
    · skip
      refine RA.steps (i' := 6) (L' := [some (.ref 34), some (.ref (39 + k)), some (.int (nI x)), some (.int c), some (.int (nI p))]) (st' := [.ref (39 + k), .int (nI p)]) (h' := h) 2 rfl ?_
      refine RA.getf rfl hor rfl hsz ?_
      refine RA.if2F rfl (decide_eq_false (Int32.not_le.mpr (nI_lt (show p < sz by omega) (by omega)))) ?_
      refine RA.steps (i' := 11) (L' := [some (.ref 34), some (.ref (39 + k)), some (.int (nI x)), some (.int c), some (.int (nI p))]) (st' := [.int ((nI x) + (nI p))]) (h' := h) 3 rfl ?_
      rw [(nI_add x p)]
      refine RA.steps (i' := 12) (L' := [some (.ref 34), some (.ref (39 + k)), some (.int (nI x)), some (.int c), some (.int (nI p))]) (st' := [.int 16, .int (nI (x + p))]) (h' := h) 1 rfl ?_
      refine RA.if2T rfl (decide_eq_true (show nI 16 ≤ nI (x + p) from nI_le (by omega) (by omega))) ?_
      refine RA.steps (i' := 26) (L' := [some (.ref 34), some (.ref (39 + k)), some (.int (nI x)), some (.int c), some (.int (nI p))]) (st' := [.int c]) (h' := h) 1 rfl ?_
      exact RA.ret rfl rfl
  | succ m ih =>
    intro p c h1 h2 h3
    rw [FV_s]
    refine RA.steps (i' := 6) (L' := [some (.ref 34), some (.ref (39 + k)), some (.int (nI x)), some (.int c), some (.int (nI p))]) (st' := [.ref (39 + k), .int (nI p)]) (h' := h) 2 rfl ?_
    refine RA.getf rfl hor rfl hsz ?_
    refine RA.if2F rfl (decide_eq_false (Int32.not_le.mpr (nI_lt (show p < sz by omega) (by omega)))) ?_
    refine RA.steps (i' := 11) (L' := [some (.ref 34), some (.ref (39 + k)), some (.int (nI x)), some (.int c), some (.int (nI p))]) (st' := [.int ((nI x) + (nI p))]) (h' := h) 3 rfl ?_
    rw [(nI_add x p)]
    refine RA.steps (i' := 12) (L' := [some (.ref 34), some (.ref (39 + k)), some (.int (nI x)), some (.int c), some (.int (nI p))]) (st' := [.int 16, .int (nI (x + p))]) (h' := h) 1 rfl ?_
    refine RA.if2F rfl (decide_eq_false (show ¬ nI 16 ≤ nI (x + p) from nI_ge (by omega) (by omega))) ?_
    refine RA.steps (i' := 15) (L' := [some (.ref 34), some (.ref (39 + k)), some (.int (nI x)), some (.int c), some (.int (nI p))]) (st' := [.int (nI p), .ref (39 + k)]) (h' := h) 2 rfl ?_
    refine RA.call0 (N := mX4_sayAt) (as := [.ref (39 + k), .int (nI p)]) (rest := []) rfl rfl (pcallV rfl rfl hor rfl rfl (Nat.le_of_ble_eq_true rfl)) (fS p (by omega)).1 ?_
    refine RA.steps (i' := 20) (L' := [some (.ref 34), some (.ref (39 + k)), some (.int (nI x)), some (.int c), some (.int (nI p))]) (st' := [.int ((nI x) + (nI p)), .ref 34, .int (S p)]) (h' := h) 4 rfl ?_
    rw [(nI_add x p)]
    refine RA.call0 (N := mX6_markAt) (as := [.ref 34, .int (nI (x + p))]) (rest := [.int (S p)]) rfl rfl (pcallV rfl rfl ho34 rfl rfl (Nat.le_of_ble_eq_true rfl)) (markAt_x (d := 117) ho34 w1 (by omega) pm) ?_
    by_cases e : S p = M (x + p)
    · rw [if_pos e]
      refine RA.if2T rfl (decide_eq_true e) ?_
      refine RA.iinc rfl rfl (nI_1 p) rfl ?_
      refine RA.steps (i' := 4) (L' := [some (.ref 34), some (.ref (39 + k)), some (.int (nI x)), some (.int c), some (.int (nI (p + 1)))]) (st' := []) (h' := h) 1 rfl ?_
      exact ih (p + 1) c (by omega) (by omega) (by omega)
    · rw [if_neg e]
      refine RA.if2F rfl (decide_eq_false e) ?_
      refine RA.iinc rfl rfl rfl rfl ?_
      refine RA.iinc rfl rfl (nI_1 p) rfl ?_
      refine RA.steps (i' := 4) (L' := [some (.ref 34), some (.ref (39 + k)), some (.int (nI x)), some (.int (c + 1)), some (.int (nI (p + 1)))]) (st' := []) (h' := h) 1 rfl ?_
      exact ih (p + 1) (c + 1) (by omega) (by omega) (by omega)
theorem false_rl {k sz x : Nat} {S M : Nat → Int32} (hh : HI HT h) (hk : k < 9) (sz8 : sz ≤ 8) (hx : x < 16) (fS : SayF E h k sz S) {t : Nat → Int32} {fs : List Value} (ra : ri h 111 (21 + 6 * k + 2) = nI sz) (ho8 : pobj h 110 = some (8, fs)) (f0 : fs[0]? = some (.ref 111)) (pt : pint h 111 = some (3075, t)) (hM : ∀ j : Nat, j < 16 → t (5 + j) = M j) : ∀ (m p : Nat) (c : Int32), p + m ≤ sz → x + p + m ≤ 16 → (p + m = sz ∨ x + p + m = 16) → RA prog E pV1 119 mX8_falseOf 4 [some (.ref 110), some (.int (nI k)), some (.int (nI x)), some (.int c), some (.int (nI p))] [] h (some (.int (FV S M x m p c)), h, 0, 0) := by
  have _ := hx
  intro m
  induction m with
  | zero =>
    intro p c h1 h2 h3
    show RA prog E pV1 119 mX8_falseOf 4 [some (.ref 110), some (.int (nI k)), some (.int (nI x)), some (.int c), some (.int (nI p))] [] h (some (.int c), h, 0, 0)
    by_cases c0 : sz ≤ p
    · skip
      refine RA.steps (i' := 8) (L' := [some (.ref 110), some (.int (nI k)), some (.int (nI x)), some (.int c), some (.int (nI p))]) (st' := [.int 2, .int (nI k), .ref 110, .int (nI p)]) (h' := h) 4 rfl ?_
      refine RA.call0 (N := mX8_of) (as := [.ref 110, .int (nI k), .int 2]) (rest := [.int (nI p)]) rfl rfl (pcallV rfl rfl ho8 rfl rfl (Nat.le_of_ble_eq_true rfl)) (of_z (d := 117) hh hk ra) ?_
      refine RA.if2T rfl (decide_eq_true (nI_le (show sz ≤ p by omega) (by omega))) ?_
      refine RA.steps (i' := 37) (L' := [some (.ref 110), some (.int (nI k)), some (.int (nI x)), some (.int c), some (.int (nI p))]) (st' := [.int c]) (h' := h) 1 rfl ?_
      exact RA.ret rfl rfl
    · skip
      refine RA.steps (i' := 8) (L' := [some (.ref 110), some (.int (nI k)), some (.int (nI x)), some (.int c), some (.int (nI p))]) (st' := [.int 2, .int (nI k), .ref 110, .int (nI p)]) (h' := h) 4 rfl ?_
      refine RA.call0 (N := mX8_of) (as := [.ref 110, .int (nI k), .int 2]) (rest := [.int (nI p)]) rfl rfl (pcallV rfl rfl ho8 rfl rfl (Nat.le_of_ble_eq_true rfl)) (of_z (d := 117) hh hk ra) ?_
      refine RA.if2F rfl (decide_eq_false (Int32.not_le.mpr (nI_lt (show p < sz by omega) (by omega)))) ?_
      refine RA.steps (i' := 13) (L' := [some (.ref 110), some (.int (nI k)), some (.int (nI x)), some (.int c), some (.int (nI p))]) (st' := [.int ((nI x) + (nI p))]) (h' := h) 3 rfl ?_
      rw [(nI_add x p)]
      refine RA.steps (i' := 14) (L' := [some (.ref 110), some (.int (nI k)), some (.int (nI x)), some (.int c), some (.int (nI p))]) (st' := [.int 16, .int (nI (x + p))]) (h' := h) 1 rfl ?_
      refine RA.if2T rfl (decide_eq_true (show nI 16 ≤ nI (x + p) from nI_le (by omega) (by omega))) ?_
      refine RA.steps (i' := 37) (L' := [some (.ref 110), some (.int (nI k)), some (.int (nI x)), some (.int c), some (.int (nI p))]) (st' := [.int c]) (h' := h) 1 rfl ?_
      exact RA.ret rfl rfl
  | succ m ih =>
    intro p c h1 h2 h3
    rw [FV_s]
    have tM : x + p < 16 → t (5 + x + p) = M (x + p) := fun q => by
      rw [show 5 + x + p = 5 + (x + p) by omega]
      exact hM (x + p) q
    have tM := tM (by omega)
    refine RA.steps (i' := 8) (L' := [some (.ref 110), some (.int (nI k)), some (.int (nI x)), some (.int c), some (.int (nI p))]) (st' := [.int 2, .int (nI k), .ref 110, .int (nI p)]) (h' := h) 4 rfl ?_
    refine RA.call0 (N := mX8_of) (as := [.ref 110, .int (nI k), .int 2]) (rest := [.int (nI p)]) rfl rfl (pcallV rfl rfl ho8 rfl rfl (Nat.le_of_ble_eq_true rfl)) (of_z (d := 117) hh hk ra) ?_
    refine RA.if2F rfl (decide_eq_false (Int32.not_le.mpr (nI_lt (show p < sz by omega) (by omega)))) ?_
    refine RA.steps (i' := 13) (L' := [some (.ref 110), some (.int (nI k)), some (.int (nI x)), some (.int c), some (.int (nI p))]) (st' := [.int ((nI x) + (nI p))]) (h' := h) 3 rfl ?_
    rw [(nI_add x p)]
    refine RA.steps (i' := 14) (L' := [some (.ref 110), some (.int (nI k)), some (.int (nI x)), some (.int c), some (.int (nI p))]) (st' := [.int 16, .int (nI (x + p))]) (h' := h) 1 rfl ?_
    refine RA.if2F rfl (decide_eq_false (show ¬ nI 16 ≤ nI (x + p) from nI_ge (by omega) (by omega))) ?_
    refine RA.steps (i' := 19) (L' := [some (.ref 110), some (.int (nI k)), some (.int (nI x)), some (.int c), some (.int (nI p))]) (st' := [.int (nI p), .int (nI k), .ref 110, .int c]) (h' := h) 4 rfl ?_
    refine RA.call0 (N := mX8_saysAt) (as := [.ref 110, .int (nI k), .int (nI p)]) (rest := [.int c]) rfl rfl (pcallV rfl rfl ho8 rfl rfl (Nat.le_of_ble_eq_true rfl)) (fS p (by omega)).2 ?_
    refine RA.steps (i' := 21) (L' := [some (.ref 110), some (.int (nI k)), some (.int (nI x)), some (.int c), some (.int (nI p))]) (st' := [.ref 110, .int (S p), .int c]) (h' := h) 1 rfl ?_
    refine RA.getf rfl ho8 rfl f0 ?_
    refine RA.steps (i' := 25) (L' := [some (.ref 110), some (.int (nI k)), some (.int (nI x)), some (.int c), some (.int (nI p))]) (st' := [.int (5 + (nI x)), .ref 111, .int (S p), .int c]) (h' := h) 3 rfl ?_
    rw [(e5 x)]
    refine RA.steps (i' := 27) (L' := [some (.ref 110), some (.int (nI k)), some (.int (nI x)), some (.int c), some (.int (nI p))]) (st' := [.int ((nI (5 + x)) + (nI p)), .ref 111, .int (S p), .int c]) (h' := h) 2 rfl ?_
    rw [(nI_add (5 + x) p)]
    refine RA.iald (w := (M (x + p))) rfl pt ⟨(nI_cl (by omega)).1, by rw [(nI_cl (by omega)).2]; show 5 + x + p < 3075; omega⟩ (by rw [(nI_cl (by omega)).2]; exact tM) ?_
    by_cases e : S p = M (x + p)
    · rw [if_pos e]
      refine RA.if2F rfl (decide_eq_false (fun q => q e)) ?_
      refine RA.steps (i' := 33) (L' := [some (.ref 110), some (.int (nI k)), some (.int (nI x)), some (.int c), some (.int (nI p))]) (st' := [.int (c + 0)]) (h' := h) 3 rfl ?_
      rw [(Int32.add_zero c)]
      refine RA.steps (i' := 34) (L' := [some (.ref 110), some (.int (nI k)), some (.int (nI x)), some (.int c), some (.int (nI p))]) (st' := []) (h' := h) 1 rfl ?_
      refine RA.iinc rfl rfl (nI_1 p) rfl ?_
      refine RA.steps (i' := 4) (L' := [some (.ref 110), some (.int (nI k)), some (.int (nI x)), some (.int c), some (.int (nI (p + 1)))]) (st' := []) (h' := h) 1 rfl ?_
      exact ih (p + 1) c (by omega) (by omega) (by omega)
    · rw [if_neg e]
      refine RA.if2T rfl (decide_eq_true e) ?_
      refine RA.steps (i' := 34) (L' := [some (.ref 110), some (.int (nI k)), some (.int (nI x)), some (.int (c + 1)), some (.int (nI p))]) (st' := []) (h' := h) 3 rfl ?_
      refine RA.iinc rfl rfl (nI_1 p) rfl ?_
      refine RA.steps (i' := 4) (L' := [some (.ref 110), some (.int (nI k)), some (.int (nI x)), some (.int (c + 1)), some (.int (nI (p + 1)))]) (st' := []) (h' := h) 1 rfl ?_
      exact ih (p + 1) (c + 1) (by omega) (by omega) (by omega)
theorem false_fn {k sz : Nat} (hh : HI HT h) (hj : JT h) (hk : k < 9) (sz8 : sz ≤ 8) (za : ri h (39 + k) 2 = nI sz) (ra : ri h 111 (21 + 6 * k + 2) = nI sz) (hr : RubK h k) (hmk : RMk h) : ∃ F : Nat → Int32, (∀ x : Nat, x < 16 → Run prog E pV1 119 mX6_falsehood [.ref 34, .ref (39 + k), .int (nI x)] h (some (.int (F x)), h, 0, 0)) ∧ (∀ x : Nat, x < 16 → Run prog E pV1 119 mX8_falseOf [.ref 110, .int (nI k), .int (nI x)] h (some (.int (F x)), h, 0, 0)) := by
  obtain ⟨S, fS⟩ := say_fn (E := E) (sz := sz) hh hj hk hr (by rw [za]; exact nI_toInt (by omega))
  obtain ⟨M, pm, uM, -⟩ := hi_int (a := 35) (n := 16) (sg := []) hh rfl
  obtain ⟨t, pt, ut, -⟩ := hi_int hh HT111
  obtain ⟨fs34, ho34, -, w1, -⟩ := w_obj hh
  obtain ⟨fs8, ho8, hF8⟩ := hi_obj hh (a := 110) rfl
  have hM : ∀ j : Nat, j < 16 → t (5 + j) = M j := fun j hj16 => by
    rw [← ut (5 + j) (by omega), ← uM j hj16]
    exact (hmk j hj16).symm
  refine ⟨fun x => FV S M x (min sz (16 - x)) 0 0, fun x hx => ⟨Nat.le_of_ble_eq_true rfl, ⟨_, _, rfl⟩, ?_⟩, fun x hx => ⟨Nat.le_of_ble_eq_true rfl, ⟨_, _, rfl⟩, ?_⟩⟩
  · refine RA.steps (i' := 4) (L' := [some (.ref 34), some (.ref (39 + k)), some (.int (nI x)), some (.int 0), some (.int 0)]) (st' := []) (h' := h) 4 rfl ?_
    have k2 := false_cl hh hk sz8 hx fS za ho34 w1 pm (min sz (16 - x)) 0 0 (by omega) (by omega) (by omega)
    rw [nI_0] at k2
    exact k2
  · refine RA.steps (i' := 4) (L' := [some (.ref 110), some (.int (nI k)), some (.int (nI x)), some (.int 0), some (.int 0)]) (st' := []) (h' := h) 4 rfl ?_
    have k2 := false_rl hh hk sz8 hx fS ra ho8 (hF8.ref (k := 0) rfl) pt hM (min sz (16 - x)) 0 0 (by omega) (by omega) (by omega)
    rw [nI_0] at k2
    exact k2
theorem isPl_t {d : Nat} {u : Int32} (H : (0 : Int32) ≤ u ∧ u ≤ 15) : Run prog E pV1 (d + 2) mX7_isPlace [.int u] h (some (.int 1), h, 0, 0) := by
  refine ⟨Nat.le_of_ble_eq_true rfl, ⟨_, _, rfl⟩, ?_⟩
  show RA prog E pV1 (d + 2) mX7_isPlace 0 [some (.int u)] [] h (some (.int 1), h, 0, 0)
  refine RA.steps (i' := 3) (L' := [some (.int u)]) (st' := [.int 15, .int 0, .int u]) (h' := h) 3 rfl ?_
  refine RA.call0 (N := mX7_within) (as := [.int u, .int 0, .int 15]) (rest := []) rfl rfl rfl (within_t H) ?_
  exact RA.ret rfl rfl
theorem isPl_f {d : Nat} {u : Int32} (H : ¬ ((0 : Int32) ≤ u ∧ u ≤ 15)) : Run prog E pV1 (d + 2) mX7_isPlace [.int u] h (some (.int 0), h, 0, 0) := by
  refine ⟨Nat.le_of_ble_eq_true rfl, ⟨_, _, rfl⟩, ?_⟩
  show RA prog E pV1 (d + 2) mX7_isPlace 0 [some (.int u)] [] h (some (.int 0), h, 0, 0)
  refine RA.steps (i' := 3) (L' := [some (.int u)]) (st' := [.int 15, .int 0, .int u]) (h' := h) 3 rfl ?_
  refine RA.call0 (N := mX7_within) (as := [.int u, .int 0, .int 15]) (rest := []) rfl rfl rfl (within_f H) ?_
  exact RA.ret rfl rfl
theorem fits_cl {k sz : Nat} {F : Nat → Int32} {x1 x2 : Int32} (hh : HI HT h) (hk : k < 9) (sz1 : 1 ≤ sz) (sz8 : sz ≤ 8) {fs0 fs34 fsr : List Value} (ho0 : pobj h 0 = some (7, fs0)) (g1 : fs0[1]? = some (.ref 34)) (ho34 : pobj h 34 = some (6, fs34)) (hor : pobj h (39 + k) = some (4, fsr)) (hsz : fsr[2]? = some (.int (nI sz))) (jc : ∀ x : Nat, x < 16 → Run prog E pV1 119 mX6_falsehood [.ref 34, .ref (39 + k), .int (nI x)] h (some (.int (F x)), h, 0, 0)) : ∀ (m x p : Nat) (o7 : Option Value), x + m = 17 - sz → p < x → x ≤ 16 → RA prog E pV1 120 mX7_fits 24 [some (.ref 0), some (.int x1), some (.int x2), some (.ref (39 + k)), some (.int (nI p)), some (.int (F p)), some (.int (nI x)), o7] [] h (some (.int (if x2 = 0 then nI (FB F m x p) else F (FB F m x p))), h, 0, 0) := by
  intro m
  induction m with
  | zero =>
    intro x p o7 h1 h2 h3
    show RA prog E pV1 120 mX7_fits 24 [some (.ref 0), some (.int x1), some (.int x2), some (.ref (39 + k)), some (.int (nI p)), some (.int (F p)), some (.int (nI x)), o7] [] h (some (.int (if x2 = 0 then nI p else F p)), h, 0, 0)
    by_cases c : x2 = 0
    · rw [if_pos c]
      refine RA.steps (i' := 27) (L' := [some (.ref 0), some (.int x1), some (.int x2), some (.ref (39 + k)), some (.int (nI p)), some (.int (F p)), some (.int (nI x)), o7]) (st' := [.ref (39 + k), .int 16, .int (nI x)]) (h' := h) 3 rfl ?_
      refine RA.getf rfl hor rfl hsz ?_
      refine RA.steps (i' := 29) (L' := [some (.ref 0), some (.int x1), some (.int x2), some (.ref (39 + k)), some (.int (nI p)), some (.int (F p)), some (.int (nI x)), o7]) (st' := [.int (16 - (nI sz)), .int (nI x)]) (h' := h) 1 rfl ?_
      rw [(e16 sz8)]
      refine RA.if2T rfl (decide_eq_true (nI_lt (show 16 - sz < x by omega) (by omega))) ?_
      refine RA.steps (i' := 46) (L' := [some (.ref 0), some (.int x1), some (.int x2), some (.ref (39 + k)), some (.int (nI p)), some (.int (F p)), some (.int (nI x)), o7]) (st' := [.int x2]) (h' := h) 1 rfl ?_
      refine RA.if1F rfl (decide_eq_false (fun q => q c)) ?_
      refine RA.steps (i' := 50) (L' := [some (.ref 0), some (.int x1), some (.int x2), some (.ref (39 + k)), some (.int (nI p)), some (.int (F p)), some (.int (nI x)), o7]) (st' := [.int (nI p)]) (h' := h) 2 rfl ?_
      exact RA.ret rfl rfl
    · rw [if_neg c]
      refine RA.steps (i' := 27) (L' := [some (.ref 0), some (.int x1), some (.int x2), some (.ref (39 + k)), some (.int (nI p)), some (.int (F p)), some (.int (nI x)), o7]) (st' := [.ref (39 + k), .int 16, .int (nI x)]) (h' := h) 3 rfl ?_
      refine RA.getf rfl hor rfl hsz ?_
      refine RA.steps (i' := 29) (L' := [some (.ref 0), some (.int x1), some (.int x2), some (.ref (39 + k)), some (.int (nI p)), some (.int (F p)), some (.int (nI x)), o7]) (st' := [.int (16 - (nI sz)), .int (nI x)]) (h' := h) 1 rfl ?_
      rw [(e16 sz8)]
      refine RA.if2T rfl (decide_eq_true (nI_lt (show 16 - sz < x by omega) (by omega))) ?_
      refine RA.steps (i' := 46) (L' := [some (.ref 0), some (.int x1), some (.int x2), some (.ref (39 + k)), some (.int (nI p)), some (.int (F p)), some (.int (nI x)), o7]) (st' := [.int x2]) (h' := h) 1 rfl ?_
      refine RA.if1T rfl (decide_eq_true c) ?_
      refine RA.steps (i' := 50) (L' := [some (.ref 0), some (.int x1), some (.int x2), some (.ref (39 + k)), some (.int (nI p)), some (.int (F p)), some (.int (nI x)), o7]) (st' := [.int (F p)]) (h' := h) 1 rfl ?_
      exact RA.ret rfl rfl
  | succ m ih =>
    intro x p o7 h1 h2 h3
    rw [FB_s]
    refine RA.steps (i' := 27) (L' := [some (.ref 0), some (.int x1), some (.int x2), some (.ref (39 + k)), some (.int (nI p)), some (.int (F p)), some (.int (nI x)), o7]) (st' := [.ref (39 + k), .int 16, .int (nI x)]) (h' := h) 3 rfl ?_
    refine RA.getf rfl hor rfl hsz ?_
    refine RA.steps (i' := 29) (L' := [some (.ref 0), some (.int x1), some (.int x2), some (.ref (39 + k)), some (.int (nI p)), some (.int (F p)), some (.int (nI x)), o7]) (st' := [.int (16 - (nI sz)), .int (nI x)]) (h' := h) 1 rfl ?_
    rw [(e16 sz8)]
    refine RA.if2F rfl (decide_eq_false (Int32.not_lt.mpr (nI_le (show x ≤ 16 - sz by omega) (by omega)))) ?_
    refine RA.steps (i' := 31) (L' := [some (.ref 0), some (.int x1), some (.int x2), some (.ref (39 + k)), some (.int (nI p)), some (.int (F p)), some (.int (nI x)), o7]) (st' := [.ref 0]) (h' := h) 1 rfl ?_
    refine RA.getf rfl ho0 rfl g1 ?_
    refine RA.steps (i' := 34) (L' := [some (.ref 0), some (.int x1), some (.int x2), some (.ref (39 + k)), some (.int (nI p)), some (.int (F p)), some (.int (nI x)), o7]) (st' := [.int (nI x), .ref (39 + k), .ref 34]) (h' := h) 2 rfl ?_
    refine RA.call0 (N := mX6_falsehood) (as := [.ref 34, .ref (39 + k), .int (nI x)]) (rest := []) rfl rfl (pcallV rfl rfl ho34 rfl rfl (Nat.le_of_ble_eq_true rfl)) (jc x (by omega)) ?_
    refine RA.steps (i' := 38) (L' := [some (.ref 0), some (.int x1), some (.int x2), some (.ref (39 + k)), some (.int (nI p)), some (.int (F p)), some (.int (nI x)), some (.int (F x))]) (st' := [.int (F p), .int (F x)]) (h' := h) 3 rfl ?_
    by_cases c : F x < F p
    · rw [if_pos c]
      refine RA.if2F rfl (decide_eq_false (Int32.not_le.mpr c)) ?_
      refine RA.steps (i' := 43) (L' := [some (.ref 0), some (.int x1), some (.int x2), some (.ref (39 + k)), some (.int (nI x)), some (.int (F x)), some (.int (nI x)), some (.int (F x))]) (st' := []) (h' := h) 4 rfl ?_
      refine RA.iinc rfl rfl (nI_1 x) rfl ?_
      refine RA.steps (i' := 24) (L' := [some (.ref 0), some (.int x1), some (.int x2), some (.ref (39 + k)), some (.int (nI x)), some (.int (F x)), some (.int (nI (x + 1))), some (.int (F x))]) (st' := []) (h' := h) 1 rfl ?_
      exact ih (x + 1) x _ (by omega) (by omega) (by omega)
    · rw [if_neg c]
      refine RA.if2T rfl (decide_eq_true (Int32.not_lt.mp c)) ?_
      refine RA.iinc rfl rfl (nI_1 x) rfl ?_
      refine RA.steps (i' := 24) (L' := [some (.ref 0), some (.int x1), some (.int x2), some (.ref (39 + k)), some (.int (nI p)), some (.int (F p)), some (.int (nI (x + 1))), some (.int (F x))]) (st' := []) (h' := h) 1 rfl ?_
      exact ih (x + 1) p _ (by omega) (by omega) (by omega)
theorem fits_rl {k sz : Nat} {F : Nat → Int32} {x1 x2 : Int32} (hh : HI HT h) (hk : k < 9) (sz1 : 1 ≤ sz) (sz8 : sz ≤ 8) {o8 : Nat × List Value} (ho8 : pobj h 110 = some o8) (hc8 : o8.1 = 8) (ra : ri h 111 (21 + 6 * k + 2) = nI sz) (jr : ∀ x : Nat, x < 16 → Run prog E pV1 119 mX8_falseOf [.ref 110, .int (nI k), .int (nI x)] h (some (.int (F x)), h, 0, 0)) : ∀ (m x p : Nat), x + m = 17 - sz → p < x → x ≤ 16 → RA prog E pV1 120 mX8_fits 16 [some (.ref 110), some (.int (nI k)), some (.int x2), some (.int (nI p)), some (.int (nI x))] [] h (some (.int (if x2 = 0 then nI (FB F m x p) else F (FB F m x p))), h, 0, 0) := by
  intro m
  induction m with
  | zero =>
    intro x p h1 h2 h3
    show RA prog E pV1 120 mX8_fits 16 [some (.ref 110), some (.int (nI k)), some (.int x2), some (.int (nI p)), some (.int (nI x))] [] h (some (.int (if x2 = 0 then nI p else F p)), h, 0, 0)
    by_cases c : x2 = 0
    · rw [if_pos c]
      refine RA.steps (i' := 21) (L' := [some (.ref 110), some (.int (nI k)), some (.int x2), some (.int (nI p)), some (.int (nI x))]) (st' := [.int 2, .int (nI k), .ref 110, .int 16, .int (nI x)]) (h' := h) 5 rfl ?_
      refine RA.call0 (N := mX8_of) (as := [.ref 110, .int (nI k), .int 2]) (rest := [.int 16, .int (nI x)]) rfl rfl (pcallV rfl rfl ho8 rfl hc8 (Nat.le_of_ble_eq_true rfl)) (of_z (d := 118) hh hk ra) ?_
      refine RA.steps (i' := 23) (L' := [some (.ref 110), some (.int (nI k)), some (.int x2), some (.int (nI p)), some (.int (nI x))]) (st' := [.int (16 - (nI sz)), .int (nI x)]) (h' := h) 1 rfl ?_
      rw [(e16 sz8)]
      refine RA.if2T rfl (decide_eq_true (nI_lt (show 16 - sz < x by omega) (by omega))) ?_
      refine RA.steps (i' := 40) (L' := [some (.ref 110), some (.int (nI k)), some (.int x2), some (.int (nI p)), some (.int (nI x))]) (st' := [.int x2]) (h' := h) 1 rfl ?_
      refine RA.if1F rfl (decide_eq_false (fun q => q c)) ?_
      refine RA.steps (i' := 47) (L' := [some (.ref 110), some (.int (nI k)), some (.int x2), some (.int (nI p)), some (.int (nI x))]) (st' := [.int (nI p)]) (h' := h) 2 rfl ?_
      exact RA.ret rfl rfl
    · rw [if_neg c]
      refine RA.steps (i' := 21) (L' := [some (.ref 110), some (.int (nI k)), some (.int x2), some (.int (nI p)), some (.int (nI x))]) (st' := [.int 2, .int (nI k), .ref 110, .int 16, .int (nI x)]) (h' := h) 5 rfl ?_
      refine RA.call0 (N := mX8_of) (as := [.ref 110, .int (nI k), .int 2]) (rest := [.int 16, .int (nI x)]) rfl rfl (pcallV rfl rfl ho8 rfl hc8 (Nat.le_of_ble_eq_true rfl)) (of_z (d := 118) hh hk ra) ?_
      refine RA.steps (i' := 23) (L' := [some (.ref 110), some (.int (nI k)), some (.int x2), some (.int (nI p)), some (.int (nI x))]) (st' := [.int (16 - (nI sz)), .int (nI x)]) (h' := h) 1 rfl ?_
      rw [(e16 sz8)]
      refine RA.if2T rfl (decide_eq_true (nI_lt (show 16 - sz < x by omega) (by omega))) ?_
      refine RA.steps (i' := 40) (L' := [some (.ref 110), some (.int (nI k)), some (.int x2), some (.int (nI p)), some (.int (nI x))]) (st' := [.int x2]) (h' := h) 1 rfl ?_
      refine RA.if1T rfl (decide_eq_true c) ?_
      refine RA.steps (i' := 46) (L' := [some (.ref 110), some (.int (nI k)), some (.int x2), some (.int (nI p)), some (.int (nI x))]) (st' := [.int (nI p), .int (nI k), .ref 110]) (h' := h) 3 rfl ?_
      refine RA.call0 (N := mX8_falseOf) (as := [.ref 110, .int (nI k), .int (nI p)]) (rest := []) rfl rfl (pcallV rfl rfl ho8 rfl hc8 (Nat.le_of_ble_eq_true rfl)) (jr p (by omega)) ?_
      exact RA.ret rfl rfl
  | succ m ih =>
    intro x p h1 h2 h3
    rw [FB_s]
    refine RA.steps (i' := 21) (L' := [some (.ref 110), some (.int (nI k)), some (.int x2), some (.int (nI p)), some (.int (nI x))]) (st' := [.int 2, .int (nI k), .ref 110, .int 16, .int (nI x)]) (h' := h) 5 rfl ?_
    refine RA.call0 (N := mX8_of) (as := [.ref 110, .int (nI k), .int 2]) (rest := [.int 16, .int (nI x)]) rfl rfl (pcallV rfl rfl ho8 rfl hc8 (Nat.le_of_ble_eq_true rfl)) (of_z (d := 118) hh hk ra) ?_
    refine RA.steps (i' := 23) (L' := [some (.ref 110), some (.int (nI k)), some (.int x2), some (.int (nI p)), some (.int (nI x))]) (st' := [.int (16 - (nI sz)), .int (nI x)]) (h' := h) 1 rfl ?_
    rw [(e16 sz8)]
    refine RA.if2F rfl (decide_eq_false (Int32.not_lt.mpr (nI_le (show x ≤ 16 - sz by omega) (by omega)))) ?_
    refine RA.steps (i' := 27) (L' := [some (.ref 110), some (.int (nI k)), some (.int x2), some (.int (nI p)), some (.int (nI x))]) (st' := [.int (nI x), .int (nI k), .ref 110]) (h' := h) 3 rfl ?_
    refine RA.call0 (N := mX8_falseOf) (as := [.ref 110, .int (nI k), .int (nI x)]) (rest := []) rfl rfl (pcallV rfl rfl ho8 rfl hc8 (Nat.le_of_ble_eq_true rfl)) (jr x (by omega)) ?_
    refine RA.steps (i' := 31) (L' := [some (.ref 110), some (.int (nI k)), some (.int x2), some (.int (nI p)), some (.int (nI x))]) (st' := [.int (nI p), .int (nI k), .ref 110, .int (F x)]) (h' := h) 3 rfl ?_
    refine RA.call0 (N := mX8_falseOf) (as := [.ref 110, .int (nI k), .int (nI p)]) (rest := [.int (F x)]) rfl rfl (pcallV rfl rfl ho8 rfl hc8 (Nat.le_of_ble_eq_true rfl)) (jr p (by omega)) ?_
    by_cases c : F x < F p
    · rw [if_pos c]
      refine RA.if2F rfl (decide_eq_false (Int32.not_le.mpr c)) ?_
      refine RA.steps (i' := 37) (L' := [some (.ref 110), some (.int (nI k)), some (.int x2), some (.int (nI x)), some (.int (nI x))]) (st' := []) (h' := h) 3 rfl ?_
      refine RA.iinc rfl rfl (nI_1 x) rfl ?_
      refine RA.steps (i' := 16) (L' := [some (.ref 110), some (.int (nI k)), some (.int x2), some (.int (nI x)), some (.int (nI (x + 1)))]) (st' := []) (h' := h) 1 rfl ?_
      exact ih (x + 1) x (by omega) (by omega) (by omega)
    · rw [if_neg c]
      refine RA.if2T rfl (decide_eq_true (Int32.not_lt.mp c)) ?_
      refine RA.steps (i' := 37) (L' := [some (.ref 110), some (.int (nI k)), some (.int x2), some (.int (nI p)), some (.int (nI x))]) (st' := []) (h' := h) 2 rfl ?_
      refine RA.iinc rfl rfl (nI_1 x) rfl ?_
      refine RA.steps (i' := 16) (L' := [some (.ref 110), some (.int (nI k)), some (.int x2), some (.int (nI p)), some (.int (nI (x + 1)))]) (st' := []) (h' := h) 1 rfl ?_
      exact ih (x + 1) p (by omega) (by omega) (by omega)
theorem falseAt_both (x1 x2 : Int32) (hh : HI HT h) (hj : JT h) (hq : ri h 34 5 = ri h 111 0) (hr : ∀ k : Nat, k < 9 → (k : Int) < (ri h 34 5).toInt → RubK h k) (hmk : RMk h) : ∃ v : Int32, Run prog E pV1 120 mX7_falseAt [.ref 0, .int x1, .int x2] h (some (.int v), h, 0, 0) ∧ Run prog E pV1 120 mX8_falseAt [.ref 110, .int x1, .int x2] h (some (.int v), h, 0, 0) := by
  obtain ⟨fs0, ho0, hF0⟩ := hi_obj hh (a := 0) rfl
  obtain ⟨fs34, ho34, -, w1, -⟩ := w_obj hh
  obtain ⟨o8, ho8, hc8⟩ := mobj hh
  rcases rub_dec x1 hh with ⟨k, hk, rfl, hm⟩ | na
  rotate_left
  · skip
    refine ⟨-1000000001, ⟨Nat.le_of_ble_eq_true rfl, ⟨_, _, rfl⟩, ?_⟩, ⟨Nat.le_of_ble_eq_true rfl, ⟨_, _, rfl⟩, ?_⟩⟩
    · show RA prog E pV1 120 mX7_falseAt 0 [some (.ref 0), some (.int x1), some (.int x2), none] [] h (some (.int (-1000000001)), h, 0, 0)
      refine RA.steps (i' := 1) (L' := [some (.ref 0), some (.int x1), some (.int x2), none]) (st' := [.ref 0]) (h' := h) 1 rfl ?_
      refine RA.getf rfl ho0 rfl (hF0.ref (k := 1) rfl) ?_
      refine RA.steps (i' := 3) (L' := [some (.ref 0), some (.int x1), some (.int x2), none]) (st' := [.int x1, .ref 34]) (h' := h) 1 rfl ?_
      refine RA.call0 (N := mX6_one) (as := [.ref 34, .int x1]) (rest := []) rfl rfl (pcallV rfl rfl ho34 rfl rfl (Nat.le_of_ble_eq_true rfl)) (one_n (d := 118) hh na) ?_
      refine RA.steps (i' := 17) (L' := [some (.ref 0), some (.int x1), some (.int x2), some (.null)]) (st' := [.int (-1000000001)]) (h' := h) 4 rfl ?_
      exact RA.ret rfl rfl
    · show RA prog E pV1 120 mX8_falseAt 0 [some (.ref 110), some (.int x1), some (.int x2)] [] h (some (.int (-1000000001)), h, 0, 0)
      refine RA.steps (i' := 2) (L' := [some (.ref 110), some (.int x1), some (.int x2)]) (st' := [.int x1, .ref 110]) (h' := h) 2 rfl ?_
      refine RA.call0 (N := mX8_isRubbing) (as := [.ref 110, .int x1]) (rest := []) rfl rfl (pcallV rfl rfl ho8 rfl hc8 (Nat.le_of_ble_eq_true rfl)) (isr_n (d := 117) hh hq na) ?_
      refine RA.if1T rfl rfl ?_
      refine RA.steps (i' := 16) (L' := [some (.ref 110), some (.int x1), some (.int x2)]) (st' := [.int (-1000000001)]) (h' := h) 1 rfl ?_
      exact RA.ret rfl rfl
  have hm2 : (k : Int) < (ri h 111 0).toInt := by rw [← hq]; exact hm
  by_cases hp : (0 : Int32) ≤ x2 ∧ x2 ≤ 15
  rotate_left
  · skip
    refine ⟨-1000000001, ⟨Nat.le_of_ble_eq_true rfl, ⟨_, _, rfl⟩, ?_⟩, ⟨Nat.le_of_ble_eq_true rfl, ⟨_, _, rfl⟩, ?_⟩⟩
    · show RA prog E pV1 120 mX7_falseAt 0 [some (.ref 0), some (.int (nI k)), some (.int x2), none] [] h (some (.int (-1000000001)), h, 0, 0)
      refine RA.steps (i' := 1) (L' := [some (.ref 0), some (.int (nI k)), some (.int x2), none]) (st' := [.ref 0]) (h' := h) 1 rfl ?_
      refine RA.getf rfl ho0 rfl (hF0.ref (k := 1) rfl) ?_
      refine RA.steps (i' := 3) (L' := [some (.ref 0), some (.int (nI k)), some (.int x2), none]) (st' := [.int (nI k), .ref 34]) (h' := h) 1 rfl ?_
      refine RA.call0 (N := mX6_one) (as := [.ref 34, .int (nI k)]) (rest := []) rfl rfl (pcallV rfl rfl ho34 rfl rfl (Nat.le_of_ble_eq_true rfl)) (one_x (d := 118) hh hk hm) ?_
      refine RA.steps (i' := 8) (L' := [some (.ref 0), some (.int (nI k)), some (.int x2), some (.ref (39 + k))]) (st' := [.int x2]) (h' := h) 4 rfl ?_
      refine RA.call0 (N := mX7_isPlace) (as := [.int x2]) (rest := []) rfl rfl rfl (isPl_f (d := 117) hp) ?_
      refine RA.if1T rfl rfl ?_
      refine RA.steps (i' := 17) (L' := [some (.ref 0), some (.int (nI k)), some (.int x2), some (.ref (39 + k))]) (st' := [.int (-1000000001)]) (h' := h) 1 rfl ?_
      exact RA.ret rfl rfl
    · show RA prog E pV1 120 mX8_falseAt 0 [some (.ref 110), some (.int (nI k)), some (.int x2)] [] h (some (.int (-1000000001)), h, 0, 0)
      refine RA.steps (i' := 2) (L' := [some (.ref 110), some (.int (nI k)), some (.int x2)]) (st' := [.int (nI k), .ref 110]) (h' := h) 2 rfl ?_
      refine RA.call0 (N := mX8_isRubbing) (as := [.ref 110, .int (nI k)]) (rest := []) rfl rfl (pcallV rfl rfl ho8 rfl hc8 (Nat.le_of_ble_eq_true rfl)) (isr_x (d := 117) hh hk hm2) ?_
      refine RA.if1F rfl rfl ?_
      refine RA.steps (i' := 8) (L' := [some (.ref 110), some (.int (nI k)), some (.int x2)]) (st' := [.long (Int32.toInt64 15), .long (Int32.toInt64 0), .long x2.toInt64]) (h' := h) 4 rfl ?_
      refine RA.call0 (N := mX8_isIn) (as := [.long x2.toInt64, .long (Int32.toInt64 0), .long (Int32.toInt64 15)]) (rest := []) rfl rfl rfl (isIn_f hp) ?_
      refine RA.if1T rfl rfl ?_
      refine RA.steps (i' := 16) (L' := [some (.ref 110), some (.int (nI k)), some (.int x2)]) (st' := [.int (-1000000001)]) (h' := h) 1 rfl ?_
      exact RA.ret rfl rfl
  obtain ⟨sz, sz1, sz8, za⟩ := rub_sz hh hk
  have ra : ri h 111 (21 + 6 * k + 2) = nI sz := by rw [← hr k hk hm 2 (by decide)]; exact za
  obtain ⟨fsr, hor, hfr⟩ := rub_obj hh hk
  have hsz := hfr 2 (by decide)
  rw [za] at hsz
  obtain ⟨F, jc, jr⟩ := false_fn (E := E) hh hj hk sz8 za ra (hr k hk hm) hmk
  have b0 := Int32.le_iff_toInt_le.mp hp.1
  have b1 := Int32.le_iff_toInt_le.mp hp.2
  rw [show (0 : Int32).toInt = 0 by decide] at b0
  rw [show (15 : Int32).toInt = 15 by decide] at b1
  obtain ⟨x, rfl, hx0⟩ := nIof (x := x2) b0 (by omega)
  have hx : x < 16 := by omega
  refine ⟨F x, ⟨Nat.le_of_ble_eq_true rfl, ⟨_, _, rfl⟩, ?_⟩, ⟨Nat.le_of_ble_eq_true rfl, ⟨_, _, rfl⟩, ?_⟩⟩
  · show RA prog E pV1 120 mX7_falseAt 0 [some (.ref 0), some (.int (nI k)), some (.int (nI x)), none] [] h (some (.int (F x)), h, 0, 0)
    refine RA.steps (i' := 1) (L' := [some (.ref 0), some (.int (nI k)), some (.int (nI x)), none]) (st' := [.ref 0]) (h' := h) 1 rfl ?_
    refine RA.getf rfl ho0 rfl (hF0.ref (k := 1) rfl) ?_
    refine RA.steps (i' := 3) (L' := [some (.ref 0), some (.int (nI k)), some (.int (nI x)), none]) (st' := [.int (nI k), .ref 34]) (h' := h) 1 rfl ?_
    refine RA.call0 (N := mX6_one) (as := [.ref 34, .int (nI k)]) (rest := []) rfl rfl (pcallV rfl rfl ho34 rfl rfl (Nat.le_of_ble_eq_true rfl)) (one_x (d := 118) hh hk hm) ?_
    refine RA.steps (i' := 8) (L' := [some (.ref 0), some (.int (nI k)), some (.int (nI x)), some (.ref (39 + k))]) (st' := [.int (nI x)]) (h' := h) 4 rfl ?_
    refine RA.call0 (N := mX7_isPlace) (as := [.int (nI x)]) (rest := []) rfl rfl rfl (isPl_t (d := 117) hp) ?_
    refine RA.if1F rfl rfl ?_
    refine RA.steps (i' := 11) (L' := [some (.ref 0), some (.int (nI k)), some (.int (nI x)), some (.ref (39 + k))]) (st' := [.ref 0]) (h' := h) 1 rfl ?_
    refine RA.getf rfl ho0 rfl (hF0.ref (k := 1) rfl) ?_
    refine RA.steps (i' := 14) (L' := [some (.ref 0), some (.int (nI k)), some (.int (nI x)), some (.ref (39 + k))]) (st' := [.int (nI x), .ref (39 + k), .ref 34]) (h' := h) 2 rfl ?_
    refine RA.call0 (N := mX6_falsehood) (as := [.ref 34, .ref (39 + k), .int (nI x)]) (rest := []) rfl rfl (pcallV rfl rfl ho34 rfl rfl (Nat.le_of_ble_eq_true rfl)) (jc x hx) ?_
    refine RA.steps (i' := 17) (L' := [some (.ref 0), some (.int (nI k)), some (.int (nI x)), some (.ref (39 + k))]) (st' := [.int (F x)]) (h' := h) 1 rfl ?_
    exact RA.ret rfl rfl
  · show RA prog E pV1 120 mX8_falseAt 0 [some (.ref 110), some (.int (nI k)), some (.int (nI x))] [] h (some (.int (F x)), h, 0, 0)
    refine RA.steps (i' := 2) (L' := [some (.ref 110), some (.int (nI k)), some (.int (nI x))]) (st' := [.int (nI k), .ref 110]) (h' := h) 2 rfl ?_
    refine RA.call0 (N := mX8_isRubbing) (as := [.ref 110, .int (nI k)]) (rest := []) rfl rfl (pcallV rfl rfl ho8 rfl hc8 (Nat.le_of_ble_eq_true rfl)) (isr_x (d := 117) hh hk hm2) ?_
    refine RA.if1F rfl rfl ?_
    refine RA.steps (i' := 8) (L' := [some (.ref 110), some (.int (nI k)), some (.int (nI x))]) (st' := [.long (Int32.toInt64 15), .long (Int32.toInt64 0), .long (nI x).toInt64]) (h' := h) 4 rfl ?_
    refine RA.call0 (N := mX8_isIn) (as := [.long (nI x).toInt64, .long (Int32.toInt64 0), .long (Int32.toInt64 15)]) (rest := []) rfl rfl rfl (isIn_t hp) ?_
    refine RA.if1F rfl rfl ?_
    refine RA.steps (i' := 13) (L' := [some (.ref 110), some (.int (nI k)), some (.int (nI x))]) (st' := [.int (nI x), .int (nI k), .ref 110]) (h' := h) 3 rfl ?_
    refine RA.call0 (N := mX8_falseOf) (as := [.ref 110, .int (nI k), .int (nI x)]) (rest := []) rfl rfl (pcallV rfl rfl ho8 rfl hc8 (Nat.le_of_ble_eq_true rfl)) (jr x hx) ?_
    refine RA.steps (i' := 16) (L' := [some (.ref 110), some (.int (nI k)), some (.int (nI x))]) (st' := [.int (F x)]) (h' := h) 1 rfl ?_
    exact RA.ret rfl rfl
theorem fits_both (x1 x2 : Int32) (hh : HI HT h) (hj : JT h) (hq : ri h 34 5 = ri h 111 0) (hr : ∀ k : Nat, k < 9 → (k : Int) < (ri h 34 5).toInt → RubK h k) (hmk : RMk h) : ∃ v : Int32, Run prog E pV1 120 mX7_fits [.ref 0, .int x1, .int x2] h (some (.int v), h, 0, 0) ∧ Run prog E pV1 120 mX8_fits [.ref 110, .int x1, .int x2] h (some (.int v), h, 0, 0) := by
  obtain ⟨fs0, ho0, hF0⟩ := hi_obj hh (a := 0) rfl
  obtain ⟨fs34, ho34, -, w1, -⟩ := w_obj hh
  obtain ⟨o8, ho8, hc8⟩ := mobj hh
  rcases rub_dec x1 hh with ⟨k, hk, rfl, hm⟩ | na
  rotate_left
  · skip
    refine ⟨-1000000001, ⟨Nat.le_of_ble_eq_true rfl, ⟨_, _, rfl⟩, ?_⟩, ⟨Nat.le_of_ble_eq_true rfl, ⟨_, _, rfl⟩, ?_⟩⟩
    · show RA prog E pV1 120 mX7_fits 0 [some (.ref 0), some (.int x1), some (.int x2), none, none, none, none, none] [] h (some (.int (-1000000001)), h, 0, 0)
      refine RA.steps (i' := 1) (L' := [some (.ref 0), some (.int x1), some (.int x2), none, none, none, none, none]) (st' := [.ref 0]) (h' := h) 1 rfl ?_
      refine RA.getf rfl ho0 rfl (hF0.ref (k := 1) rfl) ?_
      refine RA.steps (i' := 3) (L' := [some (.ref 0), some (.int x1), some (.int x2), none, none, none, none, none]) (st' := [.int x1, .ref 34]) (h' := h) 1 rfl ?_
      refine RA.call0 (N := mX6_one) (as := [.ref 34, .int x1]) (rest := []) rfl rfl (pcallV rfl rfl ho34 rfl rfl (Nat.le_of_ble_eq_true rfl)) (one_n (d := 118) hh na) ?_
      refine RA.steps (i' := 13) (L' := [some (.ref 0), some (.int x1), some (.int x2), some (.null), none, none, none, none]) (st' := [.int (-1000000001)]) (h' := h) 4 rfl ?_
      exact RA.ret rfl rfl
    · show RA prog E pV1 120 mX8_fits 0 [some (.ref 110), some (.int x1), some (.int x2), none, none] [] h (some (.int (-1000000001)), h, 0, 0)
      refine RA.steps (i' := 2) (L' := [some (.ref 110), some (.int x1), some (.int x2), none, none]) (st' := [.int x1, .ref 110]) (h' := h) 2 rfl ?_
      refine RA.call0 (N := mX8_isRubbing) (as := [.ref 110, .int x1]) (rest := []) rfl rfl (pcallV rfl rfl ho8 rfl hc8 (Nat.le_of_ble_eq_true rfl)) (isr_n (d := 117) hh hq na) ?_
      refine RA.if1T rfl rfl ?_
      refine RA.steps (i' := 11) (L' := [some (.ref 110), some (.int x1), some (.int x2), none, none]) (st' := [.int (-1000000001)]) (h' := h) 1 rfl ?_
      exact RA.ret rfl rfl
  have hm2 : (k : Int) < (ri h 111 0).toInt := by rw [← hq]; exact hm
  by_cases hp : (0 : Int32) ≤ x2 ∧ x2 ≤ 1
  rotate_left
  · skip
    refine ⟨-1000000001, ⟨Nat.le_of_ble_eq_true rfl, ⟨_, _, rfl⟩, ?_⟩, ⟨Nat.le_of_ble_eq_true rfl, ⟨_, _, rfl⟩, ?_⟩⟩
    · show RA prog E pV1 120 mX7_fits 0 [some (.ref 0), some (.int (nI k)), some (.int x2), none, none, none, none, none] [] h (some (.int (-1000000001)), h, 0, 0)
      refine RA.steps (i' := 1) (L' := [some (.ref 0), some (.int (nI k)), some (.int x2), none, none, none, none, none]) (st' := [.ref 0]) (h' := h) 1 rfl ?_
      refine RA.getf rfl ho0 rfl (hF0.ref (k := 1) rfl) ?_
      refine RA.steps (i' := 3) (L' := [some (.ref 0), some (.int (nI k)), some (.int x2), none, none, none, none, none]) (st' := [.int (nI k), .ref 34]) (h' := h) 1 rfl ?_
      refine RA.call0 (N := mX6_one) (as := [.ref 34, .int (nI k)]) (rest := []) rfl rfl (pcallV rfl rfl ho34 rfl rfl (Nat.le_of_ble_eq_true rfl)) (one_x (d := 118) hh hk hm) ?_
      refine RA.steps (i' := 10) (L' := [some (.ref 0), some (.int (nI k)), some (.int x2), some (.ref (39 + k)), none, none, none, none]) (st' := [.int 1, .int 0, .int x2]) (h' := h) 6 rfl ?_
      refine RA.call0 (N := mX7_within) (as := [.int x2, .int 0, .int 1]) (rest := []) rfl rfl rfl (within_f hp) ?_
      refine RA.if1F rfl rfl ?_
      refine RA.steps (i' := 13) (L' := [some (.ref 0), some (.int (nI k)), some (.int x2), some (.ref (39 + k)), none, none, none, none]) (st' := [.int (-1000000001)]) (h' := h) 1 rfl ?_
      exact RA.ret rfl rfl
    · show RA prog E pV1 120 mX8_fits 0 [some (.ref 110), some (.int (nI k)), some (.int x2), none, none] [] h (some (.int (-1000000001)), h, 0, 0)
      refine RA.steps (i' := 2) (L' := [some (.ref 110), some (.int (nI k)), some (.int x2), none, none]) (st' := [.int (nI k), .ref 110]) (h' := h) 2 rfl ?_
      refine RA.call0 (N := mX8_isRubbing) (as := [.ref 110, .int (nI k)]) (rest := []) rfl rfl (pcallV rfl rfl ho8 rfl hc8 (Nat.le_of_ble_eq_true rfl)) (isr_x (d := 117) hh hk hm2) ?_
      refine RA.if1F rfl rfl ?_
      refine RA.steps (i' := 8) (L' := [some (.ref 110), some (.int (nI k)), some (.int x2), none, none]) (st' := [.long (Int32.toInt64 1), .long (Int32.toInt64 0), .long x2.toInt64]) (h' := h) 4 rfl ?_
      refine RA.call0 (N := mX8_isIn) (as := [.long x2.toInt64, .long (Int32.toInt64 0), .long (Int32.toInt64 1)]) (rest := []) rfl rfl rfl (isIn_f hp) ?_
      refine RA.if1F rfl rfl ?_
      refine RA.steps (i' := 11) (L' := [some (.ref 110), some (.int (nI k)), some (.int x2), none, none]) (st' := [.int (-1000000001)]) (h' := h) 1 rfl ?_
      exact RA.ret rfl rfl
  obtain ⟨sz, sz1, sz8, za⟩ := rub_sz hh hk
  have ra : ri h 111 (21 + 6 * k + 2) = nI sz := by rw [← hr k hk hm 2 (by decide)]; exact za
  obtain ⟨fsr, hor, hfr⟩ := rub_obj hh hk
  have hsz := hfr 2 (by decide)
  rw [za] at hsz
  obtain ⟨F, jc, jr⟩ := false_fn (E := E) hh hj hk sz8 za ra (hr k hk hm) hmk
  refine ⟨if x2 = 0 then nI (FB F (16 - sz) 1 0) else F (FB F (16 - sz) 1 0), ⟨Nat.le_of_ble_eq_true rfl, ⟨_, _, rfl⟩, ?_⟩, ⟨Nat.le_of_ble_eq_true rfl, ⟨_, _, rfl⟩, ?_⟩⟩
  · show RA prog E pV1 120 mX7_fits 0 [some (.ref 0), some (.int (nI k)), some (.int x2), none, none, none, none, none] [] h (some (.int (if x2 = 0 then nI (FB F (16 - sz) 1 0) else F (FB F (16 - sz) 1 0))), h, 0, 0)
    refine RA.steps (i' := 1) (L' := [some (.ref 0), some (.int (nI k)), some (.int x2), none, none, none, none, none]) (st' := [.ref 0]) (h' := h) 1 rfl ?_
    refine RA.getf rfl ho0 rfl (hF0.ref (k := 1) rfl) ?_
    refine RA.steps (i' := 3) (L' := [some (.ref 0), some (.int (nI k)), some (.int x2), none, none, none, none, none]) (st' := [.int (nI k), .ref 34]) (h' := h) 1 rfl ?_
    refine RA.call0 (N := mX6_one) (as := [.ref 34, .int (nI k)]) (rest := []) rfl rfl (pcallV rfl rfl ho34 rfl rfl (Nat.le_of_ble_eq_true rfl)) (one_x (d := 118) hh hk hm) ?_
    refine RA.steps (i' := 10) (L' := [some (.ref 0), some (.int (nI k)), some (.int x2), some (.ref (39 + k)), none, none, none, none]) (st' := [.int 1, .int 0, .int x2]) (h' := h) 6 rfl ?_
    refine RA.call0 (N := mX7_within) (as := [.int x2, .int 0, .int 1]) (rest := []) rfl rfl rfl (within_t hp) ?_
    refine RA.if1T rfl rfl ?_
    refine RA.steps (i' := 17) (L' := [some (.ref 0), some (.int (nI k)), some (.int x2), some (.ref (39 + k)), some (.int 0), none, none, none]) (st' := [.ref 0]) (h' := h) 3 rfl ?_
    refine RA.getf rfl ho0 rfl (hF0.ref (k := 1) rfl) ?_
    refine RA.steps (i' := 20) (L' := [some (.ref 0), some (.int (nI k)), some (.int x2), some (.ref (39 + k)), some (.int 0), none, none, none]) (st' := [.int 0, .ref (39 + k), .ref 34]) (h' := h) 2 rfl ?_
    refine RA.call0 (N := mX6_falsehood) (as := [.ref 34, .ref (39 + k), .int 0]) (rest := []) rfl rfl (pcallV rfl rfl ho34 rfl rfl (Nat.le_of_ble_eq_true rfl)) (jc 0 (by decide)) ?_
    refine RA.steps (i' := 24) (L' := [some (.ref 0), some (.int (nI k)), some (.int x2), some (.ref (39 + k)), some (.int 0), some (.int (F 0)), some (.int 1), none]) (st' := []) (h' := h) 3 rfl ?_
    have k2 := fits_cl (x1 := nI k) (x2 := x2) hh hk sz1 sz8 ho0 (hF0.ref (k := 1) rfl) ho34 hor hsz jc (16 - sz) 1 0 none (by omega) (by decide) (by decide)
    rw [nI_0, nI1] at k2
    exact k2
  · show RA prog E pV1 120 mX8_fits 0 [some (.ref 110), some (.int (nI k)), some (.int x2), none, none] [] h (some (.int (if x2 = 0 then nI (FB F (16 - sz) 1 0) else F (FB F (16 - sz) 1 0))), h, 0, 0)
    refine RA.steps (i' := 2) (L' := [some (.ref 110), some (.int (nI k)), some (.int x2), none, none]) (st' := [.int (nI k), .ref 110]) (h' := h) 2 rfl ?_
    refine RA.call0 (N := mX8_isRubbing) (as := [.ref 110, .int (nI k)]) (rest := []) rfl rfl (pcallV rfl rfl ho8 rfl hc8 (Nat.le_of_ble_eq_true rfl)) (isr_x (d := 117) hh hk hm2) ?_
    refine RA.if1F rfl rfl ?_
    refine RA.steps (i' := 8) (L' := [some (.ref 110), some (.int (nI k)), some (.int x2), none, none]) (st' := [.long (Int32.toInt64 1), .long (Int32.toInt64 0), .long x2.toInt64]) (h' := h) 4 rfl ?_
    refine RA.call0 (N := mX8_isIn) (as := [.long x2.toInt64, .long (Int32.toInt64 0), .long (Int32.toInt64 1)]) (rest := []) rfl rfl rfl (isIn_t hp) ?_
    refine RA.if1T rfl rfl ?_
    refine RA.steps (i' := 16) (L' := [some (.ref 110), some (.int (nI k)), some (.int x2), some (.int 0), some (.int 1)]) (st' := []) (h' := h) 4 rfl ?_
    have k2 := fits_rl (x1 := nI k) (x2 := x2) hh hk sz1 sz8 ho8 hc8 ra jr (16 - sz) 1 0 (by omega) (by decide) (by decide)
    rw [nI_0, nI1] at k2
    exact k2
end FLS
