/-! ===== whose ===== -/
section DUP
variable {P : List pM} {E : pX} {V : pV}
theorem pexec_dup (f : Nat) : ∀ (d : Nat) (M : pM) (i : Nat) (L : pL) (st : List Value) (h : List pC) (res : pR), pexec P E V f d M i L st h = some res → pexec P E V f (d + 1) M i L st h = some res := by
  induction f with
  | zero =>
    intro d M i L st h res hx
    cases hx
  | succ f ih =>
    intro d M i L st h res hx
    cases d with
    | zero => cases hx
    | succ d =>
      rw [pexec] at hx ⊢
      cases he : (m_code M)[i]? with
      | none => rw [he] at hx; cases hx
      | some t =>
        rw [he] at hx
        dsimp only at hx ⊢
        cases hpr : pret M t st with
        | some rr => rw [hpr] at hx; exact hx
        | none =>
          rw [hpr] at hx
          dsimp only at hx ⊢
          cases hpc : pcall P t st h with
          | some w =>
            obtain ⟨N, as, rest⟩ := w
            rw [hpc] at hx
            dsimp only at hx ⊢
            cases hcode : m_code N with
            | nil =>
              rw [hcode] at hx
              dsimp only at hx ⊢
              split at hx
              · rename_i h6
                rw [if_pos (show 6 ≤ d + 1 by omega)]
                cases hv : V N as h with
                | none => rw [hv] at hx; cases hx
                | some r1 =>
                  rw [hv] at hx
                  exact ih _ _ _ _ _ _ _ hx
              · cases hx
            | cons u us =>
              rw [hcode] at hx
              dsimp only at hx ⊢
              split at hx
              · rename_i h6
                rw [if_pos h6]
                cases h1 : pexec P E V f d N 0 (pent (m_l N) as) [] h with
                | none => rw [h1] at hx; cases hx
                | some w =>
                  rw [ih _ _ _ _ _ _ _ h1]
                  rw [h1] at hx
                  obtain ⟨r1, g1, k1, n1⟩ := w
                  dsimp only at hx ⊢
                  cases h2 : pexec P E V f (d + 1) M (i + 1) L (r1.toList ++ rest) g1 with
                  | none => rw [h2] at hx; cases hx
                  | some w =>
                    rw [ih _ _ _ _ _ _ _ h2]
                    rw [h2] at hx
                    exact hx
              · cases hx
          | none =>
            rw [hpc] at hx
            dsimp only at hx ⊢
            cases hps : pstep E t i L st h with
            | none => rw [hps] at hx; cases hx
            | some w =>
              obtain ⟨i1, L1, st1, g1, dk, dn⟩ := w
              rw [hps] at hx
              dsimp only at hx ⊢
              cases h2 : pexec P E V f (d + 1) M i1 L1 st1 g1 with
              | none => rw [h2] at hx; cases hx
              | some w =>
                rw [ih _ _ _ _ _ _ _ h2]
                rw [h2] at hx
                exact hx
theorem Run.dup {d : Nat} {N : pM} {as : List Value} {h : List pC} {res : pR} (a : Run P E V d N as h res) : Run P E V (d + 1) N as h res := by
  obtain ⟨a1, a2, f, hf⟩ := a
  exact ⟨a1, a2, f, pexec_dup f _ _ _ _ _ _ _ hf⟩
end DUP
section WHO
variable {E : pX} {h : List pC}
def AB (x : Int32) : Int32 := if 0 ≤ x then x else 0 - x
def AP (S V : Nat → Int32) (sz : Nat) : Nat → Nat → Int32 → Int32
  | 0, _, s => s
  | m + 1, p, s => AP S V sz m (p + 1) (if V p = -1000000005 then s else s + AB ((if p < sz then S p else 0) - V p))
theorem AP_s (S V : Nat → Int32) (sz m p : Nat) (s : Int32) : AP S V sz (m + 1) p s = AP S V sz m (p + 1) (if V p = -1000000005 then s else s + AB ((if p < sz then S p else 0) - V p)) := rfl
def WBu (A : Nat → Int32) : Nat → Nat → Nat → Nat
  | 0, _, b => b
  | m + 1, k, b => WBu A m (k + 1) (if A k < A b then k else b)
theorem WBu_s (A : Nat → Int32) (m k b : Nat) : WBu A (m + 1) k b = WBu A m (k + 1) (if A k < A b then k else b) := rfl
theorem ab_eq {v w : Int32} (hv : -1000000005 ≤ v.toInt ∧ v.toInt ≤ 99999) (hw : 0 ≤ w.toInt ∧ w.toInt ≤ 3) : AB (w - v) = if v < w then w - v else v - w := by
  have t0 : (0 : Int32).toInt = 0 := by decide
  have e1 : (w - v).toInt = w.toInt - v.toInt := by
    rw [Int32.toInt_sub]
    exact bm32 (by unfold mI; omega) (by unfold MI; omega)
  have e2 : (v - w).toInt = v.toInt - w.toInt := by
    rw [Int32.toInt_sub]
    exact bm32 (by unfold mI; omega) (by unfold MI; omega)
  have e3 : (0 - (w - v)).toInt = 0 - (w.toInt - v.toInt) := by
    rw [Int32.toInt_sub, e1, t0]
    exact bm32 (by unfold mI; omega) (by unfold MI; omega)
  unfold AB
  by_cases c : v < w
  · have c' := Int32.lt_iff_toInt_lt.mp c
    rw [if_pos c, if_pos (Int32.le_iff_toInt_le.mpr (by rw [e1, t0]; omega))]
  · have c' : ¬ v.toInt < w.toInt := fun q => c (Int32.lt_iff_toInt_lt.mpr q)
    rw [if_neg c]
    by_cases c2 : (0 : Int32) ≤ w - v
    · rw [if_pos c2]
      have c3 := Int32.le_iff_toInt_le.mp c2
      rw [e1, t0] at c3
      exact Int32.toInt_inj.mp (by rw [e1, e2]; omega)
    · rw [if_neg c2]
      exact Int32.toInt_inj.mp (by rw [e3, e2]; omega)
theorem nI_posu {n : Nat} (h0 : 0 < n) (hn : n < 2 ^ 31) : (0 : Int32) < nI n := by
  have q := nI_lt h0 hn
  rw [nI_0] at q
  exact q
/-- what it says is small -/
theorem say_bd {k : Nat} {p v : Int32} (hh : HI HT h) (hj : JT h) (hk : k < 9) (q : Run prog E pV1 118 mX4_sayAt [.ref (39 + k), .int p] h (some (.int v), h, 0, 0)) : 0 ≤ v.toInt ∧ v.toInt ≤ 3 := by
  have hm : 39 + k ∈ ([39, 40, 41, 42, 43, 44, 45, 46, 47] : List Nat) := by
    match k, hk with
    | 0, _ => decide
    | 1, _ => decide
    | 2, _ => decide
    | 3, _ => decide
    | 4, _ => decide
    | 5, _ => decide
    | 6, _ => decide
    | 7, _ => decide
    | 8, _ => decide
  obtain ⟨r, h', q', hr, -⟩ := (kg_c_sayF (E := E)) mX4_sayAt rfl 118 (Nat.le_of_ble_eq_true rfl) [.ref (39 + k), .int p] h ⟨Or.inr ⟨39 + k, hm, rfl⟩, ⟨p, rfl, i32_lo p, i32_hi p⟩, trivial⟩ hh hj
  rcases q' with q' | q'
  · have e := Run.det q q'
    obtain ⟨w, ew, b⟩ := (show ∃ w : Int32, r = some (.int w) ∧ 0 ≤ w.toInt ∧ w.toInt ≤ 3 from hr)
    have e1 : some (Value.int v) = r := (Prod.mk.inj e).1
    rw [ew] at e1
    have e2 : v = w := Value.int.inj (Option.some.inj e1)
    rw [e2]
    exact b
  · exact absurd q'.1 (List.cons_ne_nil _ _)
theorem say_0 {d k p sz : Nat} (hh : HI HT h) (hk : k < 9) (za : ri h (39 + k) 2 = nI sz) (hp : sz ≤ p) (hp24 : p < 24) : Run prog E pV1 (d + 1) mX4_sayAt [.ref (39 + k), .int (nI p)] h (some (.int 0), h, 0, 0) := by
  obtain ⟨fsr, hor, hfr⟩ := rub_obj hh hk
  have hsz := hfr 2 (by decide)
  rw [za] at hsz
  refine ⟨Nat.le_of_ble_eq_true rfl, ⟨_, _, rfl⟩, ?_⟩
  show RA prog E pV1 (d + 1) mX4_sayAt 0 [some (.ref (39 + k)), some (.int (nI p))] [] h (some (.int 0), h, 0, 0)
  refine RA.steps (i' := 1) (L' := [some (.ref (39 + k)), some (.int (nI p))]) (st' := [.int (nI p)]) (h' := h) 1 rfl ?_
  refine RA.if1F rfl (decide_eq_false (Int32.not_lt.mpr (nI_cl (by omega)).1)) ?_
  refine RA.steps (i' := 4) (L' := [some (.ref (39 + k)), some (.int (nI p))]) (st' := [.ref (39 + k), .int (nI p)]) (h' := h) 2 rfl ?_
  refine RA.getf rfl hor rfl hsz ?_
  refine RA.if2F rfl (decide_eq_false (Int32.not_lt.mpr (nI_le hp (by omega)))) ?_
  refine RA.steps (i' := 7) (L' := [some (.ref (39 + k)), some (.int (nI p))]) (st' := [.int 0]) (h' := h) 1 rfl ?_
  exact RA.ret rfl rfl
theorem off_x {d : Nat} {v w : Int32} (hv : -1000000005 ≤ v.toInt ∧ v.toInt ≤ 99999) (hw : 0 ≤ w.toInt ∧ w.toInt ≤ 3) : Run prog E pV1 (d + 1) mX8_off [.int v, .int w] h (some (.int (AB (w - v))), h, 0, 0) := by
  refine ⟨Nat.le_of_ble_eq_true rfl, ⟨_, _, rfl⟩, ?_⟩
  show RA prog E pV1 (d + 1) mX8_off 0 [some (.int v), some (.int w)] [] h (some (.int (AB (w - v))), h, 0, 0)
  rw [ab_eq hv hw]
  by_cases c : v < w
  · rw [if_pos c]
    refine RA.steps (i' := 2) (L' := [some (.int v), some (.int w)]) (st' := [.int w, .int v]) (h' := h) 2 rfl ?_
    refine RA.if2F rfl (decide_eq_false (Int32.not_le.mpr c)) ?_
    refine RA.steps (i' := 10) (L' := [some (.int v), some (.int w)]) (st' := [.int (w - v)]) (h' := h) 4 rfl ?_
    exact RA.ret rfl rfl
  · rw [if_neg c]
    refine RA.steps (i' := 2) (L' := [some (.int v), some (.int w)]) (st' := [.int w, .int v]) (h' := h) 2 rfl ?_
    refine RA.if2T rfl (decide_eq_true (Int32.not_lt.mp c)) ?_
    refine RA.steps (i' := 10) (L' := [some (.int v), some (.int w)]) (st' := [.int (v - w)]) (h' := h) 3 rfl ?_
    exact RA.ret rfl rfl
theorem apart_l {k u l sz : Nat} {S V : Nat → Int32} (hh : HI HT h) (hk : k < 9) (hu : u < 4) (hl : l ≤ 24) (sz8 : sz ≤ 8) (za : ri h (39 + k) 2 = nI sz) (zl : ri h (82 + 2 * u) 2 = nI l) (pv : pint h (83 + 2 * u) = some (24, V)) (fS : ∀ p : Nat, p < sz → Run prog E pV1 118 mX4_sayAt [.ref (39 + k), .int (nI p)] h (some (.int (S p)), h, 0, 0)) : ∀ (m p : Nat) (s : Int32) (o4 : Option Value), p + m = l → RA prog E pV1 119 mX7_apart 4 [some (.ref (39 + k)), some (.ref (82 + 2 * u)), some (.int s), some (.int (nI p)), o4] [] h (some (.int (AP S V sz m p s)), h, 0, 0) := by
  have _ := sz8
  obtain ⟨fsr, hor, -⟩ := rub_obj hh hk
  obtain ⟨fsu, hou, ku, -, zu⟩ := row_obj hh u hu
  rw [zl] at zu
  have hat : ∀ p : Nat, p < l → Run prog E pV1 118 mX3_at [.ref (82 + 2 * u), .int (nI p)] h (some (.int (V p)), h, 0, 0) := fun p hp => by
    have q := at_x (E := E) (d := 116) hou ku zu ⟨show p < 24 by omega, hl⟩ pv
    rw [show atV V l p = V p from if_pos hp] at q
    exact q
  intro m
  induction m with
  | zero =>
    intro p s o4 h1
    show RA prog E pV1 119 mX7_apart 4 [some (.ref (39 + k)), some (.ref (82 + 2 * u)), some (.int s), some (.int (nI p)), o4] [] h (some (.int s), h, 0, 0)
    refine RA.steps (i' := 8) (L' := [some (.ref (39 + k)), some (.ref (82 + 2 * u)), some (.int s), some (.int (nI p)), o4]) (st' := [.ref (82 + 2 * u), .int (nI p)]) (h' := h) 4 rfl ?_
    refine RA.getf rfl hou rfl zu ?_
    refine RA.if2T rfl (decide_eq_true (nI_le (show l ≤ p by omega) (by omega))) ?_
    refine RA.steps (i' := 29) (L' := [some (.ref (39 + k)), some (.ref (82 + 2 * u)), some (.int s), some (.int (nI p)), o4]) (st' := [.int s]) (h' := h) 1 rfl ?_
    exact RA.ret rfl rfl
  | succ m ih =>
    intro p s o4 h1
    rw [AP_s]
    refine RA.steps (i' := 8) (L' := [some (.ref (39 + k)), some (.ref (82 + 2 * u)), some (.int s), some (.int (nI p)), o4]) (st' := [.ref (82 + 2 * u), .int (nI p)]) (h' := h) 4 rfl ?_
    refine RA.getf rfl hou rfl zu ?_
    refine RA.if2F rfl (decide_eq_false (Int32.not_le.mpr (nI_lt (show p < l by omega) (by omega)))) ?_
    refine RA.steps (i' := 12) (L' := [some (.ref (39 + k)), some (.ref (82 + 2 * u)), some (.int s), some (.int (nI p)), o4]) (st' := [.int (nI p), .ref (82 + 2 * u)]) (h' := h) 2 rfl ?_
    refine RA.call0 (N := mX3_at) (as := [.ref (82 + 2 * u), .int (nI p)]) (rest := []) rfl rfl (pcallV rfl rfl hou rfl rfl (Nat.le_of_ble_eq_true rfl)) (hat p (by omega)) ?_
    refine RA.steps (i' := 16) (L' := [some (.ref (39 + k)), some (.ref (82 + 2 * u)), some (.int s), some (.int (nI p)), some (.int (V p))]) (st' := [.int (-1000000005), .int (V p)]) (h' := h) 3 rfl ?_
    by_cases c : V p = -1000000005
    · rw [if_pos c]
      refine RA.if2T rfl (decide_eq_true c) ?_
      refine RA.iinc rfl rfl (nI_1 p) rfl ?_
      refine RA.steps (i' := 4) (L' := [some (.ref (39 + k)), some (.ref (82 + 2 * u)), some (.int s), some (.int (nI (p + 1))), some (.int (V p))]) (st' := []) (h' := h) 1 rfl ?_
      exact ih (p + 1) s _ (by omega)
    · rw [if_neg c]
      by_cases c2 : p < sz
      · rw [if_pos c2]
        refine RA.if2F rfl (decide_eq_false c) ?_
        refine RA.steps (i' := 20) (L' := [some (.ref (39 + k)), some (.ref (82 + 2 * u)), some (.int s), some (.int (nI p)), some (.int (V p))]) (st' := [.int (nI p), .ref (39 + k), .int s]) (h' := h) 3 rfl ?_
        refine RA.call0 (N := mX4_sayAt) (as := [.ref (39 + k), .int (nI p)]) (rest := [.int s]) rfl rfl (pcallV rfl rfl hor rfl rfl (Nat.le_of_ble_eq_true rfl)) (fS p c2) ?_
        refine RA.steps (i' := 26) (L' := [some (.ref (39 + k)), some (.ref (82 + 2 * u)), some (.int (s + (AB ((S p) - (V p))))), some (.int (nI p)), some (.int (V p))]) (st' := []) (h' := h) 5 rfl ?_
        refine RA.iinc rfl rfl (nI_1 p) rfl ?_
        refine RA.steps (i' := 4) (L' := [some (.ref (39 + k)), some (.ref (82 + 2 * u)), some (.int (s + (AB ((S p) - (V p))))), some (.int (nI (p + 1))), some (.int (V p))]) (st' := []) (h' := h) 1 rfl ?_
        exact ih (p + 1) _ _ (by omega)
      · rw [if_neg c2]
        refine RA.if2F rfl (decide_eq_false c) ?_
        refine RA.steps (i' := 20) (L' := [some (.ref (39 + k)), some (.ref (82 + 2 * u)), some (.int s), some (.int (nI p)), some (.int (V p))]) (st' := [.int (nI p), .ref (39 + k), .int s]) (h' := h) 3 rfl ?_
        refine RA.call0 (N := mX4_sayAt) (as := [.ref (39 + k), .int (nI p)]) (rest := [.int s]) rfl rfl (pcallV rfl rfl hor rfl rfl (Nat.le_of_ble_eq_true rfl)) (say_0 (d := 117) hh hk za (show sz ≤ p by omega) (show p < 24 by omega)) ?_
        refine RA.steps (i' := 26) (L' := [some (.ref (39 + k)), some (.ref (82 + 2 * u)), some (.int (s + (AB (0 - (V p))))), some (.int (nI p)), some (.int (V p))]) (st' := []) (h' := h) 5 rfl ?_
        refine RA.iinc rfl rfl (nI_1 p) rfl ?_
        refine RA.steps (i' := 4) (L' := [some (.ref (39 + k)), some (.ref (82 + 2 * u)), some (.int (s + (AB (0 - (V p))))), some (.int (nI (p + 1))), some (.int (V p))]) (st' := []) (h' := h) 1 rfl ?_
        exact ih (p + 1) _ _ (by omega)
/-- what stands behind the inner loop -/
def KIn (E : pX) (h : List pC) (R : pR) (u k l : Nat) (x2 : Int32) (o3 o4 : Option Value) (a : Int32) : Prop := ∀ o8' : Option Value, RA prog E pV1 120 mX8_whose 73 [some (.ref 110), some (.int (nI u)), some (.int x2), o3, o4, some (.int (nI k)), some (.int a), some (.int (nI l)), o8'] [] h R
/-- the inner loop comes to a -/
def InR (E : pX) (h : List pC) (u l : Nat) (x2 : Int32) (k : Nat) (a : Int32) : Prop := ∀ (o3 o4 o8 : Option Value) (R : pR), KIn E h R u k l x2 o3 o4 a → RA prog E pV1 120 mX8_whose 34 [some (.ref 110), some (.int (nI u)), some (.int x2), o3, o4, some (.int (nI k)), some (.int 0), some (.int 0), o8] [] h R
theorem inner_l {k u l sz : Nat} {S V T Z : Nat → Int32} {x2 : Int32} {fs8 : List Value} {o3 o4 : Option Value} {R : pR} (hh : HI HT h) (hk : k < 9) (hu : u < 4) (hl : l ≤ 24) (sz8 : sz ≤ 8) (ra : ri h 111 (21 + 6 * k + 2) = nI sz) (ho8 : pobj h 110 = some (8, fs8)) (f5 : fs8[5]? = some (.ref 115)) (f6 : fs8[6]? = some (.ref 116)) (pZ : pint h 115 = some (4, Z)) (eZ : Z (nI u).toNatClampNeg = nI l) (pT : pint h 116 = some (96, T)) (hT : ∀ j : Nat, j < 24 → T (24 * u + j) = V j) (hS : ∀ p : Nat, p < sz → Run prog E pV1 119 mX8_saysAt [.ref 110, .int (nI k), .int (nI p)] h (some (.int (S p)), h, 0, 0)) (hb : ∀ p : Nat, p < sz → 0 ≤ (S p).toInt ∧ (S p).toInt ≤ 3) (hv : ∀ p : Nat, p < 24 → -1000000005 ≤ (V p).toInt ∧ (V p).toInt ≤ 99999) : ∀ (m p : Nat) (s : Int32) (o8 : Option Value), p + m = l → KIn E h R u k l x2 o3 o4 (AP S V sz m p s) → RA prog E pV1 120 mX8_whose 34 [some (.ref 110), some (.int (nI u)), some (.int x2), o3, o4, some (.int (nI k)), some (.int s), some (.int (nI p)), o8] [] h R := by
  have bS : 0 ≤ nI u ∧ (nI u).toNatClampNeg < 4 := ⟨(nI_cl (by omega)).1, by rw [(nI_cl (by omega)).2]; exact hu⟩
  intro m
  induction m with
  | zero =>
    intro p s o8 h1 K
    have e : nI p = nI l := by rw [show p = l by omega]
    rw [e]
    refine RA.steps (i' := 36) (L' := [some (.ref 110), some (.int (nI u)), some (.int x2), o3, o4, some (.int (nI k)), some (.int s), some (.int (nI l)), o8]) (st' := [.ref 110, .int (nI l)]) (h' := h) 2 rfl ?_
    refine RA.getf rfl ho8 rfl f5 ?_
    refine RA.steps (i' := 38) (L' := [some (.ref 110), some (.int (nI u)), some (.int x2), o3, o4, some (.int (nI k)), some (.int s), some (.int (nI l)), o8]) (st' := [.int (nI u), .ref 115, .int (nI l)]) (h' := h) 1 rfl ?_
    refine RA.iald rfl pZ bS eZ ?_
    refine RA.if2T rfl (decide_eq_true (nI_le (Nat.le_refl l) (by omega))) ?_
    exact K _
  | succ m ih =>
    intro p s o8 h1 K
    rw [AP_s] at K
    refine RA.steps (i' := 36) (L' := [some (.ref 110), some (.int (nI u)), some (.int x2), o3, o4, some (.int (nI k)), some (.int s), some (.int (nI p)), o8]) (st' := [.ref 110, .int (nI p)]) (h' := h) 2 rfl ?_
    refine RA.getf rfl ho8 rfl f5 ?_
    refine RA.steps (i' := 38) (L' := [some (.ref 110), some (.int (nI u)), some (.int x2), o3, o4, some (.int (nI k)), some (.int s), some (.int (nI p)), o8]) (st' := [.int (nI u), .ref 115, .int (nI p)]) (h' := h) 1 rfl ?_
    refine RA.iald rfl pZ bS eZ ?_
    refine RA.if2F rfl (decide_eq_false (Int32.not_le.mpr (nI_lt (show p < l by omega) (by omega)))) ?_
    refine RA.steps (i' := 41) (L' := [some (.ref 110), some (.int (nI u)), some (.int x2), o3, o4, some (.int (nI k)), some (.int s), some (.int (nI p)), o8]) (st' := [.ref 110]) (h' := h) 1 rfl ?_
    refine RA.getf rfl ho8 rfl f6 ?_
    refine RA.steps (i' := 47) (L' := [some (.ref 110), some (.int (nI u)), some (.int x2), o3, o4, some (.int (nI k)), some (.int s), some (.int (nI p)), o8]) (st' := [.int ((24 * (nI u)) + (nI p)), .ref 116]) (h' := h) 5 rfl ?_
    rw [(eAdr hu)]
    refine RA.iald (w := (V p)) rfl pT ⟨(nI_cl (by omega)).1, by rw [(nI_cl (by omega)).2]; show 24 * u + p < 96; omega⟩ (by rw [(nI_cl (by omega)).2]; exact hT p (by omega)) ?_
    refine RA.steps (i' := 52) (L' := [some (.ref 110), some (.int (nI u)), some (.int x2), o3, o4, some (.int (nI k)), some (.int s), some (.int (nI p)), some (.int (V p))]) (st' := [.int (-1000000005), .int (V p), .int s]) (h' := h) 4 rfl ?_
    by_cases c : V p = -1000000005
    · rw [if_pos c] at K
      refine RA.if2F rfl (decide_eq_false (fun q => q c)) ?_
      refine RA.steps (i' := 70) (L' := [some (.ref 110), some (.int (nI u)), some (.int x2), o3, o4, some (.int (nI k)), some (.int s), some (.int (nI p)), some (.int (V p))]) (st' := [.int (s + 0)]) (h' := h) 3 rfl ?_
      rw [(Int32.add_zero s)]
      refine RA.steps (i' := 71) (L' := [some (.ref 110), some (.int (nI u)), some (.int x2), o3, o4, some (.int (nI k)), some (.int s), some (.int (nI p)), some (.int (V p))]) (st' := []) (h' := h) 1 rfl ?_
      refine RA.iinc rfl rfl (nI_1 p) rfl ?_
      refine RA.steps (i' := 34) (L' := [some (.ref 110), some (.int (nI u)), some (.int x2), o3, o4, some (.int (nI k)), some (.int s), some (.int (nI (p + 1))), some (.int (V p))]) (st' := []) (h' := h) 1 rfl ?_
      exact ih (p + 1) s _ (by omega) K
    · rw [if_neg c] at K
      by_cases c2 : p < sz
      · rw [if_pos c2] at K
        refine RA.if2T rfl (decide_eq_true c) ?_
        refine RA.steps (i' := 60) (L' := [some (.ref 110), some (.int (nI u)), some (.int x2), o3, o4, some (.int (nI k)), some (.int s), some (.int (nI p)), some (.int (V p))]) (st' := [.int 2, .int (nI k), .ref 110, .int (nI p), .int (V p), .int s]) (h' := h) 5 rfl ?_
        refine RA.call0 (N := mX8_of) (as := [.ref 110, .int (nI k), .int 2]) (rest := [.int (nI p), .int (V p), .int s]) rfl rfl (pcallV rfl rfl ho8 rfl rfl (Nat.le_of_ble_eq_true rfl)) (of_z (d := 118) hh hk ra) ?_
        refine RA.if2F rfl (decide_eq_false (Int32.not_le.mpr (nI_lt (show p < sz by omega) (by omega)))) ?_
        refine RA.steps (i' := 65) (L' := [some (.ref 110), some (.int (nI u)), some (.int x2), o3, o4, some (.int (nI k)), some (.int s), some (.int (nI p)), some (.int (V p))]) (st' := [.int (nI p), .int (nI k), .ref 110, .int (V p), .int s]) (h' := h) 3 rfl ?_
        refine RA.call0 (N := mX8_saysAt) (as := [.ref 110, .int (nI k), .int (nI p)]) (rest := [.int (V p), .int s]) rfl rfl (pcallV rfl rfl ho8 rfl rfl (Nat.le_of_ble_eq_true rfl)) (hS p c2) ?_
        refine RA.steps (i' := 68) (L' := [some (.ref 110), some (.int (nI u)), some (.int x2), o3, o4, some (.int (nI k)), some (.int s), some (.int (nI p)), some (.int (V p))]) (st' := [.int (S p), .int (V p), .int s]) (h' := h) 1 rfl ?_
        refine RA.call0 (N := mX8_off) (as := [.int (V p), .int (S p)]) (rest := [.int s]) rfl rfl rfl (off_x (d := 118) (hv p (by omega)) (hb p c2)) ?_
        refine RA.steps (i' := 71) (L' := [some (.ref 110), some (.int (nI u)), some (.int x2), o3, o4, some (.int (nI k)), some (.int (s + (AB (S p - V p)))), some (.int (nI p)), some (.int (V p))]) (st' := []) (h' := h) 2 rfl ?_
        refine RA.iinc rfl rfl (nI_1 p) rfl ?_
        refine RA.steps (i' := 34) (L' := [some (.ref 110), some (.int (nI u)), some (.int x2), o3, o4, some (.int (nI k)), some (.int (s + (AB (S p - V p)))), some (.int (nI (p + 1))), some (.int (V p))]) (st' := []) (h' := h) 1 rfl ?_
        exact ih (p + 1) _ _ (by omega) K
      · rw [if_neg c2] at K
        refine RA.if2T rfl (decide_eq_true c) ?_
        refine RA.steps (i' := 60) (L' := [some (.ref 110), some (.int (nI u)), some (.int x2), o3, o4, some (.int (nI k)), some (.int s), some (.int (nI p)), some (.int (V p))]) (st' := [.int 2, .int (nI k), .ref 110, .int (nI p), .int (V p), .int s]) (h' := h) 5 rfl ?_
        refine RA.call0 (N := mX8_of) (as := [.ref 110, .int (nI k), .int 2]) (rest := [.int (nI p), .int (V p), .int s]) rfl rfl (pcallV rfl rfl ho8 rfl rfl (Nat.le_of_ble_eq_true rfl)) (of_z (d := 118) hh hk ra) ?_
        refine RA.if2T rfl (decide_eq_true (nI_le (show sz ≤ p by omega) (by omega))) ?_
        refine RA.steps (i' := 68) (L' := [some (.ref 110), some (.int (nI u)), some (.int x2), o3, o4, some (.int (nI k)), some (.int s), some (.int (nI p)), some (.int (V p))]) (st' := [.int 0, .int (V p), .int s]) (h' := h) 1 rfl ?_
        refine RA.call0 (N := mX8_off) (as := [.int (V p), .int 0]) (rest := [.int s]) rfl rfl rfl (off_x (d := 118) (w := 0) (hv p (by omega)) ⟨by decide, by decide⟩) ?_
        refine RA.steps (i' := 71) (L' := [some (.ref 110), some (.int (nI u)), some (.int x2), o3, o4, some (.int (nI k)), some (.int (s + (AB (0 - V p)))), some (.int (nI p)), some (.int (V p))]) (st' := []) (h' := h) 2 rfl ?_
        refine RA.iinc rfl rfl (nI_1 p) rfl ?_
        refine RA.steps (i' := 34) (L' := [some (.ref 110), some (.int (nI u)), some (.int x2), o3, o4, some (.int (nI k)), some (.int (s + (AB (0 - V p)))), some (.int (nI (p + 1))), some (.int (V p))]) (st' := []) (h' := h) 1 rfl ?_
        exact ih (p + 1) _ _ (by omega) K
theorem ap_fn {k u l : Nat} {x2 : Int32} (hh : HI HT h) (hj : JT h) (hk : k < 9) (hu : u < 4) (hl : l ≤ 24) (zl : ri h (82 + 2 * u) 2 = nI l) (zr : ri h 115 u = nI l) (hr : RubK h k) (hv : RV h) (vb : VB h) : ∃ a : Int32, Run prog E pV1 119 mX7_apart [.ref (39 + k), .ref (82 + 2 * u)] h (some (.int a), h, 0, 0) ∧ InR E h u l x2 k a := by
  obtain ⟨sz, sz1, sz8, za⟩ := rub_sz hh hk
  have ra : ri h 111 (21 + 6 * k + 2) = nI sz := by rw [← hr 2 (by decide)]; exact za
  obtain ⟨S, fS⟩ := say_fn (E := E) (sz := sz) hh hj hk hr (by rw [za]; exact nI_toInt (by omega))
  obtain ⟨V, pv, uv⟩ := vals_at hh u hu
  obtain ⟨fs8, ho8, hF8⟩ := hi_obj hh (a := 110) rfl
  obtain ⟨Z, pZ, uZ, -⟩ := hi_int (a := 115) (n := 4) (sg := [(0, 3, 0, 24)]) hh rfl
  obtain ⟨T, pT, uT, -⟩ := hi_int (a := 116) (n := 96) (sg := []) hh rfl
  have eZ : Z (nI u).toNatClampNeg = nI l := by rw [(nI_cl (by omega)).2, ← uZ u hu]; exact zr
  have hT : ∀ j : Nat, j < 24 → T (24 * u + j) = V j := fun j hj24 => by
    rw [← uT (24 * u + j) (by omega), ← uv j hj24]
    exact (hv u j hu hj24).symm
  have hb : ∀ p : Nat, p < sz → 0 ≤ (S p).toInt ∧ (S p).toInt ≤ 3 := fun p hp => say_bd hh hj hk (fS p hp).1
  have hV : ∀ j : Nat, j < 24 → -1000000005 ≤ (V j).toInt ∧ (V j).toInt ≤ 99999 := fun j hj24 => by
    rw [← uv j hj24]
    exact vb u j hu hj24
  refine ⟨AP S V sz l 0 0, ⟨Nat.le_of_ble_eq_true rfl, ⟨_, _, rfl⟩, ?_⟩, fun o3 o4 o8 R K => ?_⟩
  · refine RA.steps (i' := 4) (L' := [some (.ref (39 + k)), some (.ref (82 + 2 * u)), some (.int 0), some (.int 0), none]) (st' := []) (h' := h) 4 rfl ?_
    have k2 := apart_l hh hk hu hl sz8 za zl pv (fun p hp => (fS p hp).1) l 0 0 none (by omega)
    rw [nI_0] at k2
    exact k2
  · have k2 := inner_l (x2 := x2) hh hk hu hl sz8 ra ho8 (hF8.ref (k := 5) rfl) (hF8.ref (k := 6) rfl) pZ eZ pT hT (fun p hp => Run.dup (fS p hp).2) hb hV l 0 0 o8 (by omega) K
    rw [nI_0] at k2
    exact k2
theorem whose_cl {u n : Nat} {A : Nat → Int32} {x2 : Int32} {fs0 fs34 : List Value} (hh : HI HT h) (ho0 : pobj h 0 = some (7, fs0)) (g1 : fs0[1]? = some (.ref 34)) (ho34 : pobj h 34 = some (6, fs34)) (w5 : fs34[5]? = some (.int (nI n))) (hn : n ≤ 9) (jm : ∀ k : Nat, k < n → (k : Int) < (ri h 34 5).toInt) (jc : ∀ k : Nat, k < n → Run prog E pV1 119 mX7_apart [.ref (39 + k), .ref (82 + 2 * u)] h (some (.int (A k)), h, 0, 0)) : ∀ (m k b : Nat) (o7 : Option Value), k + m = n → b < k → RA prog E pV1 120 mX7_whose 24 [some (.ref 0), some (.int (nI u)), some (.int x2), some (.ref (82 + 2 * u)), some (.int (nI b)), some (.int (A b)), some (.int (nI k)), o7] [] h (some (.int (if x2 = 0 then nI (WBu A m k b) else A (WBu A m k b))), h, 0, 0) := by
  intro m
  induction m with
  | zero =>
    intro k b o7 h1 h2
    show RA prog E pV1 120 mX7_whose 24 [some (.ref 0), some (.int (nI u)), some (.int x2), some (.ref (82 + 2 * u)), some (.int (nI b)), some (.int (A b)), some (.int (nI k)), o7] [] h (some (.int (if x2 = 0 then nI b else A b)), h, 0, 0)
    by_cases c : x2 = 0
    · rw [if_pos c]
      refine RA.steps (i' := 26) (L' := [some (.ref 0), some (.int (nI u)), some (.int x2), some (.ref (82 + 2 * u)), some (.int (nI b)), some (.int (A b)), some (.int (nI k)), o7]) (st' := [.ref 0, .int (nI k)]) (h' := h) 2 rfl ?_
      refine RA.getf rfl ho0 rfl g1 ?_
      refine RA.getf rfl ho34 rfl w5 ?_
      refine RA.if2T rfl (decide_eq_true (nI_le (show n ≤ k by omega) (by omega))) ?_
      refine RA.steps (i' := 48) (L' := [some (.ref 0), some (.int (nI u)), some (.int x2), some (.ref (82 + 2 * u)), some (.int (nI b)), some (.int (A b)), some (.int (nI k)), o7]) (st' := [.int x2]) (h' := h) 1 rfl ?_
      refine RA.if1F rfl (decide_eq_false (fun q => q c)) ?_
      refine RA.steps (i' := 52) (L' := [some (.ref 0), some (.int (nI u)), some (.int x2), some (.ref (82 + 2 * u)), some (.int (nI b)), some (.int (A b)), some (.int (nI k)), o7]) (st' := [.int (nI b)]) (h' := h) 2 rfl ?_
      exact RA.ret rfl rfl
    · rw [if_neg c]
      refine RA.steps (i' := 26) (L' := [some (.ref 0), some (.int (nI u)), some (.int x2), some (.ref (82 + 2 * u)), some (.int (nI b)), some (.int (A b)), some (.int (nI k)), o7]) (st' := [.ref 0, .int (nI k)]) (h' := h) 2 rfl ?_
      refine RA.getf rfl ho0 rfl g1 ?_
      refine RA.getf rfl ho34 rfl w5 ?_
      refine RA.if2T rfl (decide_eq_true (nI_le (show n ≤ k by omega) (by omega))) ?_
      refine RA.steps (i' := 48) (L' := [some (.ref 0), some (.int (nI u)), some (.int x2), some (.ref (82 + 2 * u)), some (.int (nI b)), some (.int (A b)), some (.int (nI k)), o7]) (st' := [.int x2]) (h' := h) 1 rfl ?_
      refine RA.if1T rfl (decide_eq_true c) ?_
      refine RA.steps (i' := 52) (L' := [some (.ref 0), some (.int (nI u)), some (.int x2), some (.ref (82 + 2 * u)), some (.int (nI b)), some (.int (A b)), some (.int (nI k)), o7]) (st' := [.int (A b)]) (h' := h) 1 rfl ?_
      exact RA.ret rfl rfl
  | succ m ih =>
    intro k b o7 h1 h2
    rw [WBu_s]
    refine RA.steps (i' := 26) (L' := [some (.ref 0), some (.int (nI u)), some (.int x2), some (.ref (82 + 2 * u)), some (.int (nI b)), some (.int (A b)), some (.int (nI k)), o7]) (st' := [.ref 0, .int (nI k)]) (h' := h) 2 rfl ?_
    refine RA.getf rfl ho0 rfl g1 ?_
    refine RA.getf rfl ho34 rfl w5 ?_
    refine RA.if2F rfl (decide_eq_false (Int32.not_le.mpr (nI_lt (show k < n by omega) (by omega)))) ?_
    refine RA.steps (i' := 30) (L' := [some (.ref 0), some (.int (nI u)), some (.int x2), some (.ref (82 + 2 * u)), some (.int (nI b)), some (.int (A b)), some (.int (nI k)), o7]) (st' := [.ref 0]) (h' := h) 1 rfl ?_
    refine RA.getf rfl ho0 rfl g1 ?_
    refine RA.steps (i' := 32) (L' := [some (.ref 0), some (.int (nI u)), some (.int x2), some (.ref (82 + 2 * u)), some (.int (nI b)), some (.int (A b)), some (.int (nI k)), o7]) (st' := [.int (nI k), .ref 34]) (h' := h) 1 rfl ?_
    refine RA.call0 (N := mX6_one) (as := [.ref 34, .int (nI k)]) (rest := []) rfl rfl (pcallV rfl rfl ho34 rfl rfl (Nat.le_of_ble_eq_true rfl)) (one_x (d := 118) (k := k) hh (show k < 9 by omega) (jm k (by omega))) ?_
    refine RA.steps (i' := 34) (L' := [some (.ref 0), some (.int (nI u)), some (.int x2), some (.ref (82 + 2 * u)), some (.int (nI b)), some (.int (A b)), some (.int (nI k)), o7]) (st' := [.ref (82 + 2 * u), .ref (39 + k)]) (h' := h) 1 rfl ?_
    refine RA.call0 (N := mX7_apart) (as := [.ref (39 + k), .ref (82 + 2 * u)]) (rest := []) rfl rfl rfl (jc k (by omega)) ?_
    refine RA.steps (i' := 37) (L' := [some (.ref 0), some (.int (nI u)), some (.int x2), some (.ref (82 + 2 * u)), some (.int (nI b)), some (.int (A b)), some (.int (nI k)), some (.int (A k))]) (st' := [.int (nI k)]) (h' := h) 2 rfl ?_
    refine RA.if1F rfl (decide_eq_false (fun q => absurd ((nI_eq (by omega) (by omega)).mp (show nI k = nI 0 from q.trans nI_0.symm)) (by omega))) ?_
    refine RA.steps (i' := 40) (L' := [some (.ref 0), some (.int (nI u)), some (.int x2), some (.ref (82 + 2 * u)), some (.int (nI b)), some (.int (A b)), some (.int (nI k)), some (.int (A k))]) (st' := [.int (A b), .int (A k)]) (h' := h) 2 rfl ?_
    by_cases c : A k < A b
    · rw [if_pos c]
      refine RA.if2F rfl (decide_eq_false (Int32.not_le.mpr c)) ?_
      refine RA.steps (i' := 45) (L' := [some (.ref 0), some (.int (nI u)), some (.int x2), some (.ref (82 + 2 * u)), some (.int (nI k)), some (.int (A k)), some (.int (nI k)), some (.int (A k))]) (st' := []) (h' := h) 4 rfl ?_
      refine RA.iinc rfl rfl (nI_1 k) rfl ?_
      refine RA.steps (i' := 24) (L' := [some (.ref 0), some (.int (nI u)), some (.int x2), some (.ref (82 + 2 * u)), some (.int (nI k)), some (.int (A k)), some (.int (nI (k + 1))), some (.int (A k))]) (st' := []) (h' := h) 1 rfl ?_
      exact ih (k + 1) k _ (by omega) (by omega)
    · rw [if_neg c]
      refine RA.if2T rfl (decide_eq_true (Int32.not_lt.mp c)) ?_
      refine RA.iinc rfl rfl (nI_1 k) rfl ?_
      refine RA.steps (i' := 24) (L' := [some (.ref 0), some (.int (nI u)), some (.int x2), some (.ref (82 + 2 * u)), some (.int (nI b)), some (.int (A b)), some (.int (nI (k + 1))), some (.int (A k))]) (st' := []) (h' := h) 1 rfl ?_
      exact ih (k + 1) b _ (by omega) (by omega)
theorem whose_c0 {u n m : Nat} {A : Nat → Int32} {x2 : Int32} {fs0 fs34 : List Value} (hh : HI HT h) (ho0 : pobj h 0 = some (7, fs0)) (g1 : fs0[1]? = some (.ref 34)) (ho34 : pobj h 34 = some (6, fs34)) (w5 : fs34[5]? = some (.int (nI n))) (hn : n ≤ 9) (jm : ∀ k : Nat, k < n → (k : Int) < (ri h 34 5).toInt) (jc : ∀ k : Nat, k < n → Run prog E pV1 119 mX7_apart [.ref (39 + k), .ref (82 + 2 * u)] h (some (.int (A k)), h, 0, 0)) (hm : 1 + m = n) : RA prog E pV1 120 mX7_whose 24 [some (.ref 0), some (.int (nI u)), some (.int x2), some (.ref (82 + 2 * u)), some (.int (-1000000005)), some (.int (-1000000005)), some (.int (nI 0)), none] [] h (some (.int (if x2 = 0 then nI (WBu A m 1 0) else A (WBu A m 1 0))), h, 0, 0) := by
  refine RA.steps (i' := 26) (L' := [some (.ref 0), some (.int (nI u)), some (.int x2), some (.ref (82 + 2 * u)), some (.int (-1000000005)), some (.int (-1000000005)), some (.int (nI 0)), none]) (st' := [.ref 0, .int (nI 0)]) (h' := h) 2 rfl ?_
  refine RA.getf rfl ho0 rfl g1 ?_
  refine RA.getf rfl ho34 rfl w5 ?_
  refine RA.if2F rfl (decide_eq_false (Int32.not_le.mpr (nI_lt (show 0 < n by omega) (by omega)))) ?_
  refine RA.steps (i' := 30) (L' := [some (.ref 0), some (.int (nI u)), some (.int x2), some (.ref (82 + 2 * u)), some (.int (-1000000005)), some (.int (-1000000005)), some (.int (nI 0)), none]) (st' := [.ref 0]) (h' := h) 1 rfl ?_
  refine RA.getf rfl ho0 rfl g1 ?_
  refine RA.steps (i' := 32) (L' := [some (.ref 0), some (.int (nI u)), some (.int x2), some (.ref (82 + 2 * u)), some (.int (-1000000005)), some (.int (-1000000005)), some (.int (nI 0)), none]) (st' := [.int (nI 0), .ref 34]) (h' := h) 1 rfl ?_
  refine RA.call0 (N := mX6_one) (as := [.ref 34, .int (nI 0)]) (rest := []) rfl rfl (pcallV rfl rfl ho34 rfl rfl (Nat.le_of_ble_eq_true rfl)) (one_x (d := 118) (k := 0) hh (show 0 < 9 by omega) (jm 0 (by omega))) ?_
  refine RA.steps (i' := 34) (L' := [some (.ref 0), some (.int (nI u)), some (.int x2), some (.ref (82 + 2 * u)), some (.int (-1000000005)), some (.int (-1000000005)), some (.int (nI 0)), none]) (st' := [.ref (82 + 2 * u), .ref (39 + 0)]) (h' := h) 1 rfl ?_
  refine RA.call0 (N := mX7_apart) (as := [.ref (39 + 0), .ref (82 + 2 * u)]) (rest := []) rfl rfl rfl (jc 0 (by omega)) ?_
  refine RA.steps (i' := 37) (L' := [some (.ref 0), some (.int (nI u)), some (.int x2), some (.ref (82 + 2 * u)), some (.int (-1000000005)), some (.int (-1000000005)), some (.int (nI 0)), some (.int (A 0))]) (st' := [.int (nI 0)]) (h' := h) 2 rfl ?_
  refine RA.if1T rfl (decide_eq_true nI_0) ?_
  refine RA.steps (i' := 45) (L' := [some (.ref 0), some (.int (nI u)), some (.int x2), some (.ref (82 + 2 * u)), some (.int (nI 0)), some (.int (A 0)), some (.int (nI 0)), some (.int (A 0))]) (st' := []) (h' := h) 4 rfl ?_
  refine RA.iinc rfl rfl (nI_1 0) rfl ?_
  refine RA.steps (i' := 24) (L' := [some (.ref 0), some (.int (nI u)), some (.int x2), some (.ref (82 + 2 * u)), some (.int (nI 0)), some (.int (A 0)), some (.int (nI (0 + 1))), some (.int (A 0))]) (st' := []) (h' := h) 1 rfl ?_
  exact whose_cl hh ho0 g1 ho34 w5 hn jm jc m 1 0 _ (by omega) (by decide)
theorem whose_rl {u n l : Nat} {A : Nat → Int32} {x2 : Int32} {fs8 : List Value} {t : Nat → Int32} (hh : HI HT h) (hn : n ≤ 9) (ho8 : pobj h 110 = some (8, fs8)) (f0 : fs8[0]? = some (.ref 111)) (p111 : pint h 111 = some (3075, t)) (e0 : t 0 = nI n) (jr : ∀ k : Nat, k < n → InR E h u l x2 k (A k)) : ∀ (m k b : Nat) (o6 o7 o8 : Option Value), k + m = n → b < k → RA prog E pV1 120 mX8_whose 24 [some (.ref 110), some (.int (nI u)), some (.int x2), some (.int (nI b)), some (.int (A b)), some (.int (nI k)), o6, o7, o8] [] h (some (.int (if x2 = 0 then nI (WBu A m k b) else A (WBu A m k b))), h, 0, 0) := by
  intro m
  induction m with
  | zero =>
    intro k b o6 o7 o8 h1 h2
    show RA prog E pV1 120 mX8_whose 24 [some (.ref 110), some (.int (nI u)), some (.int x2), some (.int (nI b)), some (.int (A b)), some (.int (nI k)), o6, o7, o8] [] h (some (.int (if x2 = 0 then nI b else A b)), h, 0, 0)
    by_cases c : x2 = 0
    · rw [if_pos c]
      refine RA.steps (i' := 26) (L' := [some (.ref 110), some (.int (nI u)), some (.int x2), some (.int (nI b)), some (.int (A b)), some (.int (nI k)), o6, o7, o8]) (st' := [.ref 110, .int (nI k)]) (h' := h) 2 rfl ?_
      refine RA.getf rfl ho8 rfl f0 ?_
      refine RA.steps (i' := 28) (L' := [some (.ref 110), some (.int (nI u)), some (.int x2), some (.int (nI b)), some (.int (A b)), some (.int (nI k)), o6, o7, o8]) (st' := [.int 0, .ref 111, .int (nI k)]) (h' := h) 1 rfl ?_
      refine RA.iald rfl p111 ⟨by decide, Nat.le_of_ble_eq_true rfl⟩ e0 ?_
      refine RA.if2T rfl (decide_eq_true (nI_le (show n ≤ k by omega) (by omega))) ?_
      refine RA.steps (i' := 85) (L' := [some (.ref 110), some (.int (nI u)), some (.int x2), some (.int (nI b)), some (.int (A b)), some (.int (nI k)), o6, o7, o8]) (st' := [.int (nI b)]) (h' := h) 1 rfl ?_
      refine RA.if1T rfl (decide_eq_true (nI_cl (by omega)).1) ?_
      refine RA.steps (i' := 89) (L' := [some (.ref 110), some (.int (nI u)), some (.int x2), some (.int (nI b)), some (.int (A b)), some (.int (nI k)), o6, o7, o8]) (st' := [.int x2]) (h' := h) 1 rfl ?_
      refine RA.if1F rfl (decide_eq_false (fun q => q c)) ?_
      refine RA.steps (i' := 93) (L' := [some (.ref 110), some (.int (nI u)), some (.int x2), some (.int (nI b)), some (.int (A b)), some (.int (nI k)), o6, o7, o8]) (st' := [.int (nI b)]) (h' := h) 2 rfl ?_
      exact RA.ret rfl rfl
    · rw [if_neg c]
      refine RA.steps (i' := 26) (L' := [some (.ref 110), some (.int (nI u)), some (.int x2), some (.int (nI b)), some (.int (A b)), some (.int (nI k)), o6, o7, o8]) (st' := [.ref 110, .int (nI k)]) (h' := h) 2 rfl ?_
      refine RA.getf rfl ho8 rfl f0 ?_
      refine RA.steps (i' := 28) (L' := [some (.ref 110), some (.int (nI u)), some (.int x2), some (.int (nI b)), some (.int (A b)), some (.int (nI k)), o6, o7, o8]) (st' := [.int 0, .ref 111, .int (nI k)]) (h' := h) 1 rfl ?_
      refine RA.iald rfl p111 ⟨by decide, Nat.le_of_ble_eq_true rfl⟩ e0 ?_
      refine RA.if2T rfl (decide_eq_true (nI_le (show n ≤ k by omega) (by omega))) ?_
      refine RA.steps (i' := 85) (L' := [some (.ref 110), some (.int (nI u)), some (.int x2), some (.int (nI b)), some (.int (A b)), some (.int (nI k)), o6, o7, o8]) (st' := [.int (nI b)]) (h' := h) 1 rfl ?_
      refine RA.if1T rfl (decide_eq_true (nI_cl (by omega)).1) ?_
      refine RA.steps (i' := 89) (L' := [some (.ref 110), some (.int (nI u)), some (.int x2), some (.int (nI b)), some (.int (A b)), some (.int (nI k)), o6, o7, o8]) (st' := [.int x2]) (h' := h) 1 rfl ?_
      refine RA.if1T rfl (decide_eq_true c) ?_
      refine RA.steps (i' := 93) (L' := [some (.ref 110), some (.int (nI u)), some (.int x2), some (.int (nI b)), some (.int (A b)), some (.int (nI k)), o6, o7, o8]) (st' := [.int (A b)]) (h' := h) 1 rfl ?_
      exact RA.ret rfl rfl
  | succ m ih =>
    intro k b o6 o7 o8 h1 h2
    rw [WBu_s]
    refine RA.steps (i' := 26) (L' := [some (.ref 110), some (.int (nI u)), some (.int x2), some (.int (nI b)), some (.int (A b)), some (.int (nI k)), o6, o7, o8]) (st' := [.ref 110, .int (nI k)]) (h' := h) 2 rfl ?_
    refine RA.getf rfl ho8 rfl f0 ?_
    refine RA.steps (i' := 28) (L' := [some (.ref 110), some (.int (nI u)), some (.int x2), some (.int (nI b)), some (.int (A b)), some (.int (nI k)), o6, o7, o8]) (st' := [.int 0, .ref 111, .int (nI k)]) (h' := h) 1 rfl ?_
    refine RA.iald rfl p111 ⟨by decide, Nat.le_of_ble_eq_true rfl⟩ e0 ?_
    refine RA.if2F rfl (decide_eq_false (Int32.not_le.mpr (nI_lt (show k < n by omega) (by omega)))) ?_
    refine RA.steps (i' := 34) (L' := [some (.ref 110), some (.int (nI u)), some (.int x2), some (.int (nI b)), some (.int (A b)), some (.int (nI k)), some (.int 0), some (.int 0), o8]) (st' := []) (h' := h) 4 rfl ?_
    refine jr k (by omega) _ _ _ _ (fun o8' => ?_)
    refine RA.steps (i' := 74) (L' := [some (.ref 110), some (.int (nI u)), some (.int x2), some (.int (nI b)), some (.int (A b)), some (.int (nI k)), some (.int (A k)), some (.int (nI l)), o8']) (st' := [.int (nI b)]) (h' := h) 1 rfl ?_
    refine RA.if1F rfl (decide_eq_false (Int32.not_lt.mpr (nI_cl (by omega)).1)) ?_
    refine RA.steps (i' := 77) (L' := [some (.ref 110), some (.int (nI u)), some (.int x2), some (.int (nI b)), some (.int (A b)), some (.int (nI k)), some (.int (A k)), some (.int (nI l)), o8']) (st' := [.int (A b), .int (A k)]) (h' := h) 2 rfl ?_
    by_cases c : A k < A b
    · rw [if_pos c]
      refine RA.if2F rfl (decide_eq_false (Int32.not_le.mpr c)) ?_
      refine RA.steps (i' := 82) (L' := [some (.ref 110), some (.int (nI u)), some (.int x2), some (.int (nI k)), some (.int (A k)), some (.int (nI k)), some (.int (A k)), some (.int (nI l)), o8']) (st' := []) (h' := h) 4 rfl ?_
      refine RA.iinc rfl rfl (nI_1 k) rfl ?_
      refine RA.steps (i' := 24) (L' := [some (.ref 110), some (.int (nI u)), some (.int x2), some (.int (nI k)), some (.int (A k)), some (.int (nI (k + 1))), some (.int (A k)), some (.int (nI l)), o8']) (st' := []) (h' := h) 1 rfl ?_
      exact ih (k + 1) k _ _ _ (by omega) (by omega)
    · rw [if_neg c]
      refine RA.if2T rfl (decide_eq_true (Int32.not_lt.mp c)) ?_
      refine RA.iinc rfl rfl (nI_1 k) rfl ?_
      refine RA.steps (i' := 24) (L' := [some (.ref 110), some (.int (nI u)), some (.int x2), some (.int (nI b)), some (.int (A b)), some (.int (nI (k + 1))), some (.int (A k)), some (.int (nI l)), o8']) (st' := []) (h' := h) 1 rfl ?_
      exact ih (k + 1) b _ _ _ (by omega) (by omega)
theorem whose_r0 {u n l m : Nat} {A : Nat → Int32} {x2 : Int32} {fs8 : List Value} {t : Nat → Int32} (hh : HI HT h) (hn : n ≤ 9) (ho8 : pobj h 110 = some (8, fs8)) (f0 : fs8[0]? = some (.ref 111)) (p111 : pint h 111 = some (3075, t)) (e0 : t 0 = nI n) (jr : ∀ k : Nat, k < n → InR E h u l x2 k (A k)) (hm : 1 + m = n) : RA prog E pV1 120 mX8_whose 24 [some (.ref 110), some (.int (nI u)), some (.int x2), some (.int (-1)), some (.int 0), some (.int (nI 0)), none, none, none] [] h (some (.int (if x2 = 0 then nI (WBu A m 1 0) else A (WBu A m 1 0))), h, 0, 0) := by
  refine RA.steps (i' := 26) (L' := [some (.ref 110), some (.int (nI u)), some (.int x2), some (.int (-1)), some (.int 0), some (.int (nI 0)), none, none, none]) (st' := [.ref 110, .int (nI 0)]) (h' := h) 2 rfl ?_
  refine RA.getf rfl ho8 rfl f0 ?_
  refine RA.steps (i' := 28) (L' := [some (.ref 110), some (.int (nI u)), some (.int x2), some (.int (-1)), some (.int 0), some (.int (nI 0)), none, none, none]) (st' := [.int 0, .ref 111, .int (nI 0)]) (h' := h) 1 rfl ?_
  refine RA.iald rfl p111 ⟨by decide, Nat.le_of_ble_eq_true rfl⟩ e0 ?_
  refine RA.if2F rfl (decide_eq_false (Int32.not_le.mpr (nI_lt (show 0 < n by omega) (by omega)))) ?_
  refine RA.steps (i' := 34) (L' := [some (.ref 110), some (.int (nI u)), some (.int x2), some (.int (-1)), some (.int 0), some (.int (nI 0)), some (.int 0), some (.int 0), none]) (st' := []) (h' := h) 4 rfl ?_
  refine jr 0 (by omega) _ _ _ _ (fun o8' => ?_)
  refine RA.steps (i' := 74) (L' := [some (.ref 110), some (.int (nI u)), some (.int x2), some (.int (-1)), some (.int 0), some (.int (nI 0)), some (.int (A 0)), some (.int (nI l)), o8']) (st' := [.int (-1)]) (h' := h) 1 rfl ?_
  refine RA.if1T rfl (decide_eq_true (show (-1 : Int32) < 0 by decide)) ?_
  refine RA.steps (i' := 82) (L' := [some (.ref 110), some (.int (nI u)), some (.int x2), some (.int (nI 0)), some (.int (A 0)), some (.int (nI 0)), some (.int (A 0)), some (.int (nI l)), o8']) (st' := []) (h' := h) 4 rfl ?_
  refine RA.iinc rfl rfl (nI_1 0) rfl ?_
  refine RA.steps (i' := 24) (L' := [some (.ref 110), some (.int (nI u)), some (.int x2), some (.int (nI 0)), some (.int (A 0)), some (.int (nI (0 + 1))), some (.int (A 0)), some (.int (nI l)), o8']) (st' := []) (h' := h) 1 rfl ?_
  exact whose_rl hh hn ho8 f0 p111 e0 jr m 1 0 _ _ _ (by omega) (by decide)
theorem whose_both (x1 x2 : Int32) (hh : HI HT h) (hj : JT h) (hq : ri h 34 5 = ri h 111 0) (hr : ∀ k : Nat, k < 9 → (k : Int) < (ri h 34 5).toInt → RubK h k) (hs : RSS h) (hv : RV h) (vb : VB h) : ∃ v : Int32, Run prog E pV1 120 mX7_whose [.ref 0, .int x1, .int x2] h (some (.int v), h, 0, 0) ∧ Run prog E pV1 120 mX8_whose [.ref 110, .int x1, .int x2] h (some (.int v), h, 0, 0) := by
  have t0 : (0 : Int32).toInt = 0 := by decide
  have t3 : (3 : Int32).toInt = 3 := by decide
  obtain ⟨fs0, ho0, hF0⟩ := hi_obj hh (a := 0) rfl
  obtain ⟨fs8, ho8, hF8⟩ := hi_obj hh (a := 110) rfl
  obtain ⟨gS_, pS, uS, -⟩ := hi_int (a := 114) (n := 4) (sg := [(0, 3, -1, 1)]) hh rfl
  by_cases hn : x1.toInt < 0 ∨ 4 ≤ x1.toInt
  · have hs3 : ¬ ((0 : Int32) ≤ x1 ∧ x1 ≤ 3) := fun q => by
      have q1 := Int32.le_iff_toInt_le.mp q.1
      have q2 := Int32.le_iff_toInt_le.mp q.2
      omega
    refine ⟨-1000000001, ⟨Nat.le_of_ble_eq_true rfl, ⟨_, _, rfl⟩, ?_⟩, ⟨Nat.le_of_ble_eq_true rfl, ⟨_, _, rfl⟩, ?_⟩⟩
    · show RA prog E pV1 120 mX7_whose 0 [some (.ref 0), some (.int x1), some (.int x2), none, none, none, none, none] [] h (some (.int (-1000000001)), h, 0, 0)
      refine RA.steps (i' := 2) (L' := [some (.ref 0), some (.int x1), some (.int x2), none, none, none, none, none]) (st' := [.int x1, .ref 0]) (h' := h) 2 rfl ?_
      refine RA.call0 (N := mX7_rowOf) (as := [.ref 0, .int x1]) (rest := []) rfl rfl (pcallV rfl rfl ho0 rfl rfl (Nat.le_of_ble_eq_true rfl)) (rowOf_n (d := 118) hh hn) ?_
      refine RA.steps (i' := 12) (L' := [some (.ref 0), some (.int x1), some (.int x2), some (.null), none, none, none, none]) (st' := [.int (-1000000001)]) (h' := h) 4 rfl ?_
      exact RA.ret rfl rfl
    · show RA prog E pV1 120 mX8_whose 0 [some (.ref 110), some (.int x1), some (.int x2), none, none, none, none, none, none] [] h (some (.int (-1000000001)), h, 0, 0)
      refine RA.steps (i' := 1) (L' := [some (.ref 110), some (.int x1), some (.int x2), none, none, none, none, none, none]) (st' := [.int x1]) (h' := h) 1 rfl ?_
      refine RA.call0 (N := mX8_isSheet) (as := [.int x1]) (rest := []) rfl rfl rfl (isSh_f (d := 117) hs3) ?_
      refine RA.if1T rfl rfl ?_
      refine RA.steps (i' := 10) (L' := [some (.ref 110), some (.int x1), some (.int x2), none, none, none, none, none, none]) (st' := [.int (-1000000001)]) (h' := h) 1 rfl ?_
      exact RA.ret rfl rfl
  obtain ⟨u, rfl, hu0⟩ := nIof (x := x1) (by omega) (by omega)
  have hu : u < 4 := by omega
  have hs3 : (0 : Int32) ≤ nI u ∧ nI u ≤ 3 := ⟨(nI_cl (by omega)).1, Int32.le_iff_toInt_le.mpr (by omega)⟩
  obtain ⟨es, ez⟩ := hs u hu
  obtain ⟨⟨s0, s1⟩, z0, z24⟩ := rows_ty hh u hu
  obtain ⟨fsr, hor, -, -, -⟩ := row_obj hh u hu
  have bS : 0 ≤ nI u ∧ (nI u).toNatClampNeg < 4 := ⟨(nI_cl (by omega)).1, by rw [(nI_cl (by omega)).2]; exact hu⟩
  have eS : gS_ (nI u).toNatClampNeg = ri h 114 u := by rw [(nI_cl (by omega)).2]; exact (uS u hu).symm
  by_cases hw : (0 : Int32) ≤ x2 ∧ x2 ≤ 1
  rotate_left
  · skip
    refine ⟨-1000000001, ⟨Nat.le_of_ble_eq_true rfl, ⟨_, _, rfl⟩, ?_⟩, ⟨Nat.le_of_ble_eq_true rfl, ⟨_, _, rfl⟩, ?_⟩⟩
    · show RA prog E pV1 120 mX7_whose 0 [some (.ref 0), some (.int (nI u)), some (.int x2), none, none, none, none, none] [] h (some (.int (-1000000001)), h, 0, 0)
      refine RA.steps (i' := 2) (L' := [some (.ref 0), some (.int (nI u)), some (.int x2), none, none, none, none, none]) (st' := [.int (nI u), .ref 0]) (h' := h) 2 rfl ?_
      refine RA.call0 (N := mX7_rowOf) (as := [.ref 0, .int (nI u)]) (rest := []) rfl rfl (pcallV rfl rfl ho0 rfl rfl (Nat.le_of_ble_eq_true rfl)) (rowOf_x (d := 118) hh hu) ?_
      refine RA.steps (i' := 9) (L' := [some (.ref 0), some (.int (nI u)), some (.int x2), some (.ref (82 + 2 * u)), none, none, none, none]) (st' := [.int 1, .int 0, .int x2]) (h' := h) 6 rfl ?_
      refine RA.call0 (N := mX7_within) (as := [.int x2, .int 0, .int 1]) (rest := []) rfl rfl rfl (within_f hw) ?_
      refine RA.if1F rfl rfl ?_
      refine RA.steps (i' := 12) (L' := [some (.ref 0), some (.int (nI u)), some (.int x2), some (.ref (82 + 2 * u)), none, none, none, none]) (st' := [.int (-1000000001)]) (h' := h) 1 rfl ?_
      exact RA.ret rfl rfl
    · show RA prog E pV1 120 mX8_whose 0 [some (.ref 110), some (.int (nI u)), some (.int x2), none, none, none, none, none, none] [] h (some (.int (-1000000001)), h, 0, 0)
      refine RA.steps (i' := 1) (L' := [some (.ref 110), some (.int (nI u)), some (.int x2), none, none, none, none, none, none]) (st' := [.int (nI u)]) (h' := h) 1 rfl ?_
      refine RA.call0 (N := mX8_isSheet) (as := [.int (nI u)]) (rest := []) rfl rfl rfl (isSh_t (d := 117) hs3) ?_
      refine RA.if1F rfl rfl ?_
      refine RA.steps (i' := 7) (L' := [some (.ref 110), some (.int (nI u)), some (.int x2), none, none, none, none, none, none]) (st' := [.long (Int32.toInt64 1), .long (Int32.toInt64 0), .long x2.toInt64]) (h' := h) 4 rfl ?_
      refine RA.call0 (N := mX8_isIn) (as := [.long x2.toInt64, .long (Int32.toInt64 0), .long (Int32.toInt64 1)]) (rest := []) rfl rfl rfl (isIn_f hw) ?_
      refine RA.if1F rfl rfl ?_
      refine RA.steps (i' := 10) (L' := [some (.ref 110), some (.int (nI u)), some (.int x2), none, none, none, none, none, none]) (st' := [.int (-1000000001)]) (h' := h) 1 rfl ?_
      exact RA.ret rfl rfl
  by_cases hm : ri h (82 + 2 * u) 1 = -1
  · have gS : ¬ (0 : Int32) ≤ ri h 114 u := by rw [← es, hm]; decide
    refine ⟨-1000000011, ⟨Nat.le_of_ble_eq_true rfl, ⟨_, _, rfl⟩, ?_⟩, ⟨Nat.le_of_ble_eq_true rfl, ⟨_, _, rfl⟩, ?_⟩⟩
    · show RA prog E pV1 120 mX7_whose 0 [some (.ref 0), some (.int (nI u)), some (.int x2), none, none, none, none, none] [] h (some (.int (-1000000011)), h, 0, 0)
      refine RA.steps (i' := 2) (L' := [some (.ref 0), some (.int (nI u)), some (.int x2), none, none, none, none, none]) (st' := [.int (nI u), .ref 0]) (h' := h) 2 rfl ?_
      refine RA.call0 (N := mX7_rowOf) (as := [.ref 0, .int (nI u)]) (rest := []) rfl rfl (pcallV rfl rfl ho0 rfl rfl (Nat.le_of_ble_eq_true rfl)) (rowOf_x (d := 118) hh hu) ?_
      refine RA.steps (i' := 9) (L' := [some (.ref 0), some (.int (nI u)), some (.int x2), some (.ref (82 + 2 * u)), none, none, none, none]) (st' := [.int 1, .int 0, .int x2]) (h' := h) 6 rfl ?_
      refine RA.call0 (N := mX7_within) (as := [.int x2, .int 0, .int 1]) (rest := []) rfl rfl rfl (within_t hw) ?_
      refine RA.if1T rfl rfl ?_
      refine RA.steps (i' := 14) (L' := [some (.ref 0), some (.int (nI u)), some (.int x2), some (.ref (82 + 2 * u)), none, none, none, none]) (st' := [.ref (82 + 2 * u)]) (h' := h) 1 rfl ?_
      refine RA.call0 (N := mX3_isMissing) (as := [.ref (82 + 2 * u)]) (rest := []) rfl rfl (pcallV rfl rfl hor rfl rfl (Nat.le_of_ble_eq_true rfl)) (isMis_t (d := 118) hh hu hm) ?_
      refine RA.if1F rfl rfl ?_
      refine RA.steps (i' := 17) (L' := [some (.ref 0), some (.int (nI u)), some (.int x2), some (.ref (82 + 2 * u)), none, none, none, none]) (st' := [.int (-1000000011)]) (h' := h) 1 rfl ?_
      exact RA.ret rfl rfl
    · show RA prog E pV1 120 mX8_whose 0 [some (.ref 110), some (.int (nI u)), some (.int x2), none, none, none, none, none, none] [] h (some (.int (-1000000011)), h, 0, 0)
      refine RA.steps (i' := 1) (L' := [some (.ref 110), some (.int (nI u)), some (.int x2), none, none, none, none, none, none]) (st' := [.int (nI u)]) (h' := h) 1 rfl ?_
      refine RA.call0 (N := mX8_isSheet) (as := [.int (nI u)]) (rest := []) rfl rfl rfl (isSh_t (d := 117) hs3) ?_
      refine RA.if1F rfl rfl ?_
      refine RA.steps (i' := 7) (L' := [some (.ref 110), some (.int (nI u)), some (.int x2), none, none, none, none, none, none]) (st' := [.long (Int32.toInt64 1), .long (Int32.toInt64 0), .long x2.toInt64]) (h' := h) 4 rfl ?_
      refine RA.call0 (N := mX8_isIn) (as := [.long x2.toInt64, .long (Int32.toInt64 0), .long (Int32.toInt64 1)]) (rest := []) rfl rfl rfl (isIn_t hw) ?_
      refine RA.if1T rfl rfl ?_
      refine RA.steps (i' := 12) (L' := [some (.ref 110), some (.int (nI u)), some (.int x2), none, none, none, none, none, none]) (st' := [.ref 110]) (h' := h) 1 rfl ?_
      refine RA.getf rfl ho8 rfl (hF8.ref (k := 4) rfl) ?_
      refine RA.steps (i' := 14) (L' := [some (.ref 110), some (.int (nI u)), some (.int x2), none, none, none, none, none, none]) (st' := [.int (nI u), .ref 114]) (h' := h) 1 rfl ?_
      refine RA.iald rfl pS bS eS ?_
      refine RA.if1F rfl (decide_eq_false gS) ?_
      refine RA.steps (i' := 17) (L' := [some (.ref 110), some (.int (nI u)), some (.int x2), none, none, none, none, none, none]) (st' := [.int (-1000000011)]) (h' := h) 1 rfl ?_
      exact RA.ret rfl rfl
  have gS : (0 : Int32) ≤ ri h 114 u := Int32.le_iff_toInt_le.mpr (by
    have : ¬ (ri h 114 u).toInt = -1 := fun q => hm (by rw [es]; exact Int32.toInt_inj.mp (q.trans (by decide)))
    omega)
  obtain ⟨l, el, hl0⟩ := nIof (x := ri h 115 u) z0 (by omega)
  have hl : l ≤ 24 := by omega
  have zl : ri h (82 + 2 * u) 2 = nI l := ez.trans el
  have b5 := (ri_ty (k := 8) (a := 34) (i := 5) (p := (0, 9)) hh rfl).2
  dsimp only at b5
  obtain ⟨n, en, hn0⟩ := nIof (x := ri h 34 5) b5.1 (by omega)
  have n9 : n ≤ 9 := by omega
  obtain ⟨fs34, ho34, w5, -, -⟩ := w_obj hh
  rw [en] at w5
  obtain ⟨t, p111, u111, -⟩ := hi_int hh HT111
  have e0 : t 0 = nI n := by
    rw [← u111 0 (by decide), ← hq]
    exact en
  by_cases c0 : n = 0
  · subst c0
    refine ⟨-1000000005, ⟨Nat.le_of_ble_eq_true rfl, ⟨_, _, rfl⟩, ?_⟩, ⟨Nat.le_of_ble_eq_true rfl, ⟨_, _, rfl⟩, ?_⟩⟩
    · show RA prog E pV1 120 mX7_whose 0 [some (.ref 0), some (.int (nI u)), some (.int x2), none, none, none, none, none] [] h (some (.int (-1000000005)), h, 0, 0)
      refine RA.steps (i' := 2) (L' := [some (.ref 0), some (.int (nI u)), some (.int x2), none, none, none, none, none]) (st' := [.int (nI u), .ref 0]) (h' := h) 2 rfl ?_
      refine RA.call0 (N := mX7_rowOf) (as := [.ref 0, .int (nI u)]) (rest := []) rfl rfl (pcallV rfl rfl ho0 rfl rfl (Nat.le_of_ble_eq_true rfl)) (rowOf_x (d := 118) hh hu) ?_
      refine RA.steps (i' := 9) (L' := [some (.ref 0), some (.int (nI u)), some (.int x2), some (.ref (82 + 2 * u)), none, none, none, none]) (st' := [.int 1, .int 0, .int x2]) (h' := h) 6 rfl ?_
      refine RA.call0 (N := mX7_within) (as := [.int x2, .int 0, .int 1]) (rest := []) rfl rfl rfl (within_t hw) ?_
      refine RA.if1T rfl rfl ?_
      refine RA.steps (i' := 14) (L' := [some (.ref 0), some (.int (nI u)), some (.int x2), some (.ref (82 + 2 * u)), none, none, none, none]) (st' := [.ref (82 + 2 * u)]) (h' := h) 1 rfl ?_
      refine RA.call0 (N := mX3_isMissing) (as := [.ref (82 + 2 * u)]) (rest := []) rfl rfl (pcallV rfl rfl hor rfl rfl (Nat.le_of_ble_eq_true rfl)) (isMis_f (d := 118) hh hu hm) ?_
      refine RA.if1T rfl rfl ?_
      refine RA.steps (i' := 24) (L' := [some (.ref 0), some (.int (nI u)), some (.int x2), some (.ref (82 + 2 * u)), some (.int (-1000000005)), some (.int (-1000000005)), some (.int 0), none]) (st' := []) (h' := h) 6 rfl ?_
      by_cases c : x2 = 0
      · skip
        refine RA.steps (i' := 26) (L' := [some (.ref 0), some (.int (nI u)), some (.int x2), some (.ref (82 + 2 * u)), some (.int (-1000000005)), some (.int (-1000000005)), some (.int 0), none]) (st' := [.ref 0, .int 0]) (h' := h) 2 rfl ?_
        refine RA.getf rfl ho0 rfl (hF0.ref (k := 1) rfl) ?_
        refine RA.getf rfl ho34 rfl w5 ?_
        refine RA.if2T rfl (decide_eq_true (show nI 0 ≤ 0 by decide +kernel)) ?_
        refine RA.steps (i' := 48) (L' := [some (.ref 0), some (.int (nI u)), some (.int x2), some (.ref (82 + 2 * u)), some (.int (-1000000005)), some (.int (-1000000005)), some (.int 0), none]) (st' := [.int x2]) (h' := h) 1 rfl ?_
        refine RA.if1F rfl (decide_eq_false (fun q => q c)) ?_
        refine RA.steps (i' := 52) (L' := [some (.ref 0), some (.int (nI u)), some (.int x2), some (.ref (82 + 2 * u)), some (.int (-1000000005)), some (.int (-1000000005)), some (.int 0), none]) (st' := [.int (-1000000005)]) (h' := h) 2 rfl ?_
        exact RA.ret rfl rfl
      · skip
        refine RA.steps (i' := 26) (L' := [some (.ref 0), some (.int (nI u)), some (.int x2), some (.ref (82 + 2 * u)), some (.int (-1000000005)), some (.int (-1000000005)), some (.int 0), none]) (st' := [.ref 0, .int 0]) (h' := h) 2 rfl ?_
        refine RA.getf rfl ho0 rfl (hF0.ref (k := 1) rfl) ?_
        refine RA.getf rfl ho34 rfl w5 ?_
        refine RA.if2T rfl (decide_eq_true (show nI 0 ≤ 0 by decide +kernel)) ?_
        refine RA.steps (i' := 48) (L' := [some (.ref 0), some (.int (nI u)), some (.int x2), some (.ref (82 + 2 * u)), some (.int (-1000000005)), some (.int (-1000000005)), some (.int 0), none]) (st' := [.int x2]) (h' := h) 1 rfl ?_
        refine RA.if1T rfl (decide_eq_true c) ?_
        refine RA.steps (i' := 52) (L' := [some (.ref 0), some (.int (nI u)), some (.int x2), some (.ref (82 + 2 * u)), some (.int (-1000000005)), some (.int (-1000000005)), some (.int 0), none]) (st' := [.int (-1000000005)]) (h' := h) 1 rfl ?_
        exact RA.ret rfl rfl
    · show RA prog E pV1 120 mX8_whose 0 [some (.ref 110), some (.int (nI u)), some (.int x2), none, none, none, none, none, none] [] h (some (.int (-1000000005)), h, 0, 0)
      refine RA.steps (i' := 1) (L' := [some (.ref 110), some (.int (nI u)), some (.int x2), none, none, none, none, none, none]) (st' := [.int (nI u)]) (h' := h) 1 rfl ?_
      refine RA.call0 (N := mX8_isSheet) (as := [.int (nI u)]) (rest := []) rfl rfl rfl (isSh_t (d := 117) hs3) ?_
      refine RA.if1F rfl rfl ?_
      refine RA.steps (i' := 7) (L' := [some (.ref 110), some (.int (nI u)), some (.int x2), none, none, none, none, none, none]) (st' := [.long (Int32.toInt64 1), .long (Int32.toInt64 0), .long x2.toInt64]) (h' := h) 4 rfl ?_
      refine RA.call0 (N := mX8_isIn) (as := [.long x2.toInt64, .long (Int32.toInt64 0), .long (Int32.toInt64 1)]) (rest := []) rfl rfl rfl (isIn_t hw) ?_
      refine RA.if1T rfl rfl ?_
      refine RA.steps (i' := 12) (L' := [some (.ref 110), some (.int (nI u)), some (.int x2), none, none, none, none, none, none]) (st' := [.ref 110]) (h' := h) 1 rfl ?_
      refine RA.getf rfl ho8 rfl (hF8.ref (k := 4) rfl) ?_
      refine RA.steps (i' := 14) (L' := [some (.ref 110), some (.int (nI u)), some (.int x2), none, none, none, none, none, none]) (st' := [.int (nI u), .ref 114]) (h' := h) 1 rfl ?_
      refine RA.iald rfl pS bS eS ?_
      refine RA.if1T rfl (decide_eq_true gS) ?_
      refine RA.steps (i' := 24) (L' := [some (.ref 110), some (.int (nI u)), some (.int x2), some (.int (-1)), some (.int 0), some (.int 0), none, none, none]) (st' := []) (h' := h) 6 rfl ?_
      refine RA.steps (i' := 26) (L' := [some (.ref 110), some (.int (nI u)), some (.int x2), some (.int (-1)), some (.int 0), some (.int 0), none, none, none]) (st' := [.ref 110, .int 0]) (h' := h) 2 rfl ?_
      refine RA.getf rfl ho8 rfl (hF8.ref (k := 0) rfl) ?_
      refine RA.steps (i' := 28) (L' := [some (.ref 110), some (.int (nI u)), some (.int x2), some (.int (-1)), some (.int 0), some (.int 0), none, none, none]) (st' := [.int 0, .ref 111, .int 0]) (h' := h) 1 rfl ?_
      refine RA.iald rfl p111 ⟨by decide, Nat.le_of_ble_eq_true rfl⟩ e0 ?_
      refine RA.if2T rfl (decide_eq_true (show nI 0 ≤ 0 by decide +kernel)) ?_
      refine RA.steps (i' := 85) (L' := [some (.ref 110), some (.int (nI u)), some (.int x2), some (.int (-1)), some (.int 0), some (.int 0), none, none, none]) (st' := [.int (-1)]) (h' := h) 1 rfl ?_
      refine RA.if1F rfl (decide_eq_false (show ¬ (0 : Int32) ≤ -1 by decide)) ?_
      refine RA.steps (i' := 93) (L' := [some (.ref 110), some (.int (nI u)), some (.int x2), some (.int (-1)), some (.int 0), some (.int 0), none, none, none]) (st' := [.int (-1000000005)]) (h' := h) 2 rfl ?_
      exact RA.ret rfl rfl
  obtain ⟨m, em⟩ : ∃ m : Nat, 1 + m = n := ⟨n - 1, by omega⟩
  have jm : ∀ k : Nat, k < n → (k : Int) < (ri h 34 5).toInt := fun k hk => by omega
  have hX : ∀ k : Nat, ∃ a : Int32, k < n → (Run prog E pV1 119 mX7_apart [.ref (39 + k), .ref (82 + 2 * u)] h (some (.int a), h, 0, 0) ∧ InR E h u l x2 k a) := fun k => by
    by_cases c : k < n
    · obtain ⟨a, q⟩ := ap_fn (E := E) (x2 := x2) hh hj (show k < 9 by omega) hu hl zl el (hr k (by omega) (jm k c)) hv vb
      exact ⟨a, fun _ => q⟩
    · exact ⟨0, fun q => absurd q c⟩
  obtain ⟨A, hA⟩ : ∃ A : Nat → Int32, ∀ k : Nat, k < n → (Run prog E pV1 119 mX7_apart [.ref (39 + k), .ref (82 + 2 * u)] h (some (.int (A k)), h, 0, 0) ∧ InR E h u l x2 k (A k)) := ⟨fun k => Classical.choose (hX k), fun k hk => Classical.choose_spec (hX k) hk⟩
  refine ⟨if x2 = 0 then nI (WBu A m 1 0) else A (WBu A m 1 0), ⟨Nat.le_of_ble_eq_true rfl, ⟨_, _, rfl⟩, ?_⟩, ⟨Nat.le_of_ble_eq_true rfl, ⟨_, _, rfl⟩, ?_⟩⟩
  · show RA prog E pV1 120 mX7_whose 0 [some (.ref 0), some (.int (nI u)), some (.int x2), none, none, none, none, none] [] h (some (.int (if x2 = 0 then nI (WBu A m 1 0) else A (WBu A m 1 0))), h, 0, 0)
    refine RA.steps (i' := 2) (L' := [some (.ref 0), some (.int (nI u)), some (.int x2), none, none, none, none, none]) (st' := [.int (nI u), .ref 0]) (h' := h) 2 rfl ?_
    refine RA.call0 (N := mX7_rowOf) (as := [.ref 0, .int (nI u)]) (rest := []) rfl rfl (pcallV rfl rfl ho0 rfl rfl (Nat.le_of_ble_eq_true rfl)) (rowOf_x (d := 118) hh hu) ?_
    refine RA.steps (i' := 9) (L' := [some (.ref 0), some (.int (nI u)), some (.int x2), some (.ref (82 + 2 * u)), none, none, none, none]) (st' := [.int 1, .int 0, .int x2]) (h' := h) 6 rfl ?_
    refine RA.call0 (N := mX7_within) (as := [.int x2, .int 0, .int 1]) (rest := []) rfl rfl rfl (within_t hw) ?_
    refine RA.if1T rfl rfl ?_
    refine RA.steps (i' := 14) (L' := [some (.ref 0), some (.int (nI u)), some (.int x2), some (.ref (82 + 2 * u)), none, none, none, none]) (st' := [.ref (82 + 2 * u)]) (h' := h) 1 rfl ?_
    refine RA.call0 (N := mX3_isMissing) (as := [.ref (82 + 2 * u)]) (rest := []) rfl rfl (pcallV rfl rfl hor rfl rfl (Nat.le_of_ble_eq_true rfl)) (isMis_f (d := 118) hh hu hm) ?_
    refine RA.if1T rfl rfl ?_
    refine RA.steps (i' := 24) (L' := [some (.ref 0), some (.int (nI u)), some (.int x2), some (.ref (82 + 2 * u)), some (.int (-1000000005)), some (.int (-1000000005)), some (.int 0), none]) (st' := []) (h' := h) 6 rfl ?_
    have k2 := whose_c0 (u := u) (x2 := x2) (m := m) hh ho0 (hF0.ref (k := 1) rfl) ho34 w5 n9 jm (fun k hk => (hA k hk).1) em
    rw [nI_0] at k2
    exact k2
  · show RA prog E pV1 120 mX8_whose 0 [some (.ref 110), some (.int (nI u)), some (.int x2), none, none, none, none, none, none] [] h (some (.int (if x2 = 0 then nI (WBu A m 1 0) else A (WBu A m 1 0))), h, 0, 0)
    refine RA.steps (i' := 1) (L' := [some (.ref 110), some (.int (nI u)), some (.int x2), none, none, none, none, none, none]) (st' := [.int (nI u)]) (h' := h) 1 rfl ?_
    refine RA.call0 (N := mX8_isSheet) (as := [.int (nI u)]) (rest := []) rfl rfl rfl (isSh_t (d := 117) hs3) ?_
    refine RA.if1F rfl rfl ?_
    refine RA.steps (i' := 7) (L' := [some (.ref 110), some (.int (nI u)), some (.int x2), none, none, none, none, none, none]) (st' := [.long (Int32.toInt64 1), .long (Int32.toInt64 0), .long x2.toInt64]) (h' := h) 4 rfl ?_
    refine RA.call0 (N := mX8_isIn) (as := [.long x2.toInt64, .long (Int32.toInt64 0), .long (Int32.toInt64 1)]) (rest := []) rfl rfl rfl (isIn_t hw) ?_
    refine RA.if1T rfl rfl ?_
    refine RA.steps (i' := 12) (L' := [some (.ref 110), some (.int (nI u)), some (.int x2), none, none, none, none, none, none]) (st' := [.ref 110]) (h' := h) 1 rfl ?_
    refine RA.getf rfl ho8 rfl (hF8.ref (k := 4) rfl) ?_
    refine RA.steps (i' := 14) (L' := [some (.ref 110), some (.int (nI u)), some (.int x2), none, none, none, none, none, none]) (st' := [.int (nI u), .ref 114]) (h' := h) 1 rfl ?_
    refine RA.iald rfl pS bS eS ?_
    refine RA.if1T rfl (decide_eq_true gS) ?_
    refine RA.steps (i' := 24) (L' := [some (.ref 110), some (.int (nI u)), some (.int x2), some (.int (-1)), some (.int 0), some (.int 0), none, none, none]) (st' := []) (h' := h) 6 rfl ?_
    have k2 := whose_r0 (u := u) (x2 := x2) (m := m) hh n9 ho8 (hF8.ref (k := 0) rfl) p111 e0 (fun k hk => (hA k hk).2) em
    rw [nI_0] at k2
    exact k2
end WHO
