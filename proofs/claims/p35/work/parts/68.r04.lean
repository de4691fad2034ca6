/-! ===== pour: what becomes of the marks, on both sides ===== -/
section PRX
variable {E : pX} {h : List pC}
def hvF (v : Int32) : Int32 := if 0 < (if v < 3 then v else 3) then (if v < 3 then v else 3) else 0
def wvF (v : Int32) : Int32 := if 0 ≤ v then (if v ≤ 3 then v else 3) else 0
theorem hw_eq (v : Int32) : hvF v = wvF v := by
  have t0 : (0 : Int32).toInt = 0 := by decide
  have t3 : (3 : Int32).toInt = 3 := by decide
  unfold hvF wvF
  by_cases a : v < 3
  · rw [if_pos a]
    by_cases b : 0 < v
    · rw [if_pos b, if_pos (Int32.le_of_lt b), if_pos (Int32.le_of_lt a)]
    · rw [if_neg b]
      by_cases c : 0 ≤ v
      · obtain rfl : v = 0 := Int32.toInt_inj.mp (by
          have b' : ¬ (0 : Int32).toInt < v.toInt := fun q => b (Int32.lt_iff_toInt_lt.mpr q)
          have c' := Int32.le_iff_toInt_le.mp c
          omega)
        rw [if_pos c, if_pos (Int32.le_of_lt a)]
      · rw [if_neg c]
  · have a' : ¬ v.toInt < (3 : Int32).toInt := fun q => a (Int32.lt_iff_toInt_lt.mpr q)
    rw [if_neg a, if_pos (show (0 : Int32) < 3 by decide), if_pos (Int32.le_iff_toInt_le.mpr (by omega))]
    by_cases c : v ≤ 3
    · rw [if_pos c]
      have c' := Int32.le_iff_toInt_le.mp c
      exact Int32.toInt_inj.mp (by omega)
    · rw [if_neg c]
/-- the mark of a place, behind it -/
def PM (V : Nat → Int32) (l : Nat) (M : Nat → Int32) (x : Nat) : Int32 := if x < l ∧ ¬ V x = -1000000005 then hvF (V x) else M x
def pmN (V : Nat → Int32) (l : Nat) (M : Nat → Int32) (k j : Nat) : Int32 := if j < k then PM V l M j else M j
def PC (V : Nat → Int32) (l : Nat) (M : Nat → Int32) : Nat → Nat → Int32 → Int32
  | 0, _, c => c
  | m + 1, x, c => PC V l M m (x + 1) (if PM V l M x = M x then c else c + 1)
theorem PC_s (V : Nat → Int32) (l : Nat) (M : Nat → Int32) (m x : Nat) (c : Int32) : PC V l M (m + 1) x c = PC V l M m (x + 1) (if PM V l M x = M x then c else c + 1) := rfl
section PMS
variable {V M : Nat → Int32} {l x : Nat}
theorem pmN_0 : pmN V l M 0 = M := funext fun j => if_neg (Nat.not_lt_zero j)
theorem pmN_x : pmN V l M x x = M x := if_neg (Nat.lt_irrefl x)
theorem pmN_same (e : PM V l M x = M x) : pmN V l M x = pmN V l M (x + 1) := by
  funext j
  unfold pmN
  by_cases q : j < x
  · rw [if_pos q, if_pos (by omega)]
  · rw [if_neg q]
    by_cases q2 : j = x
    · subst q2
      rw [if_pos (by omega), e]
    · rw [if_neg (by omega)]
theorem pmN_up : va_up (pmN V l M x) x (PM V l M x) = pmN V l M (x + 1) := by
  funext j
  unfold va_up pmN
  by_cases q : j = x
  · subst q
    rw [if_pos rfl, if_pos (by omega)]
  · rw [if_neg q]
    by_cases q2 : j < x
    · rw [if_pos q2, if_pos (by omega)]
    · rw [if_neg q2, if_neg (by omega)]
theorem PM_no (q : atV V l x = -1000000005) : PM V l M x = M x := by
  unfold atV at q
  unfold PM
  by_cases c : x < l
  · rw [if_pos c] at q
    rw [if_neg (fun z => z.2 q)]
  · rw [if_neg (fun z => c z.1)]
theorem PM_yes (q : ¬ atV V l x = -1000000005) : PM V l M x = hvF (atV V l x) := by
  unfold atV at q ⊢
  unfold PM
  by_cases c : x < l
  · rw [if_pos c] at q
    rw [if_pos c, if_pos ⟨c, q⟩]
  · rw [if_neg c] at q
    exact absurd rfl q
theorem PC_end : ∀ (m x : Nat) (c : Int32), l ≤ x → PC V l M m x c = c
  | 0, _, _, _ => rfl
  | m + 1, x, c, h => by
    rw [PC_s, if_pos (show PM V l M x = M x from if_neg (fun z => by have := z.1; omega))]
    exact PC_end m (x + 1) c (by omega)
theorem PM_cg {V' M' : Nat → Int32} (hv : x < l → V x = V' x) (hm : M x = M' x) : PM V l M x = PM V' l M' x := by
  unfold PM
  by_cases c : x < l
  · rw [hv c, hm]
  · rw [if_neg (fun z => c z.1), if_neg (fun z => c z.1), hm]
theorem PC_cg {V' M' : Nat → Int32} (hv : ∀ x, x < l → V x = V' x) (hm : ∀ x, x < 16 → M x = M' x) : ∀ (m x : Nat) (c : Int32), x + m ≤ 16 → PC V l M m x c = PC V' l M' m x c
  | 0, _, _, _ => rfl
  | m + 1, x, c, h => by
    rw [PC_s, PC_s, PM_cg (hv x) (hm x (by omega)), hm x (by omega)]
    exact PC_cg hv hm m (x + 1) _ (by omega)
end PMS
theorem markAt_x {d x : Nat} {M : Nat → Int32} {fs : List Value} (ho : pobj h 34 = some (6, fs)) (w1 : fs[1]? = some (.ref 35)) (hx : x < 16) (hp : pint h 35 = some (16, M)) : Run prog E pV1 (d + 1) mX6_markAt [.ref 34, .int (nI x)] h (some (.int (M x)), h, 0, 0) := by
  refine ⟨Nat.le_of_ble_eq_true rfl, ⟨_, _, rfl⟩, ?_⟩
  show RA prog E pV1 (d + 1) mX6_markAt 0 [some (.ref 34), some (.int (nI x))] [] h (some (.int (M x)), h, 0, 0)
  refine RA.steps (i' := 1) (L' := [some (.ref 34), some (.int (nI x))]) (st' := [.int (nI x)]) (h' := h) 1 rfl ?_
  refine RA.if1F rfl (decide_eq_false (Int32.not_lt.mpr (nI_cl (by omega)).1)) ?_
  refine RA.steps (i' := 4) (L' := [some (.ref 34), some (.int (nI x))]) (st' := [.ref 34, .int (nI x)]) (h' := h) 2 rfl ?_
  refine RA.getf rfl ho rfl w1 ?_
  refine RA.alenI rfl hp ?_
  refine RA.if2F rfl (decide_eq_false (Int32.not_le.mpr (nI_lt hx (by decide)))) ?_
  refine RA.steps (i' := 8) (L' := [some (.ref 34), some (.int (nI x))]) (st' := [.ref 34]) (h' := h) 1 rfl ?_
  refine RA.getf rfl ho rfl w1 ?_
  refine RA.steps (i' := 10) (L' := [some (.ref 34), some (.int (nI x))]) (st' := [.int (nI x), .ref 35]) (h' := h) 1 rfl ?_
  refine RA.iald rfl hp ⟨(nI_cl (by omega)).1, by rw [(nI_cl (by omega)).2]; exact hx⟩ (by rw [(nI_cl (by omega)).2]) ?_
  refine RA.steps (i' := 13) (L' := [some (.ref 34), some (.int (nI x))]) (st' := [.int (M x)]) (h' := h) 1 rfl ?_
  exact RA.ret rfl rfl
theorem carveAt_x {d x : Nat} {M : Nat → Int32} {w : Int32} {fs : List Value} (ho : pobj h 34 = some (6, fs)) (w1 : fs[1]? = some (.ref 35)) (hx : x < 16) (hp : pint h 35 = some (16, M)) : Run prog E pV1 (d + 1) mX6_carveAt [.ref 34, .int (nI x), .int w] h (none, h.set 35 (.inl (16, va_up M x w)), 0, 0) := by
  have e : (nI x).toNatClampNeg = x := (nI_cl (by omega)).2
  refine ⟨Nat.le_of_ble_eq_true rfl, ⟨_, _, rfl⟩, ?_⟩
  show RA prog E pV1 (d + 1) mX6_carveAt 0 [some (.ref 34), some (.int (nI x)), some (.int w)] [] h (none, h.set 35 (.inl (16, va_up M x w)), 0, 0)
  rw [show va_up M x w = va_up M (nI x).toNatClampNeg w by rw [e]]
  refine RA.steps (i' := 1) (L' := [some (.ref 34), some (.int (nI x)), some (.int w)]) (st' := [.int (nI x)]) (h' := h) 1 rfl ?_
  refine RA.if1F rfl (decide_eq_false (Int32.not_lt.mpr (nI_cl (by omega)).1)) ?_
  refine RA.steps (i' := 4) (L' := [some (.ref 34), some (.int (nI x)), some (.int w)]) (st' := [.ref 34, .int (nI x)]) (h' := h) 2 rfl ?_
  refine RA.getf rfl ho rfl w1 ?_
  refine RA.alenI rfl hp ?_
  refine RA.if2F rfl (decide_eq_false (Int32.not_le.mpr (nI_lt hx (by decide)))) ?_
  refine RA.steps (i' := 8) (L' := [some (.ref 34), some (.int (nI x)), some (.int w)]) (st' := [.ref 34]) (h' := h) 1 rfl ?_
  refine RA.getf rfl ho rfl w1 ?_
  refine RA.steps (i' := 11) (L' := [some (.ref 34), some (.int (nI x)), some (.int w)]) (st' := [.int w, .int (nI x), .ref 35]) (h' := h) 2 rfl ?_
  refine RA.iast rfl hp ⟨(nI_cl (by omega)).1, by rw [(nI_cl (by omega)).2]; exact hx⟩ ?_
  exact RA.ret rfl rfl
theorem held_x {d : Nat} {v : Int32} : Run prog E pV1 (d + 1) mX7_held [.int v, .int 0, .int 3] h (some (.int (hvF v)), h, 0, 0) := by
  refine ⟨Nat.le_of_ble_eq_true rfl, ⟨_, _, rfl⟩, ?_⟩
  show RA prog E pV1 (d + 1) mX7_held 0 [some (.int v), some (.int 0), some (.int 3)] [] h (some (.int (hvF v)), h, 0, 0)
  refine RA.steps (i' := 5) (L' := [some (.int v), some (.int 0), some (.int 3)]) (st' := [.int (if 0 < (if v < 3 then v else 3) then (if v < 3 then v else 3) else 0)]) (h' := h) 5 rfl ?_
  exact RA.ret rfl rfl
theorem within8_x {d : Nat} {v : Int32} : Run prog E pV1 (d + 1) mX8_within [.int v, .int 3] h (some (.int (wvF v)), h, 0, 0) := by
  refine ⟨Nat.le_of_ble_eq_true rfl, ⟨_, _, rfl⟩, ?_⟩
  show RA prog E pV1 (d + 1) mX8_within 0 [some (.int v), some (.int 3)] [] h (some (.int (wvF v)), h, 0, 0)
  unfold wvF
  refine RA.steps (i' := 1) (L' := [some (.int v), some (.int 3)]) (st' := [.int v]) (h' := h) 1 rfl ?_
  by_cases a : 0 ≤ v
  · rw [if_pos a]
    refine RA.if1T rfl (decide_eq_true a) ?_
    refine RA.steps (i' := 6) (L' := [some (.int v), some (.int 3)]) (st' := [.int 3, .int v]) (h' := h) 2 rfl ?_
    by_cases b : v ≤ 3
    · rw [if_pos b]
      refine RA.if2T rfl (decide_eq_true b) ?_
      refine RA.steps (i' := 10) (L' := [some (.int v), some (.int 3)]) (st' := [.int v]) (h' := h) 1 rfl ?_
      exact RA.ret rfl rfl
    · rw [if_neg b]
      refine RA.if2F rfl (decide_eq_false b) ?_
      refine RA.steps (i' := 10) (L' := [some (.int v), some (.int 3)]) (st' := [.int 3]) (h' := h) 2 rfl ?_
      exact RA.ret rfl rfl
  · rw [if_neg a]
    refine RA.if1F rfl (decide_eq_false a) ?_
    refine RA.steps (i' := 10) (L' := [some (.int v), some (.int 3)]) (st' := [.int 0]) (h' := h) 2 rfl ?_
    exact RA.ret rfl rfl
theorem becomes_x {d i : Nat} {tt : Nat → Int32} {w : Int32} {fs : List Value} (ho : pobj h 110 = some (8, fs)) (w0 : fs[0]? = some (.ref 111)) (hi : i < 3075) (hp : pint h 111 = some (3075, tt)) : Run prog E pV1 (d + 1) mX8_becomes [.ref 110, .int (nI i), .int w] h (some (.int (tt i)), h.set 111 (.inl (3075, va_up tt i w)), 0, 0) := by
  have e : (nI i).toNatClampNeg = i := (nI_cl (by omega)).2
  refine ⟨Nat.le_of_ble_eq_true rfl, ⟨_, _, rfl⟩, ?_⟩
  show RA prog E pV1 (d + 1) mX8_becomes 0 [some (.ref 110), some (.int (nI i)), some (.int w), none] [] h (some (.int (tt i)), h.set 111 (.inl (3075, va_up tt i w)), 0, 0)
  rw [show va_up tt i w = va_up tt (nI i).toNatClampNeg w by rw [e]]
  refine RA.steps (i' := 1) (L' := [some (.ref 110), some (.int (nI i)), some (.int w), none]) (st' := [.ref 110]) (h' := h) 1 rfl ?_
  refine RA.getf rfl ho rfl w0 ?_
  refine RA.steps (i' := 3) (L' := [some (.ref 110), some (.int (nI i)), some (.int w), none]) (st' := [.int (nI i), .ref 111]) (h' := h) 1 rfl ?_
  refine RA.iald rfl hp ⟨(nI_cl (by omega)).1, by rw [(nI_cl (by omega)).2]; exact hi⟩ (by rw [(nI_cl (by omega)).2]) ?_
  refine RA.steps (i' := 6) (L' := [some (.ref 110), some (.int (nI i)), some (.int w), some (.int (tt i))]) (st' := [.ref 110]) (h' := h) 2 rfl ?_
  refine RA.getf rfl ho rfl w0 ?_
  refine RA.steps (i' := 9) (L' := [some (.ref 110), some (.int (nI i)), some (.int w), some (.int (tt i))]) (st' := [.int w, .int (nI i), .ref 111]) (h' := h) 2 rfl ?_
  refine RA.iast rfl hp ⟨(nI_cl (by omega)).1, by rw [(nI_cl (by omega)).2]; exact hi⟩ ?_
  refine RA.steps (i' := 11) (L' := [some (.ref 110), some (.int (nI i)), some (.int w), some (.int (tt i))]) (st' := [.int (tt i)]) (h' := (h.set 111 (.inl (3075, va_up tt (nI i).toNatClampNeg w)))) 1 rfl ?_
  exact RA.ret rfl rfl
theorem pour_cl {u l : Nat} {V M : Nat → Int32} {x1 : Int32} {fs0 fsr fsw : List Value} (hu : u < 4) (hl : l ≤ 24) (f1 : fs0[1]? = some (.ref 34)) (r0 : fsr[0]? = some (.ref (83 + 2 * u))) (r2 : fsr[2]? = some (.int (nI l))) (w1 : fsw[1]? = some (.ref 35)) : ∀ (m x : Nat) (c : Int32) (o5 o6 : Option Value) (h : List pC), x + m = 16 → pobj h 0 = some (7, fs0) → pobj h (82 + 2 * u) = some (3, fsr) → pobj h 34 = some (6, fsw) → pint h (83 + 2 * u) = some (24, V) → pint h 35 = some (16, pmN V l M x) → RA prog E pV1 120 mX7_pour 17 [some (.ref 0), some (.int x1), some (.ref (82 + 2 * u)), some (.int c), some (.int (nI x)), o5, o6] [] h (some (.int (PC V l M m x c)), h.set 35 (.inl (16, pmN V l M 16)), 0, 0) := by
  intro m
  induction m with
  | zero =>
    intro x c o5 o6 h hx ho0 hor ho34 pv pm
    obtain rfl : x = 16 := by omega
    show RA prog E pV1 120 mX7_pour 17 [some (.ref 0), some (.int x1), some (.ref (82 + 2 * u)), some (.int c), some (.int (nI 16)), o5, o6] [] h (some (.int c), h.set 35 (.inl (16, pmN V l M 16)), 0, 0)
    rw [set_sameI pm]
    refine RA.steps (i' := 19) (L' := [some (.ref 0), some (.int x1), some (.ref (82 + 2 * u)), some (.int c), some (.int (nI 16)), o5, o6]) (st' := [.int 16, .int (nI 16)]) (h' := h) 2 rfl ?_
    refine RA.if2T rfl (decide_eq_true (show nI 16 ≤ nI 16 from Int32.le_refl _)) ?_
    refine RA.steps (i' := 47) (L' := [some (.ref 0), some (.int x1), some (.ref (82 + 2 * u)), some (.int c), some (.int (nI 16)), o5, o6]) (st' := [.int c]) (h' := h) 1 rfl ?_
    exact RA.ret rfl rfl
  | succ m ih =>
    intro x c o5 o6 h hx ho0 hor ho34 pv pm
    have hx16 : x < 16 := by omega
    rw [PC_s]
    refine RA.steps (i' := 19) (L' := [some (.ref 0), some (.int x1), some (.ref (82 + 2 * u)), some (.int c), some (.int (nI x)), o5, o6]) (st' := [.int 16, .int (nI x)]) (h' := h) 2 rfl ?_
    refine RA.if2F rfl (decide_eq_false (show ¬ nI 16 ≤ nI x from nI_ge hx16 (by omega))) ?_
    refine RA.steps (i' := 22) (L' := [some (.ref 0), some (.int x1), some (.ref (82 + 2 * u)), some (.int c), some (.int (nI x)), o5, o6]) (st' := [.int (nI x), .ref (82 + 2 * u)]) (h' := h) 2 rfl ?_
    refine RA.call0 (N := mX3_at) (as := [.ref (82 + 2 * u), .int (nI x)]) (rest := []) rfl rfl (pcallV rfl rfl hor rfl rfl (Nat.le_of_ble_eq_true rfl)) (at_x (d := 117) hor r0 r2 (by omega) pv) ?_
    refine RA.steps (i' := 27) (L' := [some (.ref 0), some (.int x1), some (.ref (82 + 2 * u)), some (.int c), some (.int (nI x)), some (.int (atV V l x)), o6]) (st' := [.int 3, .int 0, .int (atV V l x)]) (h' := h) 4 rfl ?_
    refine RA.call0 (N := mX7_held) (as := [.int (atV V l x), .int 0, .int 3]) (rest := []) rfl rfl rfl (held_x (d := 118)) ?_
    refine RA.steps (i' := 31) (L' := [some (.ref 0), some (.int x1), some (.ref (82 + 2 * u)), some (.int c), some (.int (nI x)), some (.int (atV V l x)), some (.int (hvF (atV V l x)))]) (st' := [.int (-1000000005), .int (atV V l x)]) (h' := h) 3 rfl ?_
    by_cases cn : atV V l x = -1000000005
    · have ep : PM V l M x = M x := PM_no cn
      rw [if_pos ep]
      have key := ih (x + 1) c (some (.int (atV V l x))) (some (.int (hvF (atV V l x)))) h (by omega) ho0 hor ho34 pv (by rw [← pmN_same ep]; exact pm)
      refine RA.if2T rfl (decide_eq_true cn) ?_
      refine RA.iinc rfl rfl (nI_1 x) rfl ?_
      refine RA.steps (i' := 17) (L' := [some (.ref 0), some (.int x1), some (.ref (82 + 2 * u)), some (.int c), some (.int (nI (x + 1))), some (.int (atV V l x)), some (.int (hvF (atV V l x)))]) (st' := []) (h' := h) 1 rfl ?_
      exact key
    have ey : PM V l M x = hvF (atV V l x) := PM_yes cn
    refine RA.if2F rfl (decide_eq_false cn) ?_
    refine RA.steps (i' := 34) (L' := [some (.ref 0), some (.int x1), some (.ref (82 + 2 * u)), some (.int c), some (.int (nI x)), some (.int (atV V l x)), some (.int (hvF (atV V l x)))]) (st' := [.ref 0, .int (hvF (atV V l x))]) (h' := h) 2 rfl ?_
    refine RA.getf rfl ho0 rfl f1 ?_
    refine RA.steps (i' := 36) (L' := [some (.ref 0), some (.int x1), some (.ref (82 + 2 * u)), some (.int c), some (.int (nI x)), some (.int (atV V l x)), some (.int (hvF (atV V l x)))]) (st' := [.int (nI x), .ref 34, .int (hvF (atV V l x))]) (h' := h) 1 rfl ?_
    refine RA.call0 (N := mX6_markAt) (as := [.ref 34, .int (nI x)]) (rest := [.int (hvF (atV V l x))]) rfl rfl (pcallV rfl rfl ho34 rfl rfl (Nat.le_of_ble_eq_true rfl)) (markAt_x (d := 118) ho34 w1 hx16 pm) ?_
    by_cases ce : hvF (atV V l x) = pmN V l M x x
    · have ep : PM V l M x = M x := by rw [ey, ce, pmN_x]
      rw [if_pos ep]
      have key := ih (x + 1) c (some (.int (atV V l x))) (some (.int (hvF (atV V l x)))) h (by omega) ho0 hor ho34 pv (by rw [← pmN_same ep]; exact pm)
      refine RA.if2T rfl (decide_eq_true ce) ?_
      refine RA.iinc rfl rfl (nI_1 x) rfl ?_
      refine RA.steps (i' := 17) (L' := [some (.ref 0), some (.int x1), some (.ref (82 + 2 * u)), some (.int c), some (.int (nI (x + 1))), some (.int (atV V l x)), some (.int (hvF (atV V l x)))]) (st' := []) (h' := h) 1 rfl ?_
      exact key
    · have ep : ¬ PM V l M x = M x := fun q => ce (by rw [← ey, q, pmN_x])
      rw [if_neg ep]
      have key := ih (x + 1) (c + 1) (some (.int (atV V l x))) (some (.int (hvF (atV V l x)))) (h.set 35 (.inl (16, va_up (pmN V l M x) x (hvF (atV V l x))))) (by omega) ((pobj_ne (by decide)).trans ho0) ((pobj_ne (by omega)).trans hor) ((pobj_ne (by decide)).trans ho34) ((pint_ne (by omega)).trans pv) (by rw [← ey, pmN_up]; exact pint_set (pint_lt pm))
      rw [List.set_set] at key
      refine RA.if2F rfl (decide_eq_false ce) ?_
      refine RA.steps (i' := 39) (L' := [some (.ref 0), some (.int x1), some (.ref (82 + 2 * u)), some (.int c), some (.int (nI x)), some (.int (atV V l x)), some (.int (hvF (atV V l x)))]) (st' := [.ref 0]) (h' := h) 1 rfl ?_
      refine RA.getf rfl ho0 rfl f1 ?_
      refine RA.steps (i' := 42) (L' := [some (.ref 0), some (.int x1), some (.ref (82 + 2 * u)), some (.int c), some (.int (nI x)), some (.int (atV V l x)), some (.int (hvF (atV V l x)))]) (st' := [.int (hvF (atV V l x)), .int (nI x), .ref 34]) (h' := h) 2 rfl ?_
      refine RA.call0 (N := mX6_carveAt) (as := [.ref 34, .int (nI x), .int (hvF (atV V l x))]) (rest := []) rfl rfl (pcallV rfl rfl ho34 rfl rfl (Nat.le_of_ble_eq_true rfl)) (carveAt_x (d := 118) ho34 w1 hx16 pm) ?_
      refine RA.iinc rfl rfl rfl rfl ?_
      refine RA.iinc rfl rfl (nI_1 x) rfl ?_
      refine RA.steps (i' := 17) (L' := [some (.ref 0), some (.int x1), some (.ref (82 + 2 * u)), some (.int (c + 1)), some (.int (nI (x + 1))), some (.int (atV V l x)), some (.int (hvF (atV V l x)))]) (st' := []) (h' := (h.set 35 (.inl (16, va_up (pmN V l M x) x (hvF (atV V l x)))))) 1 rfl ?_
      exact key
/-- the reference's row of numbers, when k marks are poured -/
def tN (T t : Nat → Int32) (u l k j : Nat) : Int32 := if 5 ≤ j ∧ j < 5 + k then PM (fun i => T (24 * u + i)) l (fun i => t (5 + i)) (j - 5) else t j
theorem tN_0 {T t : Nat → Int32} {u l : Nat} : tN T t u l 0 = t := by
  funext j
  unfold tN
  rw [if_neg (by omega)]
theorem tN_x {T t : Nat → Int32} {u l k : Nat} : tN T t u l k (5 + k) = t (5 + k) := by
  unfold tN
  rw [if_neg (by omega)]
theorem tN_up {T t : Nat → Int32} {u l k : Nat} : va_up (tN T t u l k) (5 + k) (PM (fun i => T (24 * u + i)) l (fun i => t (5 + i)) k) = tN T t u l (k + 1) := by
  funext j
  unfold va_up tN
  by_cases q : j = 5 + k
  · subst q
    rw [if_pos rfl, if_pos ⟨by omega, by omega⟩, show 5 + k - 5 = k by omega]
  · rw [if_neg q]
    by_cases q2 : 5 ≤ j ∧ j < 5 + k
    · rw [if_pos q2, if_pos ⟨q2.1, by omega⟩]
    · rw [if_neg q2, if_neg (fun z => q2 ⟨z.1, by omega⟩)]
theorem e5 (k : Nat) : (5 + nI k : Int32) = nI (5 + k) := by
  rw [show (5 : Int32) = nI 5 by decide +kernel, nI_add]
theorem pour_rl {u l : Nat} {T t gz : Nat → Int32} {fs : List Value} (hu : u < 4) (hl : l ≤ 24) (f0 : fs[0]? = some (.ref 111)) (f5 : fs[5]? = some (.ref 115)) (f6 : fs[6]? = some (.ref 116)) (ez : gz (nI u).toNatClampNeg = nI l) : ∀ (m k : Nat) (c : Int32) (o4 o5 : Option Value) (h : List pC), k + m = min l 16 → pobj h 110 = some (8, fs) → pint h 115 = some (4, gz) → pint h 116 = some (96, T) → pint h 111 = some (3075, tN T t u l k) → RA prog E pV1 120 mX8_pour 16 [some (.ref 110), some (.int (nI u)), some (.int c), some (.int (nI k)), o4, o5] [] h (some (.int (PC (fun j => T (24 * u + j)) l (fun j => t (5 + j)) (16 - k) k c)), h.set 111 (.inl (3075, tN T t u l (min l 16))), 0, 0) := by
  intro m
  induction m with
  | zero =>
    intro k c o4 o5 h hk ho8 pz pT pt
    rw [show min l 16 = k by omega, set_sameI pt]
    by_cases hkl : l ≤ k
    · rw [PC_end _ _ _ hkl]
      refine RA.steps (i' := 18) (L' := [some (.ref 110), some (.int (nI u)), some (.int c), some (.int (nI k)), o4, o5]) (st' := [.ref 110, .int (nI k)]) (h' := h) 2 rfl ?_
      refine RA.getf rfl ho8 rfl f5 ?_
      refine RA.steps (i' := 20) (L' := [some (.ref 110), some (.int (nI u)), some (.int c), some (.int (nI k)), o4, o5]) (st' := [.int (nI u), .ref 115, .int (nI k)]) (h' := h) 1 rfl ?_
      refine RA.iald rfl pz ⟨(nI_cl (by omega)).1, by rw [(nI_cl (by omega)).2]; exact hu⟩ ez ?_
      refine RA.if2T rfl (decide_eq_true (nI_le hkl (by omega))) ?_
      refine RA.steps (i' := 65) (L' := [some (.ref 110), some (.int (nI u)), some (.int c), some (.int (nI k)), o4, o5]) (st' := [.int c]) (h' := h) 1 rfl ?_
      exact RA.ret rfl rfl
    · have hk16 : 16 ≤ k := by omega
      have hkl : k < l := by omega
      rw [show 16 - k = 0 by omega]
      show RA prog E pV1 120 mX8_pour 16 [some (.ref 110), some (.int (nI u)), some (.int c), some (.int (nI k)), o4, o5] [] h (some (.int c), h, 0, 0)
      refine RA.steps (i' := 18) (L' := [some (.ref 110), some (.int (nI u)), some (.int c), some (.int (nI k)), o4, o5]) (st' := [.ref 110, .int (nI k)]) (h' := h) 2 rfl ?_
      refine RA.getf rfl ho8 rfl f5 ?_
      refine RA.steps (i' := 20) (L' := [some (.ref 110), some (.int (nI u)), some (.int c), some (.int (nI k)), o4, o5]) (st' := [.int (nI u), .ref 115, .int (nI k)]) (h' := h) 1 rfl ?_
      refine RA.iald rfl pz ⟨(nI_cl (by omega)).1, by rw [(nI_cl (by omega)).2]; exact hu⟩ ez ?_
      refine RA.if2F rfl (decide_eq_false (Int32.not_le.mpr (nI_lt hkl (by omega)))) ?_
      refine RA.steps (i' := 24) (L' := [some (.ref 110), some (.int (nI u)), some (.int c), some (.int (nI k)), o4, o5]) (st' := [.int 16, .int (nI k)]) (h' := h) 2 rfl ?_
      refine RA.if2T rfl (decide_eq_true (show nI 16 ≤ nI k from nI_le hk16 (by omega))) ?_
      refine RA.steps (i' := 65) (L' := [some (.ref 110), some (.int (nI u)), some (.int c), some (.int (nI k)), o4, o5]) (st' := [.int c]) (h' := h) 1 rfl ?_
      exact RA.ret rfl rfl
  | succ m ih =>
    intro k c o4 o5 h hk ho8 pz pT pt
    have hkl : k < l := by omega
    have hk16 : k < 16 := by omega
    have tcur : tN T t u l k (5 + k) = t (5 + k) := tN_x
    rw [show 16 - k = 16 - (k + 1) + 1 by omega, PC_s]
    have tail : RA prog E pV1 120 mX8_pour 47 [some (.ref 110), some (.int (nI u)), some (.int c), some (.int (nI k)), some (.int (T (24 * u + k))), o5] [.int (PM (fun j => T (24 * u + j)) l (fun j => t (5 + j)) k)] h (some (.int (PC (fun j => T (24 * u + j)) l (fun j => t (5 + j)) (16 - (k + 1)) (k + 1) (if (PM (fun j => T (24 * u + j)) l (fun j => t (5 + j)) k) = t (5 + k) then c else c + 1))), h.set 111 (.inl (3075, tN T t u l (min l 16))), 0, 0) := by
      have key := fun c' => ih (k + 1) c' (some (.int (T (24 * u + k)))) (some (.int (PM (fun j => T (24 * u + j)) l (fun j => t (5 + j)) k))) (h.set 111 (.inl (3075, va_up (tN T t u l k) (5 + k) (PM (fun j => T (24 * u + j)) l (fun j => t (5 + j)) k)))) (by omega) ((pobj_ne (by decide)).trans ho8) ((pint_ne (by decide)).trans pz) ((pint_ne (by decide)).trans pT) (by rw [tN_up]; exact pint_set (pint_lt pt))
      by_cases ce : (PM (fun j => T (24 * u + j)) l (fun j => t (5 + j)) k) = t (5 + k)
      · rw [if_pos ce]
        have key := key c
        rw [List.set_set] at key
        refine RA.steps (i' := 54) (L' := [some (.ref 110), some (.int (nI u)), some (.int c), some (.int (nI k)), some (.int (T (24 * u + k))), some (.int (PM (fun j => T (24 * u + j)) l (fun j => t (5 + j)) k))]) (st' := [.int (5 + (nI k)), .ref 110, .int (PM (fun j => T (24 * u + j)) l (fun j => t (5 + j)) k), .int c]) (h' := h) 7 rfl ?_
        rw [(e5 k)]
        refine RA.steps (i' := 55) (L' := [some (.ref 110), some (.int (nI u)), some (.int c), some (.int (nI k)), some (.int (T (24 * u + k))), some (.int (PM (fun j => T (24 * u + j)) l (fun j => t (5 + j)) k))]) (st' := [.int (PM (fun j => T (24 * u + j)) l (fun j => t (5 + j)) k), .int (nI (5 + k)), .ref 110, .int (PM (fun j => T (24 * u + j)) l (fun j => t (5 + j)) k), .int c]) (h' := h) 1 rfl ?_
        refine RA.call0 (N := mX8_becomes) (as := [.ref 110, .int (nI (5 + k)), .int (PM (fun j => T (24 * u + j)) l (fun j => t (5 + j)) k)]) (rest := [.int (PM (fun j => T (24 * u + j)) l (fun j => t (5 + j)) k), .int c]) rfl rfl (pcallV rfl rfl ho8 rfl rfl (Nat.le_of_ble_eq_true rfl)) (becomes_x (d := 118) ho8 f0 (by omega) pt) ?_
        refine RA.if2F rfl (decide_eq_false (fun q => q (ce.trans tcur.symm))) ?_
        refine RA.steps (i' := 61) (L' := [some (.ref 110), some (.int (nI u)), some (.int c), some (.int (nI k)), some (.int (T (24 * u + k))), some (.int (PM (fun j => T (24 * u + j)) l (fun j => t (5 + j)) k))]) (st' := [.int (c + 0)]) (h' := (h.set 111 (.inl (3075, va_up (tN T t u l k) (5 + k) (PM (fun j => T (24 * u + j)) l (fun j => t (5 + j)) k))))) 3 rfl ?_
        rw [(Int32.add_zero c)]
        refine RA.steps (i' := 62) (L' := [some (.ref 110), some (.int (nI u)), some (.int c), some (.int (nI k)), some (.int (T (24 * u + k))), some (.int (PM (fun j => T (24 * u + j)) l (fun j => t (5 + j)) k))]) (st' := []) (h' := (h.set 111 (.inl (3075, va_up (tN T t u l k) (5 + k) (PM (fun j => T (24 * u + j)) l (fun j => t (5 + j)) k))))) 1 rfl ?_
        refine RA.iinc rfl rfl (nI_1 k) rfl ?_
        refine RA.steps (i' := 16) (L' := [some (.ref 110), some (.int (nI u)), some (.int c), some (.int (nI (k + 1))), some (.int (T (24 * u + k))), some (.int (PM (fun j => T (24 * u + j)) l (fun j => t (5 + j)) k))]) (st' := []) (h' := (h.set 111 (.inl (3075, va_up (tN T t u l k) (5 + k) (PM (fun j => T (24 * u + j)) l (fun j => t (5 + j)) k))))) 1 rfl ?_
        exact key
      · rw [if_neg ce]
        have key := key (c + 1)
        rw [List.set_set] at key
        refine RA.steps (i' := 54) (L' := [some (.ref 110), some (.int (nI u)), some (.int c), some (.int (nI k)), some (.int (T (24 * u + k))), some (.int (PM (fun j => T (24 * u + j)) l (fun j => t (5 + j)) k))]) (st' := [.int (5 + (nI k)), .ref 110, .int (PM (fun j => T (24 * u + j)) l (fun j => t (5 + j)) k), .int c]) (h' := h) 7 rfl ?_
        rw [(e5 k)]
        refine RA.steps (i' := 55) (L' := [some (.ref 110), some (.int (nI u)), some (.int c), some (.int (nI k)), some (.int (T (24 * u + k))), some (.int (PM (fun j => T (24 * u + j)) l (fun j => t (5 + j)) k))]) (st' := [.int (PM (fun j => T (24 * u + j)) l (fun j => t (5 + j)) k), .int (nI (5 + k)), .ref 110, .int (PM (fun j => T (24 * u + j)) l (fun j => t (5 + j)) k), .int c]) (h' := h) 1 rfl ?_
        refine RA.call0 (N := mX8_becomes) (as := [.ref 110, .int (nI (5 + k)), .int (PM (fun j => T (24 * u + j)) l (fun j => t (5 + j)) k)]) (rest := [.int (PM (fun j => T (24 * u + j)) l (fun j => t (5 + j)) k), .int c]) rfl rfl (pcallV rfl rfl ho8 rfl rfl (Nat.le_of_ble_eq_true rfl)) (becomes_x (d := 118) ho8 f0 (by omega) pt) ?_
        refine RA.if2T rfl (decide_eq_true (fun q => ce (q.trans tcur))) ?_
        refine RA.steps (i' := 62) (L' := [some (.ref 110), some (.int (nI u)), some (.int (c + 1)), some (.int (nI k)), some (.int (T (24 * u + k))), some (.int (PM (fun j => T (24 * u + j)) l (fun j => t (5 + j)) k))]) (st' := []) (h' := (h.set 111 (.inl (3075, va_up (tN T t u l k) (5 + k) (PM (fun j => T (24 * u + j)) l (fun j => t (5 + j)) k))))) 3 rfl ?_
        refine RA.iinc rfl rfl (nI_1 k) rfl ?_
        refine RA.steps (i' := 16) (L' := [some (.ref 110), some (.int (nI u)), some (.int (c + 1)), some (.int (nI (k + 1))), some (.int (T (24 * u + k))), some (.int (PM (fun j => T (24 * u + j)) l (fun j => t (5 + j)) k))]) (st' := []) (h' := (h.set 111 (.inl (3075, va_up (tN T t u l k) (5 + k) (PM (fun j => T (24 * u + j)) l (fun j => t (5 + j)) k))))) 1 rfl ?_
        exact key
    refine RA.steps (i' := 18) (L' := [some (.ref 110), some (.int (nI u)), some (.int c), some (.int (nI k)), o4, o5]) (st' := [.ref 110, .int (nI k)]) (h' := h) 2 rfl ?_
    refine RA.getf rfl ho8 rfl f5 ?_
    refine RA.steps (i' := 20) (L' := [some (.ref 110), some (.int (nI u)), some (.int c), some (.int (nI k)), o4, o5]) (st' := [.int (nI u), .ref 115, .int (nI k)]) (h' := h) 1 rfl ?_
    refine RA.iald rfl pz ⟨(nI_cl (by omega)).1, by rw [(nI_cl (by omega)).2]; exact hu⟩ ez ?_
    refine RA.if2F rfl (decide_eq_false (Int32.not_le.mpr (nI_lt hkl (by omega)))) ?_
    refine RA.steps (i' := 24) (L' := [some (.ref 110), some (.int (nI u)), some (.int c), some (.int (nI k)), o4, o5]) (st' := [.int 16, .int (nI k)]) (h' := h) 2 rfl ?_
    refine RA.if2F rfl (decide_eq_false (show ¬ nI 16 ≤ nI k from nI_ge hk16 (by omega))) ?_
    refine RA.steps (i' := 26) (L' := [some (.ref 110), some (.int (nI u)), some (.int c), some (.int (nI k)), o4, o5]) (st' := [.ref 110]) (h' := h) 1 rfl ?_
    refine RA.getf rfl ho8 rfl f6 ?_
    refine RA.steps (i' := 32) (L' := [some (.ref 110), some (.int (nI u)), some (.int c), some (.int (nI k)), o4, o5]) (st' := [.int ((24 * (nI u)) + (nI k)), .ref 116]) (h' := h) 5 rfl ?_
    rw [(eAdr hu)]
    refine RA.iald rfl pT ⟨(nI_cl (by omega)).1, by rw [(nI_cl (by omega)).2]; show 24 * u + k < 96; omega⟩ (by rw [(nI_cl (by omega)).2]) ?_
    refine RA.steps (i' := 36) (L' := [some (.ref 110), some (.int (nI u)), some (.int c), some (.int (nI k)), some (.int (T (24 * u + k))), o5]) (st' := [.int (-1000000005), .int (T (24 * u + k))]) (h' := h) 3 rfl ?_
    by_cases cn : T (24 * u + k) = -1000000005
    · have ep : (PM (fun j => T (24 * u + j)) l (fun j => t (5 + j)) k) = t (5 + k) := if_neg (fun z => z.2 cn)
      refine RA.if2F rfl (decide_eq_false (fun q => q cn)) ?_
      refine RA.steps (i' := 38) (L' := [some (.ref 110), some (.int (nI u)), some (.int c), some (.int (nI k)), some (.int (T (24 * u + k))), o5]) (st' := [.ref 110]) (h' := h) 1 rfl ?_
      refine RA.getf rfl ho8 rfl f0 ?_
      refine RA.steps (i' := 42) (L' := [some (.ref 110), some (.int (nI u)), some (.int c), some (.int (nI k)), some (.int (T (24 * u + k))), o5]) (st' := [.int (5 + (nI k)), .ref 111]) (h' := h) 3 rfl ?_
      rw [(e5 k)]
      refine RA.iald (w := (t (5 + k))) rfl pt ⟨(nI_cl (by omega)).1, by rw [(nI_cl (by omega)).2]; show 5 + k < 3075; omega⟩ (by rw [(nI_cl (by omega)).2]; exact tcur) ?_
      refine RA.steps (i' := 47) (L' := [some (.ref 110), some (.int (nI u)), some (.int c), some (.int (nI k)), some (.int (T (24 * u + k))), o5]) (st' := [.int (t (5 + k))]) (h' := h) 1 rfl ?_
      rw [ep] at tail
      rw [ep]
      exact tail
    · have ep : (PM (fun j => T (24 * u + j)) l (fun j => t (5 + j)) k) = wvF (T (24 * u + k)) := (if_pos ⟨hkl, cn⟩).trans (hw_eq _)
      refine RA.if2T rfl (decide_eq_true cn) ?_
      refine RA.steps (i' := 46) (L' := [some (.ref 110), some (.int (nI u)), some (.int c), some (.int (nI k)), some (.int (T (24 * u + k))), o5]) (st' := [.int 3, .int (T (24 * u + k))]) (h' := h) 2 rfl ?_
      refine RA.call0 (N := mX8_within) (as := [.int (T (24 * u + k)), .int 3]) (rest := []) rfl rfl rfl (within8_x (d := 118)) ?_
      rw [← ep]
      exact tail
def Wpc : aW := [(35, 35, 0, 15)]
def Wpr : aW := [(111, 111, 5, 20)]
/-- the marks are alike -/
def RMk (h : List pC) : Prop := ∀ i : Nat, i < 16 → ri h 35 i = ri h 111 (5 + i)
def TwoM (E : pX) (M1 M2 : pM) (as1 as2 : List Value) (h : List pC) (W1 W2 : aW) : Prop := ∃ (r : Int32) (h1 h2 : List pC), Run prog E pV1 120 M1 as1 h (some (.int r), h1, 0, 0) ∧ Run prog E pV1 120 M2 as2 h1 (some (.int r), h2, 0, 0) ∧ HI HT h1 ∧ HI HT h2 ∧ JT h2 ∧ Fr W1 h h1 ∧ Fr W2 h1 h2 ∧ RMk h2
theorem pour_same {x1 v : Int32} (hh : HI HT h) (hj : JT h) (hm : RMk h) (q1 : Run prog E pV1 120 mX7_pour [.ref 0, .int x1] h (some (.int v), h, 0, 0)) (q2 : Run prog E pV1 120 mX8_pour [.ref 110, .int x1] h (some (.int v), h, 0, 0)) : TwoM E mX7_pour mX8_pour [.ref 0, .int x1] [.ref 110, .int x1] h Wpc Wpr := ⟨v, h, h, q1, q2, hh, hh, hj, Fr.rf _ _, Fr.rf _ _, hm⟩
theorem pour_go {u l : Nat} {V M : Nat → Int32} (hh : HI HT h) (hj : JT h) (hv : RV h) (hm : RMk h) (hu : u < 4) (hl : l ≤ 24) (pv : pint h (83 + 2 * u) = some (24, V)) (pm : pint h 35 = some (16, M)) (q1 : Run prog E pV1 120 mX7_pour [.ref 0, .int (nI u)] h (some (.int (PC V l M 16 0 0)), h.set 35 (.inl (16, pmN V l M 16)), 0, 0))
    (q2 : ∀ h1 : List pC, HI HT h1 → (∀ w : Nat, w < 4 → ri h1 114 w = ri h 114 w ∧ ri h1 115 w = ri h 115 w) → ∀ T t : Nat → Int32, pint h1 116 = some (96, T) → pint h1 111 = some (3075, t) → Run prog E pV1 120 mX8_pour [.ref 110, .int (nI u)] h1 (some (.int (PC (fun j => T (24 * u + j)) l (fun j => t (5 + j)) 16 0 0)), h1.set 111 (.inl (3075, tN T t u l (min l 16))), 0, 0)) : TwoM E mX7_pour mX8_pour [.ref 0, .int (nI u)] [.ref 110, .int (nI u)] h Wpc Wpr := by
  obtain ⟨r1, h1, k1, hh1, f1, hj1⟩ := pub_of (E := E) (a := 0) (kg_c_pourF) (N := mX7_pour) rfl (List.cons_ne_nil _ _) [nI u] rfl (fun q => by cases q) (Nat.le_of_ble_eq_true rfl) hh hj
  have e1 := Run.det q1 k1
  obtain rfl : h.set 35 (.inl (16, pmN V l M 16)) = h1 := (Prod.mk.inj (Prod.mk.inj e1).2).1
  have f1' : Fr Wpc h (h.set 35 (.inl (16, pmN V l M 16))) := f1
  have fz : ∀ b i, ¬ 35 = b → ri (h.set 35 (.inl (16, pmN V l M 16))) b i = ri h b i := fun b i hb => ri_setN hb
  obtain ⟨T, pT, uT, -⟩ := hi_int (a := 116) (n := 96) (sg := []) hh1 rfl
  obtain ⟨t, pt, ut, -⟩ := hi_int hh1 HT111
  have k2 := q2 _ hh1 (fun w _ => ⟨fz _ _ (by decide), fz _ _ (by decide)⟩) T t pT pt
  obtain ⟨V', pv', uV⟩ := vals_at hh u hu
  obtain rfl : V' = V := (Prod.mk.inj (Option.some.inj (pv'.symm.trans pv))).2
  obtain ⟨M', pm', uM, -⟩ := hi_int (a := 35) (n := 16) (sg := []) hh rfl
  obtain rfl : M' = M := (Prod.mk.inj (Option.some.inj (pm'.symm.trans pm))).2
  have cv : ∀ x : Nat, x < l → V' x = (fun j => T (24 * u + j)) x := fun x hx => by
    show V' x = T (24 * u + x)
    rw [← uV x (by omega), ← uT (24 * u + x) (by omega), fz _ _ (by decide)]
    exact hv u x hu (by omega)
  have cm : ∀ x : Nat, x < 16 → M' x = (fun j => t (5 + j)) x := fun x hx => by
    show M' x = t (5 + x)
    rw [← uM x hx, ← ut (5 + x) (by omega), fz _ _ (by decide)]
    exact hm x hx
  rw [← PC_cg (V' := fun j => T (24 * u + j)) (M' := fun j => t (5 + j)) cv cm 16 0 0 (by decide)] at k2
  obtain ⟨r2, h2, k3, hh2, f2, hj2⟩ := pub_of (E := E) (a := 110) (kg_r_pourF) (N := mX8_pour) rfl (List.cons_ne_nil _ _) [nI u] rfl (fun q => by cases q) (Nat.le_of_ble_eq_true rfl) hh1 hj1
  have e2 := Run.det k2 k3
  obtain rfl : (h.set 35 (.inl (16, pmN V' l M' 16))).set 111 (.inl (3075, tN T t u l (min l 16))) = h2 := (Prod.mk.inj (Prod.mk.inj e2).2).1
  refine ⟨PC V' l M' 16 0 0, _, _, q1, k2, hh1, hh2, hj2, f1', f2, fun i hi => ?_⟩
  rw [ri_setI pt (show 5 + i < 3075 by omega), ri_setN (show ¬ 111 = 35 by decide), ri_setI pm hi]
  unfold pmN tN
  rw [if_pos hi, PM_cg (V' := fun j => T (24 * u + j)) (M' := fun j => t (5 + j)) (cv i) (cm i hi)]
  by_cases c : i < min l 16
  · rw [if_pos ⟨by omega, by omega⟩, show 5 + i - 5 = i by omega]
  · rw [if_neg (by omega)]
    exact if_neg (fun z => by have := z.1; omega)
theorem pour_both (x1 : Int32) (hh : HI HT h) (hj : JT h) (hs : RSS h) (hv : RV h) (hm : RMk h) : TwoM E mX7_pour mX8_pour [.ref 0, .int x1] [.ref 110, .int x1] h Wpc Wpr := by
  have t0 : (0 : Int32).toInt = 0 := by decide
  have t3 : (3 : Int32).toInt = 3 := by decide
  obtain ⟨fs0, ho0, hF0⟩ := hi_obj hh (a := 0) rfl
  obtain ⟨fs8, ho8, hF8⟩ := hi_obj hh (a := 110) rfl
  obtain ⟨gS_, pS, uS, -⟩ := hi_int (a := 114) (n := 4) (sg := [(0, 3, -1, 1)]) hh rfl
  by_cases hn : x1.toInt < 0 ∨ 4 ≤ x1.toInt
  · have hs3 : ¬ ((0 : Int32) ≤ x1 ∧ x1 ≤ 3) := fun q => by
      have q1 := Int32.le_iff_toInt_le.mp q.1
      have q2 := Int32.le_iff_toInt_le.mp q.2
      omega
    refine pour_same hh hj hm (v := -1000000001) ⟨Nat.le_of_ble_eq_true rfl, ⟨_, _, rfl⟩, ?_⟩ ⟨Nat.le_of_ble_eq_true rfl, ⟨_, _, rfl⟩, ?_⟩
    · show RA prog E pV1 120 mX7_pour 0 [some (.ref 0), some (.int x1), none, none, none, none, none] [] h (some (.int (-1000000001)), h, 0, 0)
      refine RA.steps (i' := 2) (L' := [some (.ref 0), some (.int x1), none, none, none, none, none]) (st' := [.int x1, .ref 0]) (h' := h) 2 rfl ?_
      refine RA.call0 (N := mX7_rowOf) (as := [.ref 0, .int x1]) (rest := []) rfl rfl (pcallV rfl rfl ho0 rfl rfl (Nat.le_of_ble_eq_true rfl)) (rowOf_n (d := 118) hh hn) ?_
      refine RA.steps (i' := 7) (L' := [some (.ref 0), some (.int x1), some (.null), none, none, none, none]) (st' := [.int (-1000000001)]) (h' := h) 4 rfl ?_
      exact RA.ret rfl rfl
    · show RA prog E pV1 120 mX8_pour 0 [some (.ref 110), some (.int x1), none, none, none, none] [] h (some (.int (-1000000001)), h, 0, 0)
      refine RA.steps (i' := 1) (L' := [some (.ref 110), some (.int x1), none, none, none, none]) (st' := [.int x1]) (h' := h) 1 rfl ?_
      refine RA.call0 (N := mX8_isSheet) (as := [.int x1]) (rest := []) rfl rfl rfl (isSh_f (d := 117) hs3) ?_
      refine RA.if1F rfl rfl ?_
      refine RA.steps (i' := 4) (L' := [some (.ref 110), some (.int x1), none, none, none, none]) (st' := [.int (-1000000001)]) (h' := h) 1 rfl ?_
      exact RA.ret rfl rfl
  obtain ⟨u, rfl, hu0⟩ := nIof (x := x1) (by omega) (by omega)
  have hu : u < 4 := by omega
  have hs3 : (0 : Int32) ≤ nI u ∧ nI u ≤ 3 := ⟨(nI_cl (by omega)).1, Int32.le_iff_toInt_le.mpr (by omega)⟩
  obtain ⟨es, ez0⟩ := hs u hu
  obtain ⟨⟨s0, s1⟩, z0, z24⟩ := rows_ty hh u hu
  obtain ⟨fsr, hor, r0, r1, r2⟩ := row_obj hh u hu
  have bS : 0 ≤ nI u ∧ (nI u).toNatClampNeg < 4 := ⟨(nI_cl (by omega)).1, by rw [(nI_cl (by omega)).2]; exact hu⟩
  have eS : gS_ (nI u).toNatClampNeg = ri h 114 u := by rw [(nI_cl (by omega)).2]; exact (uS u hu).symm
  by_cases hmi : ri h (82 + 2 * u) 1 = -1
  · have gS : ¬ (0 : Int32) ≤ ri h 114 u := by rw [← es, hmi]; decide
    refine pour_same hh hj hm (v := -1000000011) ⟨Nat.le_of_ble_eq_true rfl, ⟨_, _, rfl⟩, ?_⟩ ⟨Nat.le_of_ble_eq_true rfl, ⟨_, _, rfl⟩, ?_⟩
    · show RA prog E pV1 120 mX7_pour 0 [some (.ref 0), some (.int (nI u)), none, none, none, none, none] [] h (some (.int (-1000000011)), h, 0, 0)
      refine RA.steps (i' := 2) (L' := [some (.ref 0), some (.int (nI u)), none, none, none, none, none]) (st' := [.int (nI u), .ref 0]) (h' := h) 2 rfl ?_
      refine RA.call0 (N := mX7_rowOf) (as := [.ref 0, .int (nI u)]) (rest := []) rfl rfl (pcallV rfl rfl ho0 rfl rfl (Nat.le_of_ble_eq_true rfl)) (rowOf_x (d := 118) hh hu) ?_
      refine RA.steps (i' := 9) (L' := [some (.ref 0), some (.int (nI u)), some (.ref (82 + 2 * u)), none, none, none, none]) (st' := [.ref (82 + 2 * u)]) (h' := h) 4 rfl ?_
      refine RA.call0 (N := mX3_isMissing) (as := [.ref (82 + 2 * u)]) (rest := []) rfl rfl (pcallV rfl rfl hor rfl rfl (Nat.le_of_ble_eq_true rfl)) (isMis_t (d := 118) hh hu hmi) ?_
      refine RA.if1F rfl rfl ?_
      refine RA.steps (i' := 12) (L' := [some (.ref 0), some (.int (nI u)), some (.ref (82 + 2 * u)), none, none, none, none]) (st' := [.int (-1000000011)]) (h' := h) 1 rfl ?_
      exact RA.ret rfl rfl
    · show RA prog E pV1 120 mX8_pour 0 [some (.ref 110), some (.int (nI u)), none, none, none, none] [] h (some (.int (-1000000011)), h, 0, 0)
      refine RA.steps (i' := 1) (L' := [some (.ref 110), some (.int (nI u)), none, none, none, none]) (st' := [.int (nI u)]) (h' := h) 1 rfl ?_
      refine RA.call0 (N := mX8_isSheet) (as := [.int (nI u)]) (rest := []) rfl rfl rfl (isSh_t (d := 117) hs3) ?_
      refine RA.if1T rfl rfl ?_
      refine RA.steps (i' := 6) (L' := [some (.ref 110), some (.int (nI u)), none, none, none, none]) (st' := [.ref 110]) (h' := h) 1 rfl ?_
      refine RA.getf rfl ho8 rfl (hF8.ref (k := 4) rfl) ?_
      refine RA.steps (i' := 8) (L' := [some (.ref 110), some (.int (nI u)), none, none, none, none]) (st' := [.int (nI u), .ref 114]) (h' := h) 1 rfl ?_
      refine RA.iald rfl pS bS eS ?_
      refine RA.if1F rfl (decide_eq_false gS) ?_
      refine RA.steps (i' := 11) (L' := [some (.ref 110), some (.int (nI u)), none, none, none, none]) (st' := [.int (-1000000011)]) (h' := h) 1 rfl ?_
      exact RA.ret rfl rfl
  have gS : (0 : Int32) ≤ ri h 114 u := Int32.le_iff_toInt_le.mpr (by
    have : ¬ (ri h 114 u).toInt = -1 := fun q => hmi (by rw [es]; exact Int32.toInt_inj.mp (q.trans (by decide)))
    omega)
  obtain ⟨l, el, hl0⟩ := nIof (x := ri h 115 u) z0 (by omega)
  have hl : l ≤ 24 := by omega
  rw [ez0, el] at r2
  obtain ⟨V, pv, -⟩ := vals_at hh u hu
  obtain ⟨M, pm, -, -⟩ := hi_int (a := 35) (n := 16) (sg := []) hh rfl
  obtain ⟨fsw, ho34, -, w1, -⟩ : ∃ fs : List Value, pobj h 34 = some (6, fs) ∧ True ∧ fs[1]? = some (.ref 35) ∧ True := by
    obtain ⟨fs, ho, hF⟩ := hi_obj hh (a := 34) rfl
    exact ⟨fs, ho, trivial, hF.ref (k := 1) rfl, trivial⟩
  refine pour_go hh hj hv hm hu hl pv pm ⟨Nat.le_of_ble_eq_true rfl, ⟨_, _, rfl⟩, ?_⟩ (fun h1 hh1 hz T t pT pt => ⟨Nat.le_of_ble_eq_true rfl, ⟨_, _, rfl⟩, ?_⟩)
  · show RA prog E pV1 120 mX7_pour 0 [some (.ref 0), some (.int (nI u)), none, none, none, none, none] [] h (some (.int (PC V l M 16 0 0)), h.set 35 (.inl (16, pmN V l M 16)), 0, 0)
    refine RA.steps (i' := 2) (L' := [some (.ref 0), some (.int (nI u)), none, none, none, none, none]) (st' := [.int (nI u), .ref 0]) (h' := h) 2 rfl ?_
    refine RA.call0 (N := mX7_rowOf) (as := [.ref 0, .int (nI u)]) (rest := []) rfl rfl (pcallV rfl rfl ho0 rfl rfl (Nat.le_of_ble_eq_true rfl)) (rowOf_x (d := 118) hh hu) ?_
    refine RA.steps (i' := 9) (L' := [some (.ref 0), some (.int (nI u)), some (.ref (82 + 2 * u)), none, none, none, none]) (st' := [.ref (82 + 2 * u)]) (h' := h) 4 rfl ?_
    refine RA.call0 (N := mX3_isMissing) (as := [.ref (82 + 2 * u)]) (rest := []) rfl rfl (pcallV rfl rfl hor rfl rfl (Nat.le_of_ble_eq_true rfl)) (isMis_f (d := 118) hh hu hmi) ?_
    refine RA.if1T rfl rfl ?_
    refine RA.steps (i' := 17) (L' := [some (.ref 0), some (.int (nI u)), some (.ref (82 + 2 * u)), some (.int 0), some (.int 0), none, none]) (st' := []) (h' := h) 4 rfl ?_
    have k := pour_cl (E := E) (V := V) (M := M) (x1 := nI u) (l := l) hu hl (hF0.ref (k := 1) rfl) r0 r2 w1 16 0 0 none none h (by omega) ho0 hor ho34 pv (by rw [pmN_0]; exact pm)
    rw [nI_0] at k
    exact k
  · obtain ⟨fs8, ho8, hF8⟩ := hi_obj hh1 (a := 110) rfl
    obtain ⟨gS_, pS, uS, -⟩ := hi_int (a := 114) (n := 4) (sg := [(0, 3, -1, 1)]) hh1 rfl
    obtain ⟨gz, pz, uz, -⟩ := hi_int (a := 115) (n := 4) (sg := [(0, 3, 0, 24)]) hh1 rfl
    have eS : gS_ (nI u).toNatClampNeg = ri h 114 u := by rw [(nI_cl (by omega)).2, ← uS u hu]; exact (hz u hu).1
    have ez : gz (nI u).toNatClampNeg = nI l := by rw [(nI_cl (by omega)).2, ← uz u hu, (hz u hu).2]; exact el
    show RA prog E pV1 120 mX8_pour 0 [some (.ref 110), some (.int (nI u)), none, none, none, none] [] h1 (some (.int (PC (fun j => T (24 * u + j)) l (fun j => t (5 + j)) 16 0 0)), h1.set 111 (.inl (3075, tN T t u l (min l 16))), 0, 0)
    refine RA.steps (i' := 1) (L' := [some (.ref 110), some (.int (nI u)), none, none, none, none]) (st' := [.int (nI u)]) (h' := h1) 1 rfl ?_
    refine RA.call0 (N := mX8_isSheet) (as := [.int (nI u)]) (rest := []) rfl rfl rfl (isSh_t (d := 117) hs3) ?_
    refine RA.if1T rfl rfl ?_
    refine RA.steps (i' := 6) (L' := [some (.ref 110), some (.int (nI u)), none, none, none, none]) (st' := [.ref 110]) (h' := h1) 1 rfl ?_
    refine RA.getf rfl ho8 rfl (hF8.ref (k := 4) rfl) ?_
    refine RA.steps (i' := 8) (L' := [some (.ref 110), some (.int (nI u)), none, none, none, none]) (st' := [.int (nI u), .ref 114]) (h' := h1) 1 rfl ?_
    refine RA.iald rfl pS bS eS ?_
    refine RA.if1T rfl (decide_eq_true gS) ?_
    refine RA.steps (i' := 16) (L' := [some (.ref 110), some (.int (nI u)), some (.int 0), some (.int 0), none, none]) (st' := []) (h' := h1) 4 rfl ?_
    have k := pour_rl (E := E) (T := T) (t := t) (l := l) (u := u) hu hl (hF8.ref (k := 0) rfl) (hF8.ref (k := 5) rfl) (hF8.ref (k := 6) rfl) ez (min l 16) 0 0 none none h1 (by omega) ho8 pz pT (by rw [tN_0]; exact pt)
    rw [nI_0] at k
    exact k
end PRX
