/-! ===== copy: what comes where, on both sides ===== -/
section CPV
variable {E : pX} {h : List pC}
theorem copy_same {x1 x2 x3 x4 x5 v : Int32} (hh : HI HT h) (hj : JT h) (hv : RV h) (q1 : Run prog E pV1 120 mX7_copy [.ref 0, .int x1, .int x2, .int x3, .int x4, .int x5] h (some (.int v), h, 0, 0)) (q2 : Run prog E pV1 120 mX8_copy [.ref 110, .int x1, .int x2, .int x3, .int x4, .int x5] h (some (.int v), h, 0, 0)) : TwoV E mX7_copy mX8_copy [.ref 0, .int x1, .int x2, .int x3, .int x4, .int x5] [.ref 110, .int x1, .int x2, .int x3, .int x4, .int x5] h WMc WCo := ⟨v, h, h, q1, q2, hh, hh, hj, Fr.rf _ _, Fr.rf _ _, hv, fun q => q⟩
/-- so many places from there on are there -/
def HA (x m l : Int32) : Prop := 0 ≤ x ∧ 0 ≤ m ∧ x ≤ l ∧ m ≤ l - x
theorem hasAll_t {d u : Nat} {x m : Int32} (hh : HI HT h) (hu : u < 4) (l24 : ri h (82 + 2 * u) 2 ≤ nI 24) (H : HA x m (ri h (82 + 2 * u) 2)) : Run prog E pV1 (d + 1) mX3_hasAll [.ref (82 + 2 * u), .int x, .int m] h (some (.int 1), h, 0, 0) := by
  obtain ⟨fs, ho, h0, -, h2⟩ := row_obj hh u hu
  obtain ⟨f, hp, -⟩ := vals_at hh u hu
  refine ⟨Nat.le_of_ble_eq_true rfl, ⟨_, _, rfl⟩, ?_⟩
  show RA prog E pV1 (d + 1) mX3_hasAll 0 [some (.ref (82 + 2 * u)), some (.int x), some (.int m)] [] h (some (.int 1), h, 0, 0)
  refine RA.steps (i' := 1) (L' := [some (.ref (82 + 2 * u)), some (.int x), some (.int m)]) (st' := [.int x]) (h' := h) 1 rfl ?_
  refine RA.if1F rfl (decide_eq_false (Int32.not_lt.mpr H.1)) ?_
  refine RA.steps (i' := 3) (L' := [some (.ref (82 + 2 * u)), some (.int x), some (.int m)]) (st' := [.int m]) (h' := h) 1 rfl ?_
  refine RA.if1F rfl (decide_eq_false (Int32.not_lt.mpr H.2.1)) ?_
  refine RA.steps (i' := 5) (L' := [some (.ref (82 + 2 * u)), some (.int x), some (.int m)]) (st' := [.ref (82 + 2 * u)]) (h' := h) 1 rfl ?_
  refine RA.getf rfl ho rfl h2 ?_
  refine RA.steps (i' := 7) (L' := [some (.ref (82 + 2 * u)), some (.int x), some (.int m)]) (st' := [.ref (82 + 2 * u), .int (ri h (82 + 2 * u) 2)]) (h' := h) 1 rfl ?_
  refine RA.getf rfl ho rfl h0 ?_
  refine RA.alenI rfl hp ?_
  refine RA.if2F rfl (decide_eq_false (Int32.not_lt.mpr l24)) ?_
  refine RA.steps (i' := 12) (L' := [some (.ref (82 + 2 * u)), some (.int x), some (.int m)]) (st' := [.ref (82 + 2 * u), .int x]) (h' := h) 2 rfl ?_
  refine RA.getf rfl ho rfl h2 ?_
  refine RA.if2F rfl (decide_eq_false (Int32.not_lt.mpr H.2.2.1)) ?_
  refine RA.steps (i' := 16) (L' := [some (.ref (82 + 2 * u)), some (.int x), some (.int m)]) (st' := [.ref (82 + 2 * u), .int m]) (h' := h) 2 rfl ?_
  refine RA.getf rfl ho rfl h2 ?_
  refine RA.steps (i' := 19) (L' := [some (.ref (82 + 2 * u)), some (.int x), some (.int m)]) (st' := [.int ((ri h (82 + 2 * u) 2) - x), .int m]) (h' := h) 2 rfl ?_
  refine RA.if2F rfl (decide_eq_false (Int32.not_lt.mpr H.2.2.2)) ?_
  refine RA.steps (i' := 23) (L' := [some (.ref (82 + 2 * u)), some (.int x), some (.int m)]) (st' := [.int 1]) (h' := h) 2 rfl ?_
  exact RA.ret rfl rfl
theorem hasAll_f {d u : Nat} {x m : Int32} (hh : HI HT h) (hu : u < 4) (l24 : ri h (82 + 2 * u) 2 ≤ nI 24) (hn : ¬ HA x m (ri h (82 + 2 * u) 2)) : Run prog E pV1 (d + 1) mX3_hasAll [.ref (82 + 2 * u), .int x, .int m] h (some (.int 0), h, 0, 0) := by
  obtain ⟨fs, ho, h0, -, h2⟩ := row_obj hh u hu
  obtain ⟨f, hp, -⟩ := vals_at hh u hu
  refine ⟨Nat.le_of_ble_eq_true rfl, ⟨_, _, rfl⟩, ?_⟩
  show RA prog E pV1 (d + 1) mX3_hasAll 0 [some (.ref (82 + 2 * u)), some (.int x), some (.int m)] [] h (some (.int 0), h, 0, 0)
  by_cases c1 : x < 0
  · skip
    refine RA.steps (i' := 1) (L' := [some (.ref (82 + 2 * u)), some (.int x), some (.int m)]) (st' := [.int x]) (h' := h) 1 rfl ?_
    refine RA.if1T rfl (decide_eq_true c1) ?_
    refine RA.steps (i' := 23) (L' := [some (.ref (82 + 2 * u)), some (.int x), some (.int m)]) (st' := [.int 0]) (h' := h) 1 rfl ?_
    exact RA.ret rfl rfl
  by_cases c2 : m < 0
  · skip
    refine RA.steps (i' := 1) (L' := [some (.ref (82 + 2 * u)), some (.int x), some (.int m)]) (st' := [.int x]) (h' := h) 1 rfl ?_
    refine RA.if1F rfl (decide_eq_false c1) ?_
    refine RA.steps (i' := 3) (L' := [some (.ref (82 + 2 * u)), some (.int x), some (.int m)]) (st' := [.int m]) (h' := h) 1 rfl ?_
    refine RA.if1T rfl (decide_eq_true c2) ?_
    refine RA.steps (i' := 23) (L' := [some (.ref (82 + 2 * u)), some (.int x), some (.int m)]) (st' := [.int 0]) (h' := h) 1 rfl ?_
    exact RA.ret rfl rfl
  by_cases c3 : ri h (82 + 2 * u) 2 < x
  · skip
    refine RA.steps (i' := 1) (L' := [some (.ref (82 + 2 * u)), some (.int x), some (.int m)]) (st' := [.int x]) (h' := h) 1 rfl ?_
    refine RA.if1F rfl (decide_eq_false c1) ?_
    refine RA.steps (i' := 3) (L' := [some (.ref (82 + 2 * u)), some (.int x), some (.int m)]) (st' := [.int m]) (h' := h) 1 rfl ?_
    refine RA.if1F rfl (decide_eq_false c2) ?_
    refine RA.steps (i' := 5) (L' := [some (.ref (82 + 2 * u)), some (.int x), some (.int m)]) (st' := [.ref (82 + 2 * u)]) (h' := h) 1 rfl ?_
    refine RA.getf rfl ho rfl h2 ?_
    refine RA.steps (i' := 7) (L' := [some (.ref (82 + 2 * u)), some (.int x), some (.int m)]) (st' := [.ref (82 + 2 * u), .int (ri h (82 + 2 * u) 2)]) (h' := h) 1 rfl ?_
    refine RA.getf rfl ho rfl h0 ?_
    refine RA.alenI rfl hp ?_
    refine RA.if2F rfl (decide_eq_false (Int32.not_lt.mpr l24)) ?_
    refine RA.steps (i' := 12) (L' := [some (.ref (82 + 2 * u)), some (.int x), some (.int m)]) (st' := [.ref (82 + 2 * u), .int x]) (h' := h) 2 rfl ?_
    refine RA.getf rfl ho rfl h2 ?_
    refine RA.if2T rfl (decide_eq_true c3) ?_
    refine RA.steps (i' := 23) (L' := [some (.ref (82 + 2 * u)), some (.int x), some (.int m)]) (st' := [.int 0]) (h' := h) 1 rfl ?_
    exact RA.ret rfl rfl
  have c4 : ri h (82 + 2 * u) 2 - x < m := Int32.not_le.mp (fun q => hn ⟨Int32.not_lt.mp c1, Int32.not_lt.mp c2, Int32.not_lt.mp c3, q⟩)
  refine RA.steps (i' := 1) (L' := [some (.ref (82 + 2 * u)), some (.int x), some (.int m)]) (st' := [.int x]) (h' := h) 1 rfl ?_
  refine RA.if1F rfl (decide_eq_false c1) ?_
  refine RA.steps (i' := 3) (L' := [some (.ref (82 + 2 * u)), some (.int x), some (.int m)]) (st' := [.int m]) (h' := h) 1 rfl ?_
  refine RA.if1F rfl (decide_eq_false c2) ?_
  refine RA.steps (i' := 5) (L' := [some (.ref (82 + 2 * u)), some (.int x), some (.int m)]) (st' := [.ref (82 + 2 * u)]) (h' := h) 1 rfl ?_
  refine RA.getf rfl ho rfl h2 ?_
  refine RA.steps (i' := 7) (L' := [some (.ref (82 + 2 * u)), some (.int x), some (.int m)]) (st' := [.ref (82 + 2 * u), .int (ri h (82 + 2 * u) 2)]) (h' := h) 1 rfl ?_
  refine RA.getf rfl ho rfl h0 ?_
  refine RA.alenI rfl hp ?_
  refine RA.if2F rfl (decide_eq_false (Int32.not_lt.mpr l24)) ?_
  refine RA.steps (i' := 12) (L' := [some (.ref (82 + 2 * u)), some (.int x), some (.int m)]) (st' := [.ref (82 + 2 * u), .int x]) (h' := h) 2 rfl ?_
  refine RA.getf rfl ho rfl h2 ?_
  refine RA.if2F rfl (decide_eq_false c3) ?_
  refine RA.steps (i' := 16) (L' := [some (.ref (82 + 2 * u)), some (.int x), some (.int m)]) (st' := [.ref (82 + 2 * u), .int m]) (h' := h) 2 rfl ?_
  refine RA.getf rfl ho rfl h2 ?_
  refine RA.steps (i' := 19) (L' := [some (.ref (82 + 2 * u)), some (.int x), some (.int m)]) (st' := [.int ((ri h (82 + 2 * u) 2) - x), .int m]) (h' := h) 2 rfl ?_
  refine RA.if2T rfl (decide_eq_true c4) ?_
  refine RA.steps (i' := 23) (L' := [some (.ref (82 + 2 * u)), some (.int x), some (.int m)]) (st' := [.int 0]) (h' := h) 1 rfl ?_
  exact RA.ret rfl rfl
theorem eA3 {u p K : Nat} (hu : u < 4) : (24 * nI u + nI p + nI K : Int32) = nI (24 * u + p + K) := by
  rw [eAdr hu, nI_add]
/-- the first loop of the reference -/
theorem cp_l1 {u p v a n : Nat} {T c : Nat → Int32} {fs : List Value} (f28 : fs[28]? = some (.ref 127)) (f6 : fs[6]? = some (.ref 116)) (hu : u < 4) (hn : n ≤ 24) (hpn : p + n ≤ 24) : ∀ (m K : Nat) (h : List pC) (res : pR), K + m = n → pobj h 110 = some (8, fs) → pint h 116 = some (96, T) → pint h 127 = some (24, cpN K (fun j => T (24 * u + p + j)) c) → RA prog E pV1 120 mX8_copy 84 [some (.ref 110), some (.int (nI u)), some (.int (nI p)), some (.int (nI v)), some (.int (nI a)), some (.int (nI n)), some (.int (nI n))] [] (h.set 127 (.inl (24, cpN n (fun j => T (24 * u + p + j)) c))) res → RA prog E pV1 120 mX8_copy 65 [some (.ref 110), some (.int (nI u)), some (.int (nI p)), some (.int (nI v)), some (.int (nI a)), some (.int (nI n)), some (.int (nI K))] [] h res := by
  intro m
  induction m with
  | zero =>
    intro K h res hK ho8 h1 h2 k
    obtain rfl : K = n := by omega
    rw [set_sameI h2] at k
    refine RA.steps (i' := 67) (L' := [some (.ref 110), some (.int (nI u)), some (.int (nI p)), some (.int (nI v)), some (.int (nI a)), some (.int (nI K)), some (.int (nI K))]) (st' := [.int (nI K), .int (nI K)]) (h' := h) 2 rfl ?_
    exact RA.if2T rfl (decide_eq_true (Int32.le_refl _)) k
  | succ m ih =>
    intro K h res hK ho8 h1 h2 k
    have hK2 : K < n := by omega
    obtain ⟨k0, kc⟩ := nI_cl (k := K) (by omega)
    obtain ⟨i0, ic⟩ := nI_cl (k := 24 * u + p + K) (by omega)
    have key := ih (K + 1) (h.set 127 (.inl (24, va_up (cpN K (fun j => T (24 * u + p + j)) c) (nI K).toNatClampNeg (T (nI (24 * u + p + K)).toNatClampNeg)))) res (by omega) ((pobj_ne (by decide)).trans ho8) ((pint_ne (by decide)).trans h1) (by rw [kc, ic, show va_up (cpN K (fun j => T (24 * u + p + j)) c) K (T (24 * u + p + K)) = cpN (K + 1) (fun j => T (24 * u + p + j)) c from cpN_S K (fun j => T (24 * u + p + j)) c]; exact pint_set (pint_lt h2)) (by rw [List.set_set]; exact k)
    refine RA.steps (i' := 67) (L' := [some (.ref 110), some (.int (nI u)), some (.int (nI p)), some (.int (nI v)), some (.int (nI a)), some (.int (nI n)), some (.int (nI K))]) (st' := [.int (nI n), .int (nI K)]) (h' := h) 2 rfl ?_
    refine RA.if2F rfl (decide_eq_false (show ¬ nI n ≤ nI K from nI_ge hK2 (by omega))) ?_
    refine RA.steps (i' := 69) (L' := [some (.ref 110), some (.int (nI u)), some (.int (nI p)), some (.int (nI v)), some (.int (nI a)), some (.int (nI n)), some (.int (nI K))]) (st' := [.ref 110]) (h' := h) 1 rfl ?_
    refine RA.getf rfl ho8 rfl f28 ?_
    refine RA.steps (i' := 72) (L' := [some (.ref 110), some (.int (nI u)), some (.int (nI p)), some (.int (nI v)), some (.int (nI a)), some (.int (nI n)), some (.int (nI K))]) (st' := [.ref 110, .int (nI K), .ref 127]) (h' := h) 2 rfl ?_
    refine RA.getf rfl ho8 rfl f6 ?_
    refine RA.steps (i' := 80) (L' := [some (.ref 110), some (.int (nI u)), some (.int (nI p)), some (.int (nI v)), some (.int (nI a)), some (.int (nI n)), some (.int (nI K))]) (st' := [.int (((24 * (nI u)) + (nI p)) + (nI K)), .ref 116, .int (nI K), .ref 127]) (h' := h) 7 rfl ?_
    rw [(eA3 hu)]
    refine RA.iald rfl h1 ⟨i0, by rw [ic]; show 24 * u + p + K < 96; omega⟩ rfl ?_
    refine RA.iast rfl h2 ⟨k0, by rw [kc]; show K < 24; omega⟩ ?_
    refine RA.iinc rfl rfl (nI_1 K) rfl ?_
    refine RA.steps (i' := 65) (L' := [some (.ref 110), some (.int (nI u)), some (.int (nI p)), some (.int (nI v)), some (.int (nI a)), some (.int (nI n)), some (.int (nI (K + 1)))]) (st' := []) (h' := (h.set 127 (.inl (24, va_up (cpN K (fun j => T (24 * u + p + j)) c) (nI K).toNatClampNeg (T (nI (24 * u + p + K)).toNatClampNeg))))) 1 rfl ?_
    exact key
theorem cpy_S {D T : Nat → Int32} {t K : Nat} : va_up (va_cpy D T 0 t K) (t + K) (D K) = va_cpy D T 0 t (K + 1) := by
  funext j
  unfold va_up va_cpy
  by_cases e : j = t + K
  · subst e
    rw [if_pos rfl, if_pos ⟨by omega, by omega⟩]
    exact congrArg D (by omega)
  · rw [if_neg e]
    by_cases q : t ≤ j ∧ j < t + K
    · rw [if_pos q, if_pos ⟨q.1, by omega⟩]
    · rw [if_neg q, if_neg (fun z => q ⟨z.1, by omega⟩)]
theorem cpy_0 {D T : Nat → Int32} {t : Nat} : va_cpy D T 0 t 0 = T := by
  funext j
  unfold va_cpy
  rw [if_neg (by omega)]
/-- the second one -/
theorem cp_l2 {u p v a n : Nat} {D T : Nat → Int32} {fs : List Value} (f28 : fs[28]? = some (.ref 127)) (f6 : fs[6]? = some (.ref 116)) (hv : v < 4) (hn : n ≤ 24) (han : a + n ≤ 24) : ∀ (m K : Nat) (h : List pC), K + m = n → pobj h 110 = some (8, fs) → pint h 127 = some (24, D) → pint h 116 = some (96, va_cpy D T 0 (24 * v + a) K) → RA prog E pV1 120 mX8_copy 86 [some (.ref 110), some (.int (nI u)), some (.int (nI p)), some (.int (nI v)), some (.int (nI a)), some (.int (nI n)), some (.int (nI K))] [] h (some (.int (nI n)), h.set 116 (.inl (96, va_cpy D T 0 (24 * v + a) n)), 0, 0) := by
  intro m
  induction m with
  | zero =>
    intro K h hK ho8 h2 h1
    obtain rfl : K = n := by omega
    rw [set_sameI h1]
    refine RA.steps (i' := 88) (L' := [some (.ref 110), some (.int (nI u)), some (.int (nI p)), some (.int (nI v)), some (.int (nI a)), some (.int (nI K)), some (.int (nI K))]) (st' := [.int (nI K), .int (nI K)]) (h' := h) 2 rfl ?_
    refine RA.if2T rfl (decide_eq_true (Int32.le_refl _)) ?_
    refine RA.steps (i' := 106) (L' := [some (.ref 110), some (.int (nI u)), some (.int (nI p)), some (.int (nI v)), some (.int (nI a)), some (.int (nI K)), some (.int (nI K))]) (st' := [.int (nI K)]) (h' := h) 1 rfl ?_
    exact RA.ret rfl rfl
  | succ m ih =>
    intro K h hK ho8 h2 h1
    have hK2 : K < n := by omega
    obtain ⟨k0, kc⟩ := nI_cl (k := K) (by omega)
    obtain ⟨i0, ic⟩ := nI_cl (k := 24 * v + a + K) (by omega)
    have key := ih (K + 1) (h.set 116 (.inl (96, va_up (va_cpy D T 0 (24 * v + a) K) (nI (24 * v + a + K)).toNatClampNeg (D (nI K).toNatClampNeg)))) (by omega) ((pobj_ne (by decide)).trans ho8) ((pint_ne (by decide)).trans h2) (by rw [kc, ic, cpy_S]; exact pint_set (pint_lt h1))
    rw [List.set_set] at key
    refine RA.steps (i' := 88) (L' := [some (.ref 110), some (.int (nI u)), some (.int (nI p)), some (.int (nI v)), some (.int (nI a)), some (.int (nI n)), some (.int (nI K))]) (st' := [.int (nI n), .int (nI K)]) (h' := h) 2 rfl ?_
    refine RA.if2F rfl (decide_eq_false (show ¬ nI n ≤ nI K from nI_ge hK2 (by omega))) ?_
    refine RA.steps (i' := 90) (L' := [some (.ref 110), some (.int (nI u)), some (.int (nI p)), some (.int (nI v)), some (.int (nI a)), some (.int (nI n)), some (.int (nI K))]) (st' := [.ref 110]) (h' := h) 1 rfl ?_
    refine RA.getf rfl ho8 rfl f6 ?_
    refine RA.steps (i' := 98) (L' := [some (.ref 110), some (.int (nI u)), some (.int (nI p)), some (.int (nI v)), some (.int (nI a)), some (.int (nI n)), some (.int (nI K))]) (st' := [.int (((24 * (nI v)) + (nI a)) + (nI K)), .ref 116]) (h' := h) 7 rfl ?_
    rw [(eA3 hv)]
    refine RA.steps (i' := 99) (L' := [some (.ref 110), some (.int (nI u)), some (.int (nI p)), some (.int (nI v)), some (.int (nI a)), some (.int (nI n)), some (.int (nI K))]) (st' := [.ref 110, .int (nI (24 * v + a + K)), .ref 116]) (h' := h) 1 rfl ?_
    refine RA.getf rfl ho8 rfl f28 ?_
    refine RA.steps (i' := 101) (L' := [some (.ref 110), some (.int (nI u)), some (.int (nI p)), some (.int (nI v)), some (.int (nI a)), some (.int (nI n)), some (.int (nI K))]) (st' := [.int (nI K), .ref 127, .int (nI (24 * v + a + K)), .ref 116]) (h' := h) 1 rfl ?_
    refine RA.iald rfl h2 ⟨k0, by rw [kc]; show K < 24; omega⟩ rfl ?_
    refine RA.iast rfl h1 ⟨i0, by rw [ic]; show 24 * v + a + K < 96; omega⟩ ?_
    refine RA.iinc rfl rfl (nI_1 K) rfl ?_
    refine RA.steps (i' := 86) (L' := [some (.ref 110), some (.int (nI u)), some (.int (nI p)), some (.int (nI v)), some (.int (nI a)), some (.int (nI n)), some (.int (nI (K + 1)))]) (st' := []) (h' := (h.set 116 (.inl (96, va_up (va_cpy D T 0 (24 * v + a) K) (nI (24 * v + a + K)).toNatClampNeg (D (nI K).toNatClampNeg))))) 1 rfl ?_
    exact key
theorem lsumT {a b c : Int32} (ha : 0 ≤ a.toInt) (hb : 0 ≤ b.toInt) (h : (0 : Int32) < lg_cmp (a.toInt64 + b.toInt64) c.toInt64) : c.toInt < a.toInt + b.toInt := by
  have h1 : ¬ a.toInt64 + b.toInt64 ≤ c.toInt64 := fun q => absurd ((lgc_le' _ _).mpr q) (Int32.not_le.mpr h)
  have h2 : ¬ (a.toInt64 + b.toInt64).toInt ≤ c.toInt64.toInt := fun q => h1 (Int64.le_iff_toInt_le.mpr q)
  have u1 := i32_hi a
  have u2 := i32_hi b
  unfold MI at u1 u2
  rw [Int64.toInt_add, Int32.toInt_toInt64, Int32.toInt_toInt64, Int32.toInt_toInt64, bm64 (by omega) (by omega)] at h2
  omega
/-- the places are there -/
def CpP (p a m lf lt : Int) : Prop := 0 ≤ p ∧ 0 ≤ a ∧ 0 ≤ m ∧ p + m ≤ lf ∧ a + m ≤ lt
theorem cp_31 {u v : Nat} {x2 x4 x5 : Int32} (hh : HI HT h) (hu : u < 4) (hv : v < 4) : ∀ res : pR, (CpP x2.toInt x4.toInt x5.toInt (ri h 115 u).toInt (ri h 115 v).toInt → RA prog E pV1 120 mX8_copy 63 [some (.ref 110), some (.int (nI u)), some (.int x2), some (.int (nI v)), some (.int x4), some (.int x5), none] [] h res) → (¬ CpP x2.toInt x4.toInt x5.toInt (ri h 115 u).toInt (ri h 115 v).toInt → res = (some (.int (-1000000013)), h, 0, 0)) → RA prog E pV1 120 mX8_copy 31 [some (.ref 110), some (.int (nI u)), some (.int x2), some (.int (nI v)), some (.int x4), some (.int x5), none] [] h res := by
  intro res k1 k2
  obtain ⟨fs8, ho8, hF8⟩ := hi_obj hh (a := 110) rfl
  obtain ⟨gZ_, pZ, uZ, -⟩ := hi_int (a := 115) (n := 4) (sg := [(0, 3, 0, 24)]) hh rfl
  have bu : 0 ≤ nI u ∧ (nI u).toNatClampNeg < 4 := ⟨(nI_cl (by omega)).1, by rw [(nI_cl (by omega)).2]; exact hu⟩
  have bv : 0 ≤ nI v ∧ (nI v).toNatClampNeg < 4 := ⟨(nI_cl (by omega)).1, by rw [(nI_cl (by omega)).2]; exact hv⟩
  have eu : gZ_ (nI u).toNatClampNeg = ri h 115 u := by rw [(nI_cl (by omega)).2]; exact (uZ u hu).symm
  have ev : gZ_ (nI v).toNatClampNeg = ri h 115 v := by rw [(nI_cl (by omega)).2]; exact (uZ v hv).symm
  have bad : ¬ CpP x2.toInt x4.toInt x5.toInt (ri h 115 u).toInt (ri h 115 v).toInt → RA prog E pV1 120 mX8_copy 61 [some (.ref 110), some (.int (nI u)), some (.int x2), some (.int (nI v)), some (.int x4), some (.int x5), none] [] h res := fun c => by
    rw [k2 c]
    refine RA.steps (i' := 62) (L' := [some (.ref 110), some (.int (nI u)), some (.int x2), some (.int (nI v)), some (.int x4), some (.int x5), none]) (st' := [.int (-1000000013)]) (h' := h) 1 rfl ?_
    exact RA.ret rfl rfl
  have neg : ∀ v : Int32, v < 0 → v.toInt < 0 := fun v q => Int32.lt_iff_toInt_lt.mp q
  refine RA.steps (i' := 32) (L' := [some (.ref 110), some (.int (nI u)), some (.int x2), some (.int (nI v)), some (.int x4), some (.int x5), none]) (st' := [.int x2]) (h' := h) 1 rfl ?_
  by_cases c2 : x2 < 0
  · exact RA.if1T rfl (decide_eq_true c2) (bad (fun q => by have := neg _ c2; have := q.1; omega))
  refine RA.if1F rfl (decide_eq_false c2) ?_
  refine RA.steps (i' := 34) (L' := [some (.ref 110), some (.int (nI u)), some (.int x2), some (.int (nI v)), some (.int x4), some (.int x5), none]) (st' := [.int x4]) (h' := h) 1 rfl ?_
  by_cases c4 : x4 < 0
  · exact RA.if1T rfl (decide_eq_true c4) (bad (fun q => by have := neg _ c4; have := q.2.1; omega))
  refine RA.if1F rfl (decide_eq_false c4) ?_
  refine RA.steps (i' := 36) (L' := [some (.ref 110), some (.int (nI u)), some (.int x2), some (.int (nI v)), some (.int x4), some (.int x5), none]) (st' := [.int x5]) (h' := h) 1 rfl ?_
  by_cases c5 : x5 < 0
  · exact RA.if1T rfl (decide_eq_true c5) (bad (fun q => by have := neg _ c5; have := q.2.2.1; omega))
  refine RA.if1F rfl (decide_eq_false c5) ?_
  have z2 := i0_of c2
  have z4 := i0_of c4
  have z5 := i0_of c5
  refine RA.steps (i' := 43) (L' := [some (.ref 110), some (.int (nI u)), some (.int x2), some (.int (nI v)), some (.int x4), some (.int x5), none]) (st' := [.ref 110, .long (x2.toInt64 + x5.toInt64)]) (h' := h) 6 rfl ?_
  refine RA.getf rfl ho8 rfl (hF8.ref (k := 5) rfl) ?_
  refine RA.steps (i' := 45) (L' := [some (.ref 110), some (.int (nI u)), some (.int x2), some (.int (nI v)), some (.int x4), some (.int x5), none]) (st' := [.int (nI u), .ref 115, .long (x2.toInt64 + x5.toInt64)]) (h' := h) 1 rfl ?_
  refine RA.iald rfl pZ bu eu ?_
  refine RA.steps (i' := 48) (L' := [some (.ref 110), some (.int (nI u)), some (.int x2), some (.int (nI v)), some (.int x4), some (.int x5), none]) (st' := [.int (lg_cmp (x2.toInt64 + x5.toInt64) (ri h 115 u).toInt64)]) (h' := h) 2 rfl ?_
  by_cases c6 : (0 : Int32) < lg_cmp (x2.toInt64 + x5.toInt64) (ri h 115 u).toInt64
  · exact RA.if1T rfl (decide_eq_true c6) (bad (fun q => by have := lsumT z2 z5 c6; have := q.2.2.2.1; omega))
  refine RA.if1F rfl (decide_eq_false c6) ?_
  refine RA.steps (i' := 55) (L' := [some (.ref 110), some (.int (nI u)), some (.int x2), some (.int (nI v)), some (.int x4), some (.int x5), none]) (st' := [.ref 110, .long (x4.toInt64 + x5.toInt64)]) (h' := h) 6 rfl ?_
  refine RA.getf rfl ho8 rfl (hF8.ref (k := 5) rfl) ?_
  refine RA.steps (i' := 57) (L' := [some (.ref 110), some (.int (nI u)), some (.int x2), some (.int (nI v)), some (.int x4), some (.int x5), none]) (st' := [.int (nI v), .ref 115, .long (x4.toInt64 + x5.toInt64)]) (h' := h) 1 rfl ?_
  refine RA.iald rfl pZ bv ev ?_
  refine RA.steps (i' := 60) (L' := [some (.ref 110), some (.int (nI u)), some (.int x2), some (.int (nI v)), some (.int x4), some (.int x5), none]) (st' := [.int (lg_cmp (x4.toInt64 + x5.toInt64) (ri h 115 v).toInt64)]) (h' := h) 2 rfl ?_
  by_cases c7 : (0 : Int32) < lg_cmp (x4.toInt64 + x5.toInt64) (ri h 115 v).toInt64
  · exact RA.if1F rfl (decide_eq_false (Int32.not_le.mpr c7)) (bad (fun q => by have := lsumT z4 z5 c7; have := q.2.2.2.2; omega))
  exact RA.if1T rfl (decide_eq_true (Int32.not_lt.mp c7)) (k1 ⟨z2, z4, z5, lsum z2 z5 c6, lsum z4 z5 c7⟩)
theorem sub_i {a b : Int32} (h0 : 0 ≤ b.toInt) (h1 : b.toInt ≤ a.toInt) : (a - b).toInt = a.toInt - b.toInt := by
  have := i32_hi a
  unfold MI at this
  rw [Int32.toInt_sub]
  exact bm32 (by unfold mI; omega) (by unfold MI; omega)
theorem ha_iff {x m l : Int32} : HA x m l ↔ 0 ≤ x.toInt ∧ 0 ≤ m.toInt ∧ x.toInt + m.toInt ≤ l.toInt := by
  have t0 : (0 : Int32).toInt = 0 := by decide
  unfold HA
  rw [Int32.le_iff_toInt_le, Int32.le_iff_toInt_le, Int32.le_iff_toInt_le, Int32.le_iff_toInt_le, t0]
  constructor
  · intro ⟨a, b, c, e⟩
    rw [sub_i a c] at e
    exact ⟨a, b, by omega⟩
  · intro ⟨a, b, c⟩
    refine ⟨a, b, by omega, ?_⟩
    rw [sub_i a (by omega)]
    omega
theorem cpN_lt {α : Type} {N j : Nat} {f g : Nat → α} (h : j < N) : cpN N f g j = f j := if_pos h
/-- places come: what they are on both sides -/
theorem copy_go {u v p a n : Nat} {f g : Nat → Int32} (hh : HI HT h) (hj : JT h) (hr : RV h) (hs : RSS h) (hu : u < 4) (hv : v < 4) (hp : p + n ≤ 24) (ha : a + n ≤ 24) (pu : pint h (83 + 2 * u) = some (24, f)) (pv : pint h (83 + 2 * v) = some (24, g)) (q1 : Run prog E pV1 120 mX7_copy [.ref 0, .int (nI u), .int (nI p), .int (nI v), .int (nI a), .int (nI n)] h (some (.int (nI n)), h.set (83 + 2 * v) (.inl (24, va_cpy f g p a n)), 0, 0))
    (q2 : ∀ h1 : List pC, HI HT h1 → (∀ w : Nat, w < 4 → ri h1 114 w = ri h 114 w ∧ ri h1 115 w = ri h 115 w) → ∀ T D : Nat → Int32, pint h1 116 = some (96, T) → pint h1 127 = some (24, D) → Run prog E pV1 120 mX8_copy [.ref 110, .int (nI u), .int (nI p), .int (nI v), .int (nI a), .int (nI n)] h1 (some (.int (nI n)), (h1.set 127 (.inl (24, cpN n (fun j => T (24 * u + p + j)) D))).set 116 (.inl (96, va_cpy (cpN n (fun j => T (24 * u + p + j)) D) T 0 (24 * v + a) n)), 0, 0)) : TwoV E mX7_copy mX8_copy [.ref 0, .int (nI u), .int (nI p), .int (nI v), .int (nI a), .int (nI n)] [.ref 110, .int (nI u), .int (nI p), .int (nI v), .int (nI a), .int (nI n)] h WMc WCo := by
  have _ := hs
  obtain ⟨r1, h1, k1, hh1, f1, hj1⟩ := pub_of (E := E) (a := 0) (kg_c_copyF) (N := mX7_copy) rfl (List.cons_ne_nil _ _) [nI u, nI p, nI v, nI a, nI n] rfl (fun q => by cases q) (Nat.le_of_ble_eq_true rfl) hh hj
  have e1 := Run.det q1 k1
  obtain rfl : h.set (83 + 2 * v) (.inl (24, va_cpy f g p a n)) = h1 := (Prod.mk.inj (Prod.mk.inj e1).2).1
  have f1' : Fr WMc h (h.set (83 + 2 * v) (.inl (24, va_cpy f g p a n))) := f1
  have fz : ∀ b i, b = 114 ∨ b = 115 ∨ b = 116 → ri (h.set (83 + 2 * v) (.inl (24, va_cpy f g p a n))) b i = ri h b i := fun b i hb => ri_setN (by omega)
  obtain ⟨T, pT, uT, -⟩ := hi_int (a := 116) (n := 96) (sg := []) hh1 rfl
  obtain ⟨D, pD, -, -⟩ := hi_int (a := 127) (n := 24) (sg := []) hh1 rfl
  have k2 := q2 _ hh1 (fun w _ => ⟨fz _ _ (Or.inl rfl), fz _ _ (Or.inr (Or.inl rfl))⟩) T D pT pD
  obtain ⟨r2, h2, k3, hh2, f2, hj2⟩ := pub_of (E := E) (a := 110) hd_copy (N := mX8_copy) rfl (List.cons_ne_nil _ _) [nI u, nI p, nI v, nI a, nI n] rfl (fun q => by cases q) (Nat.le_of_ble_eq_true rfl) hh1 hj1
  have e2 := Run.det k2 k3
  obtain rfl : ((h.set (83 + 2 * v) (.inl (24, va_cpy f g p a n))).set 127 (.inl (24, cpN n (fun j => T (24 * u + p + j)) D))).set 116 (.inl (96, va_cpy (cpN n (fun j => T (24 * u + p + j)) D) T 0 (24 * v + a) n)) = h2 := (Prod.mk.inj (Prod.mk.inj e2).2).1
  have hvb : VB h → VB (((h.set (83 + 2 * v) (.inl (24, va_cpy f g p a n))).set 127 (.inl (24, cpN n (fun j => T (24 * u + p + j)) D))).set 116 (.inl (96, va_cpy (cpN n (fun j => T (24 * u + p + j)) D) T 0 (24 * v + a) n))) := fun vb w j hw hj24 => by
    obtain ⟨fu, pu', uu⟩ := vals_at hh u hu
    have eu : fu = f := (Prod.mk.inj (Option.some.inj (pu'.symm.trans pu))).2
    obtain ⟨gv, pv', uv⟩ := vals_at hh v hv
    have ev : gv = g := (Prod.mk.inj (Option.some.inj (pv'.symm.trans pv))).2
    rw [eu] at uu
    rw [ev] at uv
    rw [ri_setN (show ¬ 116 = 83 + 2 * w by omega), ri_setN (show ¬ 127 = 83 + 2 * w by omega)]
    by_cases e : w = v
    · rw [e, ri_setI pv hj24]
      by_cases c : a ≤ j ∧ j < a + n
      · rw [pk_cpy_in c.1 c.2, ← uu (p + (j - a)) (by omega)]
        exact vb u (p + (j - a)) hu (by omega)
      · rw [pk_cpy_out (show j < a ∨ a + n ≤ j by omega), ← uv j hj24]
        exact vb v j hv hj24
    · rw [ri_setN (show ¬ 83 + 2 * v = 83 + 2 * w by omega)]
      exact vb w j hw hj24
  refine ⟨nI n, _, _, q1, k2, hh1, hh2, hj2, f1', f2, fun w j hw hj24 => ?_, hvb⟩
  have pT' : pint ((h.set (83 + 2 * v) (.inl (24, va_cpy f g p a n))).set 127 (.inl (24, cpN n (fun j => T (24 * u + p + j)) D))) 116 = some (96, T) := (pint_ne (by decide)).trans pT
  have g0 : ∀ i : Nat, i < 96 → T i = ri h 116 i := fun i hi => by
    rw [← uT i hi]
    exact fz _ _ (Or.inr (Or.inr rfl))
  rw [ri_setI pT' (show 24 * w + j < 96 by omega), ri_setN (show ¬ 116 = 83 + 2 * w by omega), ri_setN (show ¬ 127 = 83 + 2 * w by omega)]
  obtain ⟨fu, pu', uu⟩ := vals_at hh u hu
  obtain rfl : fu = f := (Prod.mk.inj (Option.some.inj (pu'.symm.trans pu))).2
  obtain ⟨gv, pv', uv⟩ := vals_at hh v hv
  obtain rfl : gv = g := (Prod.mk.inj (Option.some.inj (pv'.symm.trans pv))).2
  by_cases e : w = v
  · subst e
    rw [ri_setI pv hj24]
    by_cases c : a ≤ j ∧ j < a + n
    · rw [pk_cpy_in c.1 c.2, pk_cpy_in (show 24 * w + a ≤ 24 * w + j by omega) (show 24 * w + j < 24 * w + a + n by omega)]
      rw [cpN_lt (show 0 + (24 * w + j - (24 * w + a)) < n by omega), g0 _ (by omega), ← uu _ (by omega)]
      rw [show 24 * u + p + (0 + (24 * w + j - (24 * w + a))) = 24 * u + (p + (j - a)) by omega]
      exact hr u (p + (j - a)) hu (by omega)
    · rw [pk_cpy_out (show j < a ∨ a + n ≤ j by omega), pk_cpy_out (show 24 * w + j < 24 * w + a ∨ 24 * w + a + n ≤ 24 * w + j by omega), g0 _ (by omega), ← uv j hj24]
      exact hr w j hw hj24
  · rw [ri_setN (show ¬ 83 + 2 * v = 83 + 2 * w by omega), pk_cpy_out (show 24 * w + j < 24 * v + a ∨ 24 * v + a + n ≤ 24 * w + j by omega), g0 _ (by omega)]
    exact hr w j hw hj24
theorem copy_val (x1 x2 x3 x4 x5 : Int32) (hh : HI HT h) (hj : JT h) (hs : RSS h) (hv_ : RV h) : TwoV E mX7_copy mX8_copy [.ref 0, .int x1, .int x2, .int x3, .int x4, .int x5] [.ref 110, .int x1, .int x2, .int x3, .int x4, .int x5] h WMc WCo := by
  have t0 : (0 : Int32).toInt = 0 := by decide
  have t3 : (3 : Int32).toInt = 3 := by decide
  obtain ⟨fs0, ho0, hF0⟩ := hi_obj hh (a := 0) rfl
  obtain ⟨fs8, ho8, hF8⟩ := hi_obj hh (a := 110) rfl
  obtain ⟨gS_, pS, uS, -⟩ := hi_int (a := 114) (n := 4) (sg := [(0, 3, -1, 1)]) hh rfl
  have dec : ∀ x : Int32, (∃ u : Nat, u < 4 ∧ x = nI u ∧ (0 : Int32) ≤ nI u ∧ nI u ≤ 3) ∨ ((x.toInt < 0 ∨ 4 ≤ x.toInt) ∧ ¬ ((0 : Int32) ≤ x ∧ x ≤ 3)) := fun x => by
    by_cases hn : x.toInt < 0 ∨ 4 ≤ x.toInt
    · exact Or.inr ⟨hn, fun q => by
        have q1 := Int32.le_iff_toInt_le.mp q.1
        have q2 := Int32.le_iff_toInt_le.mp q.2
        omega⟩
    · obtain ⟨u, rfl, hu0⟩ := nIof (x := x) (by omega) (by omega)
      exact Or.inl ⟨u, by omega, rfl, (nI_cl (by omega)).1, Int32.le_iff_toInt_le.mpr (by omega)⟩
  rcases dec x1 with ⟨u, hu, rfl, s1⟩ | ⟨n1, s1⟩
  rotate_left
  · rcases dec x3 with ⟨v, hv, rfl, s3⟩ | ⟨n3, s3⟩
    · skip
      refine copy_same hh hj hv_ (v := -1000000001) ⟨Nat.le_of_ble_eq_true rfl, ⟨_, _, rfl⟩, ?_⟩ ⟨Nat.le_of_ble_eq_true rfl, ⟨_, _, rfl⟩, ?_⟩
      · show RA prog E pV1 120 mX7_copy 0 [some (.ref 0), some (.int x1), some (.int x2), some (.int (nI v)), some (.int x4), some (.int x5), none, none] [] h (some (.int (-1000000001)), h, 0, 0)
        refine RA.steps (i' := 2) (L' := [some (.ref 0), some (.int x1), some (.int x2), some (.int (nI v)), some (.int x4), some (.int x5), none, none]) (st' := [.int x1, .ref 0]) (h' := h) 2 rfl ?_
        refine RA.call0 (N := mX7_rowOf) (as := [.ref 0, .int x1]) (rest := []) rfl rfl (pcallV rfl rfl ho0 rfl rfl (Nat.le_of_ble_eq_true rfl)) (rowOf_n (d := 118) hh n1) ?_
        refine RA.steps (i' := 6) (L' := [some (.ref 0), some (.int x1), some (.int x2), some (.int (nI v)), some (.int x4), some (.int x5), some (.null), none]) (st' := [.int (nI v), .ref 0]) (h' := h) 3 rfl ?_
        refine RA.call0 (N := mX7_rowOf) (as := [.ref 0, .int (nI v)]) (rest := []) rfl rfl (pcallV rfl rfl ho0 rfl rfl (Nat.le_of_ble_eq_true rfl)) (rowOf_x (d := 118) hh hv) ?_
        refine RA.steps (i' := 13) (L' := [some (.ref 0), some (.int x1), some (.int x2), some (.int (nI v)), some (.int x4), some (.int x5), some (.null), some (.ref (82 + 2 * v))]) (st' := [.int (-1000000001)]) (h' := h) 4 rfl ?_
        exact RA.ret rfl rfl
      · show RA prog E pV1 120 mX8_copy 0 [some (.ref 110), some (.int x1), some (.int x2), some (.int (nI v)), some (.int x4), some (.int x5), none] [] h (some (.int (-1000000001)), h, 0, 0)
        refine RA.steps (i' := 1) (L' := [some (.ref 110), some (.int x1), some (.int x2), some (.int (nI v)), some (.int x4), some (.int x5), none]) (st' := [.int x1]) (h' := h) 1 rfl ?_
        refine RA.call0 (N := mX8_isSheet) (as := [.int x1]) (rest := []) rfl rfl rfl (isSh_f (d := 117) s1) ?_
        refine RA.if1T rfl rfl ?_
        refine RA.steps (i' := 7) (L' := [some (.ref 110), some (.int x1), some (.int x2), some (.int (nI v)), some (.int x4), some (.int x5), none]) (st' := [.int (-1000000001)]) (h' := h) 1 rfl ?_
        exact RA.ret rfl rfl
    · skip
      refine copy_same hh hj hv_ (v := -1000000001) ⟨Nat.le_of_ble_eq_true rfl, ⟨_, _, rfl⟩, ?_⟩ ⟨Nat.le_of_ble_eq_true rfl, ⟨_, _, rfl⟩, ?_⟩
      · show RA prog E pV1 120 mX7_copy 0 [some (.ref 0), some (.int x1), some (.int x2), some (.int x3), some (.int x4), some (.int x5), none, none] [] h (some (.int (-1000000001)), h, 0, 0)
        refine RA.steps (i' := 2) (L' := [some (.ref 0), some (.int x1), some (.int x2), some (.int x3), some (.int x4), some (.int x5), none, none]) (st' := [.int x1, .ref 0]) (h' := h) 2 rfl ?_
        refine RA.call0 (N := mX7_rowOf) (as := [.ref 0, .int x1]) (rest := []) rfl rfl (pcallV rfl rfl ho0 rfl rfl (Nat.le_of_ble_eq_true rfl)) (rowOf_n (d := 118) hh n1) ?_
        refine RA.steps (i' := 6) (L' := [some (.ref 0), some (.int x1), some (.int x2), some (.int x3), some (.int x4), some (.int x5), some (.null), none]) (st' := [.int x3, .ref 0]) (h' := h) 3 rfl ?_
        refine RA.call0 (N := mX7_rowOf) (as := [.ref 0, .int x3]) (rest := []) rfl rfl (pcallV rfl rfl ho0 rfl rfl (Nat.le_of_ble_eq_true rfl)) (rowOf_n (d := 118) hh n3) ?_
        refine RA.steps (i' := 13) (L' := [some (.ref 0), some (.int x1), some (.int x2), some (.int x3), some (.int x4), some (.int x5), some (.null), some (.null)]) (st' := [.int (-1000000001)]) (h' := h) 4 rfl ?_
        exact RA.ret rfl rfl
      · show RA prog E pV1 120 mX8_copy 0 [some (.ref 110), some (.int x1), some (.int x2), some (.int x3), some (.int x4), some (.int x5), none] [] h (some (.int (-1000000001)), h, 0, 0)
        refine RA.steps (i' := 1) (L' := [some (.ref 110), some (.int x1), some (.int x2), some (.int x3), some (.int x4), some (.int x5), none]) (st' := [.int x1]) (h' := h) 1 rfl ?_
        refine RA.call0 (N := mX8_isSheet) (as := [.int x1]) (rest := []) rfl rfl rfl (isSh_f (d := 117) s1) ?_
        refine RA.if1T rfl rfl ?_
        refine RA.steps (i' := 7) (L' := [some (.ref 110), some (.int x1), some (.int x2), some (.int x3), some (.int x4), some (.int x5), none]) (st' := [.int (-1000000001)]) (h' := h) 1 rfl ?_
        exact RA.ret rfl rfl
  rcases dec x3 with ⟨v, hv, rfl, s3⟩ | ⟨n3, s3⟩
  rotate_left
  · skip
    refine copy_same hh hj hv_ (v := -1000000001) ⟨Nat.le_of_ble_eq_true rfl, ⟨_, _, rfl⟩, ?_⟩ ⟨Nat.le_of_ble_eq_true rfl, ⟨_, _, rfl⟩, ?_⟩
    · show RA prog E pV1 120 mX7_copy 0 [some (.ref 0), some (.int (nI u)), some (.int x2), some (.int x3), some (.int x4), some (.int x5), none, none] [] h (some (.int (-1000000001)), h, 0, 0)
      refine RA.steps (i' := 2) (L' := [some (.ref 0), some (.int (nI u)), some (.int x2), some (.int x3), some (.int x4), some (.int x5), none, none]) (st' := [.int (nI u), .ref 0]) (h' := h) 2 rfl ?_
      refine RA.call0 (N := mX7_rowOf) (as := [.ref 0, .int (nI u)]) (rest := []) rfl rfl (pcallV rfl rfl ho0 rfl rfl (Nat.le_of_ble_eq_true rfl)) (rowOf_x (d := 118) hh hu) ?_
      refine RA.steps (i' := 6) (L' := [some (.ref 0), some (.int (nI u)), some (.int x2), some (.int x3), some (.int x4), some (.int x5), some (.ref (82 + 2 * u)), none]) (st' := [.int x3, .ref 0]) (h' := h) 3 rfl ?_
      refine RA.call0 (N := mX7_rowOf) (as := [.ref 0, .int x3]) (rest := []) rfl rfl (pcallV rfl rfl ho0 rfl rfl (Nat.le_of_ble_eq_true rfl)) (rowOf_n (d := 118) hh n3) ?_
      refine RA.steps (i' := 13) (L' := [some (.ref 0), some (.int (nI u)), some (.int x2), some (.int x3), some (.int x4), some (.int x5), some (.ref (82 + 2 * u)), some (.null)]) (st' := [.int (-1000000001)]) (h' := h) 6 rfl ?_
      exact RA.ret rfl rfl
    · show RA prog E pV1 120 mX8_copy 0 [some (.ref 110), some (.int (nI u)), some (.int x2), some (.int x3), some (.int x4), some (.int x5), none] [] h (some (.int (-1000000001)), h, 0, 0)
      refine RA.steps (i' := 1) (L' := [some (.ref 110), some (.int (nI u)), some (.int x2), some (.int x3), some (.int x4), some (.int x5), none]) (st' := [.int (nI u)]) (h' := h) 1 rfl ?_
      refine RA.call0 (N := mX8_isSheet) (as := [.int (nI u)]) (rest := []) rfl rfl rfl (isSh_t (d := 117) s1) ?_
      refine RA.if1F rfl rfl ?_
      refine RA.steps (i' := 4) (L' := [some (.ref 110), some (.int (nI u)), some (.int x2), some (.int x3), some (.int x4), some (.int x5), none]) (st' := [.int x3]) (h' := h) 1 rfl ?_
      refine RA.call0 (N := mX8_isSheet) (as := [.int x3]) (rest := []) rfl rfl rfl (isSh_f (d := 117) s3) ?_
      refine RA.if1F rfl rfl ?_
      refine RA.steps (i' := 7) (L' := [some (.ref 110), some (.int (nI u)), some (.int x2), some (.int x3), some (.int x4), some (.int x5), none]) (st' := [.int (-1000000001)]) (h' := h) 1 rfl ?_
      exact RA.ret rfl rfl
  obtain ⟨esu, ezu⟩ := hs u hu
  obtain ⟨esv, ezv⟩ := hs v hv
  obtain ⟨⟨su0, su1⟩, zu0, zu24⟩ := rows_ty hh u hu
  obtain ⟨⟨sv0, sv1⟩, zv0, zv24⟩ := rows_ty hh v hv
  obtain ⟨fsu, hou, ku, su, zu⟩ := row_obj hh u hu
  obtain ⟨fsv, hov, kv, sv, zv⟩ := row_obj hh v hv
  obtain ⟨f, pu, -⟩ := vals_at hh u hu
  obtain ⟨g, pv, -⟩ := vals_at hh v hv
  have bu : 0 ≤ nI u ∧ (nI u).toNatClampNeg < 4 := ⟨(nI_cl (by omega)).1, by rw [(nI_cl (by omega)).2]; exact hu⟩
  have bv : 0 ≤ nI v ∧ (nI v).toNatClampNeg < 4 := ⟨(nI_cl (by omega)).1, by rw [(nI_cl (by omega)).2]; exact hv⟩
  have eu : gS_ (nI u).toNatClampNeg = ri h 114 u := by rw [(nI_cl (by omega)).2]; exact (uS u hu).symm
  have ev : gS_ (nI v).toNatClampNeg = ri h 114 v := by rw [(nI_cl (by omega)).2]; exact (uS v hv).symm
  have pos : ∀ w : Nat, -1 ≤ (ri h 114 w).toInt → ri h (82 + 2 * w) 1 = ri h 114 w → ¬ ri h (82 + 2 * w) 1 = -1 → (0 : Int32) ≤ ri h 114 w := fun w a b c => Int32.le_iff_toInt_le.mpr (by
    have : ¬ (ri h 114 w).toInt = -1 := fun q => c (by rw [b]; exact Int32.toInt_inj.mp (q.trans (by decide)))
    omega)
  by_cases mu : ri h (82 + 2 * u) 1 = -1
  · have gu : ri h 114 u < 0 := by rw [← esu, mu]; decide
    refine copy_same hh hj hv_ (v := -1000000011) ⟨Nat.le_of_ble_eq_true rfl, ⟨_, _, rfl⟩, ?_⟩ ⟨Nat.le_of_ble_eq_true rfl, ⟨_, _, rfl⟩, ?_⟩
    · show RA prog E pV1 120 mX7_copy 0 [some (.ref 0), some (.int (nI u)), some (.int x2), some (.int (nI v)), some (.int x4), some (.int x5), none, none] [] h (some (.int (-1000000011)), h, 0, 0)
      refine RA.steps (i' := 2) (L' := [some (.ref 0), some (.int (nI u)), some (.int x2), some (.int (nI v)), some (.int x4), some (.int x5), none, none]) (st' := [.int (nI u), .ref 0]) (h' := h) 2 rfl ?_
      refine RA.call0 (N := mX7_rowOf) (as := [.ref 0, .int (nI u)]) (rest := []) rfl rfl (pcallV rfl rfl ho0 rfl rfl (Nat.le_of_ble_eq_true rfl)) (rowOf_x (d := 118) hh hu) ?_
      refine RA.steps (i' := 6) (L' := [some (.ref 0), some (.int (nI u)), some (.int x2), some (.int (nI v)), some (.int x4), some (.int x5), some (.ref (82 + 2 * u)), none]) (st' := [.int (nI v), .ref 0]) (h' := h) 3 rfl ?_
      refine RA.call0 (N := mX7_rowOf) (as := [.ref 0, .int (nI v)]) (rest := []) rfl rfl (pcallV rfl rfl ho0 rfl rfl (Nat.le_of_ble_eq_true rfl)) (rowOf_x (d := 118) hh hv) ?_
      refine RA.steps (i' := 15) (L' := [some (.ref 0), some (.int (nI u)), some (.int x2), some (.int (nI v)), some (.int x4), some (.int x5), some (.ref (82 + 2 * u)), some (.ref (82 + 2 * v))]) (st' := [.ref (82 + 2 * u)]) (h' := h) 6 rfl ?_
      refine RA.call0 (N := mX3_isMissing) (as := [.ref (82 + 2 * u)]) (rest := []) rfl rfl (pcallV rfl rfl hou rfl rfl (Nat.le_of_ble_eq_true rfl)) (isMis_t (d := 118) hh hu mu) ?_
      refine RA.if1T rfl rfl ?_
      refine RA.steps (i' := 21) (L' := [some (.ref 0), some (.int (nI u)), some (.int x2), some (.int (nI v)), some (.int x4), some (.int x5), some (.ref (82 + 2 * u)), some (.ref (82 + 2 * v))]) (st' := [.int (-1000000011)]) (h' := h) 1 rfl ?_
      exact RA.ret rfl rfl
    · show RA prog E pV1 120 mX8_copy 0 [some (.ref 110), some (.int (nI u)), some (.int x2), some (.int (nI v)), some (.int x4), some (.int x5), none] [] h (some (.int (-1000000011)), h, 0, 0)
      refine RA.steps (i' := 1) (L' := [some (.ref 110), some (.int (nI u)), some (.int x2), some (.int (nI v)), some (.int x4), some (.int x5), none]) (st' := [.int (nI u)]) (h' := h) 1 rfl ?_
      refine RA.call0 (N := mX8_isSheet) (as := [.int (nI u)]) (rest := []) rfl rfl rfl (isSh_t (d := 117) s1) ?_
      refine RA.if1F rfl rfl ?_
      refine RA.steps (i' := 4) (L' := [some (.ref 110), some (.int (nI u)), some (.int x2), some (.int (nI v)), some (.int x4), some (.int x5), none]) (st' := [.int (nI v)]) (h' := h) 1 rfl ?_
      refine RA.call0 (N := mX8_isSheet) (as := [.int (nI v)]) (rest := []) rfl rfl rfl (isSh_t (d := 117) s3) ?_
      refine RA.if1T rfl rfl ?_
      refine RA.steps (i' := 9) (L' := [some (.ref 110), some (.int (nI u)), some (.int x2), some (.int (nI v)), some (.int x4), some (.int x5), none]) (st' := [.ref 110]) (h' := h) 1 rfl ?_
      refine RA.getf rfl ho8 rfl (hF8.ref (k := 4) rfl) ?_
      refine RA.steps (i' := 11) (L' := [some (.ref 110), some (.int (nI u)), some (.int x2), some (.int (nI v)), some (.int x4), some (.int x5), none]) (st' := [.int (nI u), .ref 114]) (h' := h) 1 rfl ?_
      refine RA.iald rfl pS bu eu ?_
      refine RA.if1T rfl (decide_eq_true gu) ?_
      refine RA.steps (i' := 19) (L' := [some (.ref 110), some (.int (nI u)), some (.int x2), some (.int (nI v)), some (.int x4), some (.int x5), none]) (st' := [.int (-1000000011)]) (h' := h) 1 rfl ?_
      exact RA.ret rfl rfl
  have gu := pos u su0 esu mu
  by_cases mv : ri h (82 + 2 * v) 1 = -1
  · have gv : ¬ (0 : Int32) ≤ ri h 114 v := by rw [← esv, mv]; decide
    refine copy_same hh hj hv_ (v := -1000000011) ⟨Nat.le_of_ble_eq_true rfl, ⟨_, _, rfl⟩, ?_⟩ ⟨Nat.le_of_ble_eq_true rfl, ⟨_, _, rfl⟩, ?_⟩
    · show RA prog E pV1 120 mX7_copy 0 [some (.ref 0), some (.int (nI u)), some (.int x2), some (.int (nI v)), some (.int x4), some (.int x5), none, none] [] h (some (.int (-1000000011)), h, 0, 0)
      refine RA.steps (i' := 2) (L' := [some (.ref 0), some (.int (nI u)), some (.int x2), some (.int (nI v)), some (.int x4), some (.int x5), none, none]) (st' := [.int (nI u), .ref 0]) (h' := h) 2 rfl ?_
      refine RA.call0 (N := mX7_rowOf) (as := [.ref 0, .int (nI u)]) (rest := []) rfl rfl (pcallV rfl rfl ho0 rfl rfl (Nat.le_of_ble_eq_true rfl)) (rowOf_x (d := 118) hh hu) ?_
      refine RA.steps (i' := 6) (L' := [some (.ref 0), some (.int (nI u)), some (.int x2), some (.int (nI v)), some (.int x4), some (.int x5), some (.ref (82 + 2 * u)), none]) (st' := [.int (nI v), .ref 0]) (h' := h) 3 rfl ?_
      refine RA.call0 (N := mX7_rowOf) (as := [.ref 0, .int (nI v)]) (rest := []) rfl rfl (pcallV rfl rfl ho0 rfl rfl (Nat.le_of_ble_eq_true rfl)) (rowOf_x (d := 118) hh hv) ?_
      refine RA.steps (i' := 15) (L' := [some (.ref 0), some (.int (nI u)), some (.int x2), some (.int (nI v)), some (.int x4), some (.int x5), some (.ref (82 + 2 * u)), some (.ref (82 + 2 * v))]) (st' := [.ref (82 + 2 * u)]) (h' := h) 6 rfl ?_
      refine RA.call0 (N := mX3_isMissing) (as := [.ref (82 + 2 * u)]) (rest := []) rfl rfl (pcallV rfl rfl hou rfl rfl (Nat.le_of_ble_eq_true rfl)) (isMis_f (d := 118) hh hu mu) ?_
      refine RA.if1F rfl rfl ?_
      refine RA.steps (i' := 18) (L' := [some (.ref 0), some (.int (nI u)), some (.int x2), some (.int (nI v)), some (.int x4), some (.int x5), some (.ref (82 + 2 * u)), some (.ref (82 + 2 * v))]) (st' := [.ref (82 + 2 * v)]) (h' := h) 1 rfl ?_
      refine RA.call0 (N := mX3_isMissing) (as := [.ref (82 + 2 * v)]) (rest := []) rfl rfl (pcallV rfl rfl hov rfl rfl (Nat.le_of_ble_eq_true rfl)) (isMis_t (d := 118) hh hv mv) ?_
      refine RA.if1F rfl rfl ?_
      refine RA.steps (i' := 21) (L' := [some (.ref 0), some (.int (nI u)), some (.int x2), some (.int (nI v)), some (.int x4), some (.int x5), some (.ref (82 + 2 * u)), some (.ref (82 + 2 * v))]) (st' := [.int (-1000000011)]) (h' := h) 1 rfl ?_
      exact RA.ret rfl rfl
    · show RA prog E pV1 120 mX8_copy 0 [some (.ref 110), some (.int (nI u)), some (.int x2), some (.int (nI v)), some (.int x4), some (.int x5), none] [] h (some (.int (-1000000011)), h, 0, 0)
      refine RA.steps (i' := 1) (L' := [some (.ref 110), some (.int (nI u)), some (.int x2), some (.int (nI v)), some (.int x4), some (.int x5), none]) (st' := [.int (nI u)]) (h' := h) 1 rfl ?_
      refine RA.call0 (N := mX8_isSheet) (as := [.int (nI u)]) (rest := []) rfl rfl rfl (isSh_t (d := 117) s1) ?_
      refine RA.if1F rfl rfl ?_
      refine RA.steps (i' := 4) (L' := [some (.ref 110), some (.int (nI u)), some (.int x2), some (.int (nI v)), some (.int x4), some (.int x5), none]) (st' := [.int (nI v)]) (h' := h) 1 rfl ?_
      refine RA.call0 (N := mX8_isSheet) (as := [.int (nI v)]) (rest := []) rfl rfl rfl (isSh_t (d := 117) s3) ?_
      refine RA.if1T rfl rfl ?_
      refine RA.steps (i' := 9) (L' := [some (.ref 110), some (.int (nI u)), some (.int x2), some (.int (nI v)), some (.int x4), some (.int x5), none]) (st' := [.ref 110]) (h' := h) 1 rfl ?_
      refine RA.getf rfl ho8 rfl (hF8.ref (k := 4) rfl) ?_
      refine RA.steps (i' := 11) (L' := [some (.ref 110), some (.int (nI u)), some (.int x2), some (.int (nI v)), some (.int x4), some (.int x5), none]) (st' := [.int (nI u), .ref 114]) (h' := h) 1 rfl ?_
      refine RA.iald rfl pS bu eu ?_
      refine RA.if1F rfl (decide_eq_false (Int32.not_lt.mpr gu)) ?_
      refine RA.steps (i' := 14) (L' := [some (.ref 110), some (.int (nI u)), some (.int x2), some (.int (nI v)), some (.int x4), some (.int x5), none]) (st' := [.ref 110]) (h' := h) 1 rfl ?_
      refine RA.getf rfl ho8 rfl (hF8.ref (k := 4) rfl) ?_
      refine RA.steps (i' := 16) (L' := [some (.ref 110), some (.int (nI u)), some (.int x2), some (.int (nI v)), some (.int x4), some (.int x5), none]) (st' := [.int (nI v), .ref 114]) (h' := h) 1 rfl ?_
      refine RA.iald rfl pS bv ev ?_
      refine RA.if1F rfl (decide_eq_false gv) ?_
      refine RA.steps (i' := 19) (L' := [some (.ref 110), some (.int (nI u)), some (.int x2), some (.int (nI v)), some (.int x4), some (.int x5), none]) (st' := [.int (-1000000011)]) (h' := h) 1 rfl ?_
      exact RA.ret rfl rfl
  have gv := pos v sv0 esv mv
  by_cases ess : ri h (82 + 2 * u) 1 = ri h (82 + 2 * v) 1
  rotate_left
  · have esr : ¬ ri h 114 u = ri h 114 v := fun q => ess (by rw [esu, esv, q])
    refine copy_same hh hj hv_ (v := -1000000012) ⟨Nat.le_of_ble_eq_true rfl, ⟨_, _, rfl⟩, ?_⟩ ⟨Nat.le_of_ble_eq_true rfl, ⟨_, _, rfl⟩, ?_⟩
    · show RA prog E pV1 120 mX7_copy 0 [some (.ref 0), some (.int (nI u)), some (.int x2), some (.int (nI v)), some (.int x4), some (.int x5), none, none] [] h (some (.int (-1000000012)), h, 0, 0)
      refine RA.steps (i' := 2) (L' := [some (.ref 0), some (.int (nI u)), some (.int x2), some (.int (nI v)), some (.int x4), some (.int x5), none, none]) (st' := [.int (nI u), .ref 0]) (h' := h) 2 rfl ?_
      refine RA.call0 (N := mX7_rowOf) (as := [.ref 0, .int (nI u)]) (rest := []) rfl rfl (pcallV rfl rfl ho0 rfl rfl (Nat.le_of_ble_eq_true rfl)) (rowOf_x (d := 118) hh hu) ?_
      refine RA.steps (i' := 6) (L' := [some (.ref 0), some (.int (nI u)), some (.int x2), some (.int (nI v)), some (.int x4), some (.int x5), some (.ref (82 + 2 * u)), none]) (st' := [.int (nI v), .ref 0]) (h' := h) 3 rfl ?_
      refine RA.call0 (N := mX7_rowOf) (as := [.ref 0, .int (nI v)]) (rest := []) rfl rfl (pcallV rfl rfl ho0 rfl rfl (Nat.le_of_ble_eq_true rfl)) (rowOf_x (d := 118) hh hv) ?_
      refine RA.steps (i' := 15) (L' := [some (.ref 0), some (.int (nI u)), some (.int x2), some (.int (nI v)), some (.int x4), some (.int x5), some (.ref (82 + 2 * u)), some (.ref (82 + 2 * v))]) (st' := [.ref (82 + 2 * u)]) (h' := h) 6 rfl ?_
      refine RA.call0 (N := mX3_isMissing) (as := [.ref (82 + 2 * u)]) (rest := []) rfl rfl (pcallV rfl rfl hou rfl rfl (Nat.le_of_ble_eq_true rfl)) (isMis_f (d := 118) hh hu mu) ?_
      refine RA.if1F rfl rfl ?_
      refine RA.steps (i' := 18) (L' := [some (.ref 0), some (.int (nI u)), some (.int x2), some (.int (nI v)), some (.int x4), some (.int x5), some (.ref (82 + 2 * u)), some (.ref (82 + 2 * v))]) (st' := [.ref (82 + 2 * v)]) (h' := h) 1 rfl ?_
      refine RA.call0 (N := mX3_isMissing) (as := [.ref (82 + 2 * v)]) (rest := []) rfl rfl (pcallV rfl rfl hov rfl rfl (Nat.le_of_ble_eq_true rfl)) (isMis_f (d := 118) hh hv mv) ?_
      refine RA.if1T rfl rfl ?_
      refine RA.steps (i' := 23) (L' := [some (.ref 0), some (.int (nI u)), some (.int x2), some (.int (nI v)), some (.int x4), some (.int x5), some (.ref (82 + 2 * u)), some (.ref (82 + 2 * v))]) (st' := [.ref (82 + 2 * u)]) (h' := h) 1 rfl ?_
      refine RA.getf rfl hou rfl su ?_
      refine RA.steps (i' := 25) (L' := [some (.ref 0), some (.int (nI u)), some (.int x2), some (.int (nI v)), some (.int x4), some (.int x5), some (.ref (82 + 2 * u)), some (.ref (82 + 2 * v))]) (st' := [.ref (82 + 2 * v), .int (ri h (82 + 2 * u) 1)]) (h' := h) 1 rfl ?_
      refine RA.getf rfl hov rfl sv ?_
      refine RA.if2F rfl (decide_eq_false ess) ?_
      refine RA.steps (i' := 28) (L' := [some (.ref 0), some (.int (nI u)), some (.int x2), some (.int (nI v)), some (.int x4), some (.int x5), some (.ref (82 + 2 * u)), some (.ref (82 + 2 * v))]) (st' := [.int (-1000000012)]) (h' := h) 1 rfl ?_
      exact RA.ret rfl rfl
    · show RA prog E pV1 120 mX8_copy 0 [some (.ref 110), some (.int (nI u)), some (.int x2), some (.int (nI v)), some (.int x4), some (.int x5), none] [] h (some (.int (-1000000012)), h, 0, 0)
      refine RA.steps (i' := 1) (L' := [some (.ref 110), some (.int (nI u)), some (.int x2), some (.int (nI v)), some (.int x4), some (.int x5), none]) (st' := [.int (nI u)]) (h' := h) 1 rfl ?_
      refine RA.call0 (N := mX8_isSheet) (as := [.int (nI u)]) (rest := []) rfl rfl rfl (isSh_t (d := 117) s1) ?_
      refine RA.if1F rfl rfl ?_
      refine RA.steps (i' := 4) (L' := [some (.ref 110), some (.int (nI u)), some (.int x2), some (.int (nI v)), some (.int x4), some (.int x5), none]) (st' := [.int (nI v)]) (h' := h) 1 rfl ?_
      refine RA.call0 (N := mX8_isSheet) (as := [.int (nI v)]) (rest := []) rfl rfl rfl (isSh_t (d := 117) s3) ?_
      refine RA.if1T rfl rfl ?_
      refine RA.steps (i' := 9) (L' := [some (.ref 110), some (.int (nI u)), some (.int x2), some (.int (nI v)), some (.int x4), some (.int x5), none]) (st' := [.ref 110]) (h' := h) 1 rfl ?_
      refine RA.getf rfl ho8 rfl (hF8.ref (k := 4) rfl) ?_
      refine RA.steps (i' := 11) (L' := [some (.ref 110), some (.int (nI u)), some (.int x2), some (.int (nI v)), some (.int x4), some (.int x5), none]) (st' := [.int (nI u), .ref 114]) (h' := h) 1 rfl ?_
      refine RA.iald rfl pS bu eu ?_
      refine RA.if1F rfl (decide_eq_false (Int32.not_lt.mpr gu)) ?_
      refine RA.steps (i' := 14) (L' := [some (.ref 110), some (.int (nI u)), some (.int x2), some (.int (nI v)), some (.int x4), some (.int x5), none]) (st' := [.ref 110]) (h' := h) 1 rfl ?_
      refine RA.getf rfl ho8 rfl (hF8.ref (k := 4) rfl) ?_
      refine RA.steps (i' := 16) (L' := [some (.ref 110), some (.int (nI u)), some (.int x2), some (.int (nI v)), some (.int x4), some (.int x5), none]) (st' := [.int (nI v), .ref 114]) (h' := h) 1 rfl ?_
      refine RA.iald rfl pS bv ev ?_
      refine RA.if1T rfl (decide_eq_true gv) ?_
      refine RA.steps (i' := 21) (L' := [some (.ref 110), some (.int (nI u)), some (.int x2), some (.int (nI v)), some (.int x4), some (.int x5), none]) (st' := [.ref 110]) (h' := h) 1 rfl ?_
      refine RA.getf rfl ho8 rfl (hF8.ref (k := 4) rfl) ?_
      refine RA.steps (i' := 23) (L' := [some (.ref 110), some (.int (nI u)), some (.int x2), some (.int (nI v)), some (.int x4), some (.int x5), none]) (st' := [.int (nI u), .ref 114]) (h' := h) 1 rfl ?_
      refine RA.iald rfl pS bu eu ?_
      refine RA.steps (i' := 25) (L' := [some (.ref 110), some (.int (nI u)), some (.int x2), some (.int (nI v)), some (.int x4), some (.int x5), none]) (st' := [.ref 110, .int (ri h 114 u)]) (h' := h) 1 rfl ?_
      refine RA.getf rfl ho8 rfl (hF8.ref (k := 4) rfl) ?_
      refine RA.steps (i' := 27) (L' := [some (.ref 110), some (.int (nI u)), some (.int x2), some (.int (nI v)), some (.int x4), some (.int x5), none]) (st' := [.int (nI v), .ref 114, .int (ri h 114 u)]) (h' := h) 1 rfl ?_
      refine RA.iald rfl pS bv ev ?_
      refine RA.if2F rfl (decide_eq_false esr) ?_
      refine RA.steps (i' := 30) (L' := [some (.ref 110), some (.int (nI u)), some (.int x2), some (.int (nI v)), some (.int x4), some (.int x5), none]) (st' := [.int (-1000000012)]) (h' := h) 1 rfl ?_
      exact RA.ret rfl rfl
  have esr : ri h 114 u = ri h 114 v := by rw [← esu, ← esv, ess]
  have l24u : ri h (82 + 2 * u) 2 ≤ nI 24 := Int32.le_iff_toInt_le.mpr (by rw [nI_toInt (by decide), ezu]; omega)
  have l24v : ri h (82 + 2 * v) 2 ≤ nI 24 := Int32.le_iff_toInt_le.mpr (by rw [nI_toInt (by decide), ezv]; omega)
  have i1 := ha_iff (x := x2) (m := x5) (l := ri h (82 + 2 * u) 2)
  have i2 := ha_iff (x := x4) (m := x5) (l := ri h (82 + 2 * v) 2)
  rw [ezu] at i1
  rw [ezv] at i2
  by_cases hP : CpP x2.toInt x4.toInt x5.toInt (ri h 115 u).toInt (ri h 115 v).toInt
  rotate_left
  · have rr : RA prog E pV1 120 mX8_copy 0 [some (.ref 110), some (.int (nI u)), some (.int x2), some (.int (nI v)), some (.int x4), some (.int x5), none] [] h (some (.int (-1000000013)), h, 0, 0) := by
      refine RA.steps (i' := 1) (L' := [some (.ref 110), some (.int (nI u)), some (.int x2), some (.int (nI v)), some (.int x4), some (.int x5), none]) (st' := [.int (nI u)]) (h' := h) 1 rfl ?_
      refine RA.call0 (N := mX8_isSheet) (as := [.int (nI u)]) (rest := []) rfl rfl rfl (isSh_t (d := 117) s1) ?_
      refine RA.if1F rfl rfl ?_
      refine RA.steps (i' := 4) (L' := [some (.ref 110), some (.int (nI u)), some (.int x2), some (.int (nI v)), some (.int x4), some (.int x5), none]) (st' := [.int (nI v)]) (h' := h) 1 rfl ?_
      refine RA.call0 (N := mX8_isSheet) (as := [.int (nI v)]) (rest := []) rfl rfl rfl (isSh_t (d := 117) s3) ?_
      refine RA.if1T rfl rfl ?_
      refine RA.steps (i' := 9) (L' := [some (.ref 110), some (.int (nI u)), some (.int x2), some (.int (nI v)), some (.int x4), some (.int x5), none]) (st' := [.ref 110]) (h' := h) 1 rfl ?_
      refine RA.getf rfl ho8 rfl (hF8.ref (k := 4) rfl) ?_
      refine RA.steps (i' := 11) (L' := [some (.ref 110), some (.int (nI u)), some (.int x2), some (.int (nI v)), some (.int x4), some (.int x5), none]) (st' := [.int (nI u), .ref 114]) (h' := h) 1 rfl ?_
      refine RA.iald rfl pS bu eu ?_
      refine RA.if1F rfl (decide_eq_false (Int32.not_lt.mpr gu)) ?_
      refine RA.steps (i' := 14) (L' := [some (.ref 110), some (.int (nI u)), some (.int x2), some (.int (nI v)), some (.int x4), some (.int x5), none]) (st' := [.ref 110]) (h' := h) 1 rfl ?_
      refine RA.getf rfl ho8 rfl (hF8.ref (k := 4) rfl) ?_
      refine RA.steps (i' := 16) (L' := [some (.ref 110), some (.int (nI u)), some (.int x2), some (.int (nI v)), some (.int x4), some (.int x5), none]) (st' := [.int (nI v), .ref 114]) (h' := h) 1 rfl ?_
      refine RA.iald rfl pS bv ev ?_
      refine RA.if1T rfl (decide_eq_true gv) ?_
      refine RA.steps (i' := 21) (L' := [some (.ref 110), some (.int (nI u)), some (.int x2), some (.int (nI v)), some (.int x4), some (.int x5), none]) (st' := [.ref 110]) (h' := h) 1 rfl ?_
      refine RA.getf rfl ho8 rfl (hF8.ref (k := 4) rfl) ?_
      refine RA.steps (i' := 23) (L' := [some (.ref 110), some (.int (nI u)), some (.int x2), some (.int (nI v)), some (.int x4), some (.int x5), none]) (st' := [.int (nI u), .ref 114]) (h' := h) 1 rfl ?_
      refine RA.iald rfl pS bu eu ?_
      refine RA.steps (i' := 25) (L' := [some (.ref 110), some (.int (nI u)), some (.int x2), some (.int (nI v)), some (.int x4), some (.int x5), none]) (st' := [.ref 110, .int (ri h 114 u)]) (h' := h) 1 rfl ?_
      refine RA.getf rfl ho8 rfl (hF8.ref (k := 4) rfl) ?_
      refine RA.steps (i' := 27) (L' := [some (.ref 110), some (.int (nI u)), some (.int x2), some (.int (nI v)), some (.int x4), some (.int x5), none]) (st' := [.int (nI v), .ref 114, .int (ri h 114 u)]) (h' := h) 1 rfl ?_
      refine RA.iald rfl pS bv ev ?_
      refine RA.if2T rfl (decide_eq_true esr) ?_
      exact cp_31 hh hu hv _ (fun q => absurd q hP) (fun _ => rfl)
    by_cases ha1 : HA x2 x5 (ri h (82 + 2 * u) 2)
    · have ha2 : ¬ HA x4 x5 (ri h (82 + 2 * v) 2) := fun q => hP (by
        rw [ezu] at ha1
        rw [ezv] at q
        obtain ⟨a1, a2, a3⟩ := i1.mp ha1
        obtain ⟨b1, b2, b3⟩ := i2.mp q
        exact ⟨a1, b1, a2, a3, b3⟩)
      refine copy_same hh hj hv_ (v := -1000000013) ⟨Nat.le_of_ble_eq_true rfl, ⟨_, _, rfl⟩, ?_⟩ ⟨Nat.le_of_ble_eq_true rfl, ⟨_, _, rfl⟩, rr⟩
      show RA prog E pV1 120 mX7_copy 0 [some (.ref 0), some (.int (nI u)), some (.int x2), some (.int (nI v)), some (.int x4), some (.int x5), none, none] [] h (some (.int (-1000000013)), h, 0, 0)
      refine RA.steps (i' := 2) (L' := [some (.ref 0), some (.int (nI u)), some (.int x2), some (.int (nI v)), some (.int x4), some (.int x5), none, none]) (st' := [.int (nI u), .ref 0]) (h' := h) 2 rfl ?_
      refine RA.call0 (N := mX7_rowOf) (as := [.ref 0, .int (nI u)]) (rest := []) rfl rfl (pcallV rfl rfl ho0 rfl rfl (Nat.le_of_ble_eq_true rfl)) (rowOf_x (d := 118) hh hu) ?_
      refine RA.steps (i' := 6) (L' := [some (.ref 0), some (.int (nI u)), some (.int x2), some (.int (nI v)), some (.int x4), some (.int x5), some (.ref (82 + 2 * u)), none]) (st' := [.int (nI v), .ref 0]) (h' := h) 3 rfl ?_
      refine RA.call0 (N := mX7_rowOf) (as := [.ref 0, .int (nI v)]) (rest := []) rfl rfl (pcallV rfl rfl ho0 rfl rfl (Nat.le_of_ble_eq_true rfl)) (rowOf_x (d := 118) hh hv) ?_
      refine RA.steps (i' := 15) (L' := [some (.ref 0), some (.int (nI u)), some (.int x2), some (.int (nI v)), some (.int x4), some (.int x5), some (.ref (82 + 2 * u)), some (.ref (82 + 2 * v))]) (st' := [.ref (82 + 2 * u)]) (h' := h) 6 rfl ?_
      refine RA.call0 (N := mX3_isMissing) (as := [.ref (82 + 2 * u)]) (rest := []) rfl rfl (pcallV rfl rfl hou rfl rfl (Nat.le_of_ble_eq_true rfl)) (isMis_f (d := 118) hh hu mu) ?_
      refine RA.if1F rfl rfl ?_
      refine RA.steps (i' := 18) (L' := [some (.ref 0), some (.int (nI u)), some (.int x2), some (.int (nI v)), some (.int x4), some (.int x5), some (.ref (82 + 2 * u)), some (.ref (82 + 2 * v))]) (st' := [.ref (82 + 2 * v)]) (h' := h) 1 rfl ?_
      refine RA.call0 (N := mX3_isMissing) (as := [.ref (82 + 2 * v)]) (rest := []) rfl rfl (pcallV rfl rfl hov rfl rfl (Nat.le_of_ble_eq_true rfl)) (isMis_f (d := 118) hh hv mv) ?_
      refine RA.if1T rfl rfl ?_
      refine RA.steps (i' := 23) (L' := [some (.ref 0), some (.int (nI u)), some (.int x2), some (.int (nI v)), some (.int x4), some (.int x5), some (.ref (82 + 2 * u)), some (.ref (82 + 2 * v))]) (st' := [.ref (82 + 2 * u)]) (h' := h) 1 rfl ?_
      refine RA.getf rfl hou rfl su ?_
      refine RA.steps (i' := 25) (L' := [some (.ref 0), some (.int (nI u)), some (.int x2), some (.int (nI v)), some (.int x4), some (.int x5), some (.ref (82 + 2 * u)), some (.ref (82 + 2 * v))]) (st' := [.ref (82 + 2 * v), .int (ri h (82 + 2 * u) 1)]) (h' := h) 1 rfl ?_
      refine RA.getf rfl hov rfl sv ?_
      refine RA.if2T rfl (decide_eq_true ess) ?_
      refine RA.steps (i' := 32) (L' := [some (.ref 0), some (.int (nI u)), some (.int x2), some (.int (nI v)), some (.int x4), some (.int x5), some (.ref (82 + 2 * u)), some (.ref (82 + 2 * v))]) (st' := [.int x5, .int x2, .ref (82 + 2 * u)]) (h' := h) 3 rfl ?_
      refine RA.call0 (N := mX3_hasAll) (as := [.ref (82 + 2 * u), .int x2, .int x5]) (rest := []) rfl rfl (pcallV rfl rfl hou rfl rfl (Nat.le_of_ble_eq_true rfl)) (hasAll_t (d := 118) hh hu l24u ha1) ?_
      refine RA.if1F rfl rfl ?_
      refine RA.steps (i' := 37) (L' := [some (.ref 0), some (.int (nI u)), some (.int x2), some (.int (nI v)), some (.int x4), some (.int x5), some (.ref (82 + 2 * u)), some (.ref (82 + 2 * v))]) (st' := [.int x5, .int x4, .ref (82 + 2 * v)]) (h' := h) 3 rfl ?_
      refine RA.call0 (N := mX3_hasAll) (as := [.ref (82 + 2 * v), .int x4, .int x5]) (rest := []) rfl rfl (pcallV rfl rfl hov rfl rfl (Nat.le_of_ble_eq_true rfl)) (hasAll_f (d := 118) hh hv l24v ha2) ?_
      refine RA.if1F rfl rfl ?_
      refine RA.steps (i' := 40) (L' := [some (.ref 0), some (.int (nI u)), some (.int x2), some (.int (nI v)), some (.int x4), some (.int x5), some (.ref (82 + 2 * u)), some (.ref (82 + 2 * v))]) (st' := [.int (-1000000013)]) (h' := h) 1 rfl ?_
      exact RA.ret rfl rfl
    · refine copy_same hh hj hv_ (v := -1000000013) ⟨Nat.le_of_ble_eq_true rfl, ⟨_, _, rfl⟩, ?_⟩ ⟨Nat.le_of_ble_eq_true rfl, ⟨_, _, rfl⟩, rr⟩
      show RA prog E pV1 120 mX7_copy 0 [some (.ref 0), some (.int (nI u)), some (.int x2), some (.int (nI v)), some (.int x4), some (.int x5), none, none] [] h (some (.int (-1000000013)), h, 0, 0)
      refine RA.steps (i' := 2) (L' := [some (.ref 0), some (.int (nI u)), some (.int x2), some (.int (nI v)), some (.int x4), some (.int x5), none, none]) (st' := [.int (nI u), .ref 0]) (h' := h) 2 rfl ?_
      refine RA.call0 (N := mX7_rowOf) (as := [.ref 0, .int (nI u)]) (rest := []) rfl rfl (pcallV rfl rfl ho0 rfl rfl (Nat.le_of_ble_eq_true rfl)) (rowOf_x (d := 118) hh hu) ?_
      refine RA.steps (i' := 6) (L' := [some (.ref 0), some (.int (nI u)), some (.int x2), some (.int (nI v)), some (.int x4), some (.int x5), some (.ref (82 + 2 * u)), none]) (st' := [.int (nI v), .ref 0]) (h' := h) 3 rfl ?_
      refine RA.call0 (N := mX7_rowOf) (as := [.ref 0, .int (nI v)]) (rest := []) rfl rfl (pcallV rfl rfl ho0 rfl rfl (Nat.le_of_ble_eq_true rfl)) (rowOf_x (d := 118) hh hv) ?_
      refine RA.steps (i' := 15) (L' := [some (.ref 0), some (.int (nI u)), some (.int x2), some (.int (nI v)), some (.int x4), some (.int x5), some (.ref (82 + 2 * u)), some (.ref (82 + 2 * v))]) (st' := [.ref (82 + 2 * u)]) (h' := h) 6 rfl ?_
      refine RA.call0 (N := mX3_isMissing) (as := [.ref (82 + 2 * u)]) (rest := []) rfl rfl (pcallV rfl rfl hou rfl rfl (Nat.le_of_ble_eq_true rfl)) (isMis_f (d := 118) hh hu mu) ?_
      refine RA.if1F rfl rfl ?_
      refine RA.steps (i' := 18) (L' := [some (.ref 0), some (.int (nI u)), some (.int x2), some (.int (nI v)), some (.int x4), some (.int x5), some (.ref (82 + 2 * u)), some (.ref (82 + 2 * v))]) (st' := [.ref (82 + 2 * v)]) (h' := h) 1 rfl ?_
      refine RA.call0 (N := mX3_isMissing) (as := [.ref (82 + 2 * v)]) (rest := []) rfl rfl (pcallV rfl rfl hov rfl rfl (Nat.le_of_ble_eq_true rfl)) (isMis_f (d := 118) hh hv mv) ?_
      refine RA.if1T rfl rfl ?_
      refine RA.steps (i' := 23) (L' := [some (.ref 0), some (.int (nI u)), some (.int x2), some (.int (nI v)), some (.int x4), some (.int x5), some (.ref (82 + 2 * u)), some (.ref (82 + 2 * v))]) (st' := [.ref (82 + 2 * u)]) (h' := h) 1 rfl ?_
      refine RA.getf rfl hou rfl su ?_
      refine RA.steps (i' := 25) (L' := [some (.ref 0), some (.int (nI u)), some (.int x2), some (.int (nI v)), some (.int x4), some (.int x5), some (.ref (82 + 2 * u)), some (.ref (82 + 2 * v))]) (st' := [.ref (82 + 2 * v), .int (ri h (82 + 2 * u) 1)]) (h' := h) 1 rfl ?_
      refine RA.getf rfl hov rfl sv ?_
      refine RA.if2T rfl (decide_eq_true ess) ?_
      refine RA.steps (i' := 32) (L' := [some (.ref 0), some (.int (nI u)), some (.int x2), some (.int (nI v)), some (.int x4), some (.int x5), some (.ref (82 + 2 * u)), some (.ref (82 + 2 * v))]) (st' := [.int x5, .int x2, .ref (82 + 2 * u)]) (h' := h) 3 rfl ?_
      refine RA.call0 (N := mX3_hasAll) (as := [.ref (82 + 2 * u), .int x2, .int x5]) (rest := []) rfl rfl (pcallV rfl rfl hou rfl rfl (Nat.le_of_ble_eq_true rfl)) (hasAll_f (d := 118) hh hu l24u ha1) ?_
      refine RA.if1T rfl rfl ?_
      refine RA.steps (i' := 40) (L' := [some (.ref 0), some (.int (nI u)), some (.int x2), some (.int (nI v)), some (.int x4), some (.int x5), some (.ref (82 + 2 * u)), some (.ref (82 + 2 * v))]) (st' := [.int (-1000000013)]) (h' := h) 1 rfl ?_
      exact RA.ret rfl rfl
  obtain ⟨c1, c2, c3, c4, c5⟩ := hP
  have ha1 : HA x2 x5 (ri h (82 + 2 * u) 2) := by rw [ezu]; exact i1.mpr ⟨c1, c3, c4⟩
  have ha2 : HA x4 x5 (ri h (82 + 2 * v) 2) := by rw [ezv]; exact i2.mpr ⟨c2, c3, c5⟩
  obtain ⟨p, rfl, hp0⟩ := nIof (x := x2) c1 (by omega)
  obtain ⟨a, rfl, ha0⟩ := nIof (x := x4) c2 (by omega)
  obtain ⟨n, rfl, hn0⟩ := nIof (x := x5) c3 (by omega)
  have ep : (nI p).toNatClampNeg = p := (nI_cl (by omega)).2
  have ea : (nI a).toNatClampNeg = a := (nI_cl (by omega)).2
  have en : (nI n).toNatClampNeg = n := (nI_cl (by omega)).2
  refine copy_go hh hj hv_ hs hu hv (by omega) (by omega) pu pv ⟨Nat.le_of_ble_eq_true rfl, ⟨_, _, rfl⟩, ?_⟩ (fun h1 hh1 hz T D pT pD => ⟨Nat.le_of_ble_eq_true rfl, ⟨_, _, rfl⟩, ?_⟩)
  · show RA prog E pV1 120 mX7_copy 0 [some (.ref 0), some (.int (nI u)), some (.int (nI p)), some (.int (nI v)), some (.int (nI a)), some (.int (nI n)), none, none] [] h (some (.int (nI n)), h.set (83 + 2 * v) (.inl (24, va_cpy f g p a n)), 0, 0)
    rw [show va_cpy f g p a n = va_cpy f g (nI p).toNatClampNeg (nI a).toNatClampNeg (nI n).toNatClampNeg by rw [ep, ea, en]]
    refine RA.steps (i' := 2) (L' := [some (.ref 0), some (.int (nI u)), some (.int (nI p)), some (.int (nI v)), some (.int (nI a)), some (.int (nI n)), none, none]) (st' := [.int (nI u), .ref 0]) (h' := h) 2 rfl ?_
    refine RA.call0 (N := mX7_rowOf) (as := [.ref 0, .int (nI u)]) (rest := []) rfl rfl (pcallV rfl rfl ho0 rfl rfl (Nat.le_of_ble_eq_true rfl)) (rowOf_x (d := 118) hh hu) ?_
    refine RA.steps (i' := 6) (L' := [some (.ref 0), some (.int (nI u)), some (.int (nI p)), some (.int (nI v)), some (.int (nI a)), some (.int (nI n)), some (.ref (82 + 2 * u)), none]) (st' := [.int (nI v), .ref 0]) (h' := h) 3 rfl ?_
    refine RA.call0 (N := mX7_rowOf) (as := [.ref 0, .int (nI v)]) (rest := []) rfl rfl (pcallV rfl rfl ho0 rfl rfl (Nat.le_of_ble_eq_true rfl)) (rowOf_x (d := 118) hh hv) ?_
    refine RA.steps (i' := 15) (L' := [some (.ref 0), some (.int (nI u)), some (.int (nI p)), some (.int (nI v)), some (.int (nI a)), some (.int (nI n)), some (.ref (82 + 2 * u)), some (.ref (82 + 2 * v))]) (st' := [.ref (82 + 2 * u)]) (h' := h) 6 rfl ?_
    refine RA.call0 (N := mX3_isMissing) (as := [.ref (82 + 2 * u)]) (rest := []) rfl rfl (pcallV rfl rfl hou rfl rfl (Nat.le_of_ble_eq_true rfl)) (isMis_f (d := 118) hh hu mu) ?_
    refine RA.if1F rfl rfl ?_
    refine RA.steps (i' := 18) (L' := [some (.ref 0), some (.int (nI u)), some (.int (nI p)), some (.int (nI v)), some (.int (nI a)), some (.int (nI n)), some (.ref (82 + 2 * u)), some (.ref (82 + 2 * v))]) (st' := [.ref (82 + 2 * v)]) (h' := h) 1 rfl ?_
    refine RA.call0 (N := mX3_isMissing) (as := [.ref (82 + 2 * v)]) (rest := []) rfl rfl (pcallV rfl rfl hov rfl rfl (Nat.le_of_ble_eq_true rfl)) (isMis_f (d := 118) hh hv mv) ?_
    refine RA.if1T rfl rfl ?_
    refine RA.steps (i' := 23) (L' := [some (.ref 0), some (.int (nI u)), some (.int (nI p)), some (.int (nI v)), some (.int (nI a)), some (.int (nI n)), some (.ref (82 + 2 * u)), some (.ref (82 + 2 * v))]) (st' := [.ref (82 + 2 * u)]) (h' := h) 1 rfl ?_
    refine RA.getf rfl hou rfl su ?_
    refine RA.steps (i' := 25) (L' := [some (.ref 0), some (.int (nI u)), some (.int (nI p)), some (.int (nI v)), some (.int (nI a)), some (.int (nI n)), some (.ref (82 + 2 * u)), some (.ref (82 + 2 * v))]) (st' := [.ref (82 + 2 * v), .int (ri h (82 + 2 * u) 1)]) (h' := h) 1 rfl ?_
    refine RA.getf rfl hov rfl sv ?_
    refine RA.if2T rfl (decide_eq_true ess) ?_
    refine RA.steps (i' := 32) (L' := [some (.ref 0), some (.int (nI u)), some (.int (nI p)), some (.int (nI v)), some (.int (nI a)), some (.int (nI n)), some (.ref (82 + 2 * u)), some (.ref (82 + 2 * v))]) (st' := [.int (nI n), .int (nI p), .ref (82 + 2 * u)]) (h' := h) 3 rfl ?_
    refine RA.call0 (N := mX3_hasAll) (as := [.ref (82 + 2 * u), .int (nI p), .int (nI n)]) (rest := []) rfl rfl (pcallV rfl rfl hou rfl rfl (Nat.le_of_ble_eq_true rfl)) (hasAll_t (d := 118) hh hu l24u ha1) ?_
    refine RA.if1F rfl rfl ?_
    refine RA.steps (i' := 37) (L' := [some (.ref 0), some (.int (nI u)), some (.int (nI p)), some (.int (nI v)), some (.int (nI a)), some (.int (nI n)), some (.ref (82 + 2 * u)), some (.ref (82 + 2 * v))]) (st' := [.int (nI n), .int (nI a), .ref (82 + 2 * v)]) (h' := h) 3 rfl ?_
    refine RA.call0 (N := mX3_hasAll) (as := [.ref (82 + 2 * v), .int (nI a), .int (nI n)]) (rest := []) rfl rfl (pcallV rfl rfl hov rfl rfl (Nat.le_of_ble_eq_true rfl)) (hasAll_t (d := 118) hh hv l24v ha2) ?_
    refine RA.if1T rfl rfl ?_
    refine RA.steps (i' := 42) (L' := [some (.ref 0), some (.int (nI u)), some (.int (nI p)), some (.int (nI v)), some (.int (nI a)), some (.int (nI n)), some (.ref (82 + 2 * u)), some (.ref (82 + 2 * v))]) (st' := [.ref (82 + 2 * u)]) (h' := h) 1 rfl ?_
    refine RA.getf rfl hou rfl ku ?_
    refine RA.steps (i' := 45) (L' := [some (.ref 0), some (.int (nI u)), some (.int (nI p)), some (.int (nI v)), some (.int (nI a)), some (.int (nI n)), some (.ref (82 + 2 * u)), some (.ref (82 + 2 * v))]) (st' := [.ref (82 + 2 * v), .int (nI p), .ref (83 + 2 * u)]) (h' := h) 2 rfl ?_
    refine RA.getf rfl hov rfl kv ?_
    refine RA.steps (i' := 48) (L' := [some (.ref 0), some (.int (nI u)), some (.int (nI p)), some (.int (nI v)), some (.int (nI a)), some (.int (nI n)), some (.ref (82 + 2 * u)), some (.ref (82 + 2 * v))]) (st' := [.int (nI n), .int (nI a), .ref (83 + 2 * v), .int (nI p), .ref (83 + 2 * u)]) (h' := h) 2 rfl ?_
    refine RA.acpy rfl rfl pu pv (Nat.le_of_ble_eq_true rfl) ⟨(nI_cl (by omega)).1, (nI_cl (by omega)).1, (nI_cl (by omega)).1, by rw [ep, en]; show p + n ≤ 24; omega, by rw [ea, en]; show a + n ≤ 24; omega⟩ ?_
    refine RA.steps (i' := 50) (L' := [some (.ref 0), some (.int (nI u)), some (.int (nI p)), some (.int (nI v)), some (.int (nI a)), some (.int (nI n)), some (.ref (82 + 2 * u)), some (.ref (82 + 2 * v))]) (st' := [.int (nI n)]) (h' := (h.set (83 + 2 * v) (.inl (24, va_cpy f g (nI p).toNatClampNeg (nI a).toNatClampNeg (nI n).toNatClampNeg)))) 1 rfl ?_
    exact RA.ret rfl rfl
  · obtain ⟨fs8, ho8, hF8⟩ := hi_obj hh1 (a := 110) rfl
    obtain ⟨gS_, pS, uS, -⟩ := hi_int (a := 114) (n := 4) (sg := [(0, 3, -1, 1)]) hh1 rfl
    have eu : gS_ (nI u).toNatClampNeg = ri h 114 u := by rw [(nI_cl (by omega)).2, ← uS u hu]; exact (hz u hu).1
    have ev : gS_ (nI v).toNatClampNeg = ri h 114 v := by rw [(nI_cl (by omega)).2, ← uS v hv]; exact (hz v hv).1
    show RA prog E pV1 120 mX8_copy 0 [some (.ref 110), some (.int (nI u)), some (.int (nI p)), some (.int (nI v)), some (.int (nI a)), some (.int (nI n)), none] [] h1 (some (.int (nI n)), (h1.set 127 (.inl (24, cpN n (fun j => T (24 * u + p + j)) D))).set 116 (.inl (96, va_cpy (cpN n (fun j => T (24 * u + p + j)) D) T 0 (24 * v + a) n)), 0, 0)
    refine RA.steps (i' := 1) (L' := [some (.ref 110), some (.int (nI u)), some (.int (nI p)), some (.int (nI v)), some (.int (nI a)), some (.int (nI n)), none]) (st' := [.int (nI u)]) (h' := h1) 1 rfl ?_
    refine RA.call0 (N := mX8_isSheet) (as := [.int (nI u)]) (rest := []) rfl rfl rfl (isSh_t (d := 117) s1) ?_
    refine RA.if1F rfl rfl ?_
    refine RA.steps (i' := 4) (L' := [some (.ref 110), some (.int (nI u)), some (.int (nI p)), some (.int (nI v)), some (.int (nI a)), some (.int (nI n)), none]) (st' := [.int (nI v)]) (h' := h1) 1 rfl ?_
    refine RA.call0 (N := mX8_isSheet) (as := [.int (nI v)]) (rest := []) rfl rfl rfl (isSh_t (d := 117) s3) ?_
    refine RA.if1T rfl rfl ?_
    refine RA.steps (i' := 9) (L' := [some (.ref 110), some (.int (nI u)), some (.int (nI p)), some (.int (nI v)), some (.int (nI a)), some (.int (nI n)), none]) (st' := [.ref 110]) (h' := h1) 1 rfl ?_
    refine RA.getf rfl ho8 rfl (hF8.ref (k := 4) rfl) ?_
    refine RA.steps (i' := 11) (L' := [some (.ref 110), some (.int (nI u)), some (.int (nI p)), some (.int (nI v)), some (.int (nI a)), some (.int (nI n)), none]) (st' := [.int (nI u), .ref 114]) (h' := h1) 1 rfl ?_
    refine RA.iald rfl pS bu eu ?_
    refine RA.if1F rfl (decide_eq_false (Int32.not_lt.mpr gu)) ?_
    refine RA.steps (i' := 14) (L' := [some (.ref 110), some (.int (nI u)), some (.int (nI p)), some (.int (nI v)), some (.int (nI a)), some (.int (nI n)), none]) (st' := [.ref 110]) (h' := h1) 1 rfl ?_
    refine RA.getf rfl ho8 rfl (hF8.ref (k := 4) rfl) ?_
    refine RA.steps (i' := 16) (L' := [some (.ref 110), some (.int (nI u)), some (.int (nI p)), some (.int (nI v)), some (.int (nI a)), some (.int (nI n)), none]) (st' := [.int (nI v), .ref 114]) (h' := h1) 1 rfl ?_
    refine RA.iald rfl pS bv ev ?_
    refine RA.if1T rfl (decide_eq_true gv) ?_
    refine RA.steps (i' := 21) (L' := [some (.ref 110), some (.int (nI u)), some (.int (nI p)), some (.int (nI v)), some (.int (nI a)), some (.int (nI n)), none]) (st' := [.ref 110]) (h' := h1) 1 rfl ?_
    refine RA.getf rfl ho8 rfl (hF8.ref (k := 4) rfl) ?_
    refine RA.steps (i' := 23) (L' := [some (.ref 110), some (.int (nI u)), some (.int (nI p)), some (.int (nI v)), some (.int (nI a)), some (.int (nI n)), none]) (st' := [.int (nI u), .ref 114]) (h' := h1) 1 rfl ?_
    refine RA.iald rfl pS bu eu ?_
    refine RA.steps (i' := 25) (L' := [some (.ref 110), some (.int (nI u)), some (.int (nI p)), some (.int (nI v)), some (.int (nI a)), some (.int (nI n)), none]) (st' := [.ref 110, .int (ri h 114 u)]) (h' := h1) 1 rfl ?_
    refine RA.getf rfl ho8 rfl (hF8.ref (k := 4) rfl) ?_
    refine RA.steps (i' := 27) (L' := [some (.ref 110), some (.int (nI u)), some (.int (nI p)), some (.int (nI v)), some (.int (nI a)), some (.int (nI n)), none]) (st' := [.int (nI v), .ref 114, .int (ri h 114 u)]) (h' := h1) 1 rfl ?_
    refine RA.iald rfl pS bv ev ?_
    refine RA.if2T rfl (decide_eq_true esr) ?_
    refine cp_31 hh1 hu hv _ (fun _ => ?_) (fun q => absurd ⟨c1, c2, c3, by rw [(hz u hu).2]; exact c4, by rw [(hz v hv).2]; exact c5⟩ q)
    refine RA.steps (i' := 65) (L' := [some (.ref 110), some (.int (nI u)), some (.int (nI p)), some (.int (nI v)), some (.int (nI a)), some (.int (nI n)), some (.int 0)]) (st' := []) (h' := h1) 2 rfl ?_
    have z0 := nI_0
    rw [← z0]
    refine cp_l1 (hF8.ref (k := 28) rfl) (hF8.ref (k := 6) rfl) (c := D) hu (by omega) (by omega) n 0 h1 _ (by omega) ho8 pT (by rw [cpN_0]; exact pD) ?_
    refine RA.steps (i' := 86) (L' := [some (.ref 110), some (.int (nI u)), some (.int (nI p)), some (.int (nI v)), some (.int (nI a)), some (.int (nI n)), some (.int 0)]) (st' := []) (h' := h1.set 127 (.inl (24, cpN n (fun j => T (24 * u + p + j)) D))) 2 rfl ?_
    rw [← z0]
    exact cp_l2 (hF8.ref (k := 28) rfl) (hF8.ref (k := 6) rfl) hv (by omega) (by omega) n 0 _ (by omega) ((pobj_ne (by decide)).trans ho8) (pint_set (pint_lt pD)) (by rw [cpy_0]; exact (pint_ne (by decide)).trans pT)
end CPV
theorem rss_of {h : List pC} (hR : pRel RL h) : RSS h := by
  intro u hu
  match u, hu with
  | 0, _ => exact ⟨hR _ (List.mem_append_left _ (List.mem_cons_of_mem _ (List.mem_cons_of_mem _ (List.mem_cons_of_mem _ (List.mem_cons_of_mem _ (List.mem_cons_of_mem _ (List.mem_cons_of_mem _ List.mem_cons_self))))))), hR _ (List.mem_append_left _ (List.mem_cons_of_mem _ (List.mem_cons_of_mem _ (List.mem_cons_of_mem _ (List.mem_cons_of_mem _ (List.mem_cons_of_mem _ (List.mem_cons_of_mem _ (List.mem_cons_of_mem _ (List.mem_cons_of_mem _ (List.mem_cons_of_mem _ (List.mem_cons_of_mem _ List.mem_cons_self)))))))))))⟩
  | 1, _ => exact ⟨hR _ (List.mem_append_left _ (List.mem_cons_of_mem _ (List.mem_cons_of_mem _ (List.mem_cons_of_mem _ (List.mem_cons_of_mem _ (List.mem_cons_of_mem _ (List.mem_cons_of_mem _ (List.mem_cons_of_mem _ List.mem_cons_self)))))))), hR _ (List.mem_append_left _ (List.mem_cons_of_mem _ (List.mem_cons_of_mem _ (List.mem_cons_of_mem _ (List.mem_cons_of_mem _ (List.mem_cons_of_mem _ (List.mem_cons_of_mem _ (List.mem_cons_of_mem _ (List.mem_cons_of_mem _ (List.mem_cons_of_mem _ (List.mem_cons_of_mem _ (List.mem_cons_of_mem _ List.mem_cons_self))))))))))))⟩
  | 2, _ => exact ⟨hR _ (List.mem_append_left _ (List.mem_cons_of_mem _ (List.mem_cons_of_mem _ (List.mem_cons_of_mem _ (List.mem_cons_of_mem _ (List.mem_cons_of_mem _ (List.mem_cons_of_mem _ (List.mem_cons_of_mem _ (List.mem_cons_of_mem _ List.mem_cons_self))))))))), hR _ (List.mem_append_left _ (List.mem_cons_of_mem _ (List.mem_cons_of_mem _ (List.mem_cons_of_mem _ (List.mem_cons_of_mem _ (List.mem_cons_of_mem _ (List.mem_cons_of_mem _ (List.mem_cons_of_mem _ (List.mem_cons_of_mem _ (List.mem_cons_of_mem _ (List.mem_cons_of_mem _ (List.mem_cons_of_mem _ (List.mem_cons_of_mem _ List.mem_cons_self)))))))))))))⟩
  | 3, _ => exact ⟨hR _ (List.mem_append_left _ (List.mem_cons_of_mem _ (List.mem_cons_of_mem _ (List.mem_cons_of_mem _ (List.mem_cons_of_mem _ (List.mem_cons_of_mem _ (List.mem_cons_of_mem _ (List.mem_cons_of_mem _ (List.mem_cons_of_mem _ (List.mem_cons_of_mem _ List.mem_cons_self)))))))))), hR _ (List.mem_append_left _ (List.mem_cons_of_mem _ (List.mem_cons_of_mem _ (List.mem_cons_of_mem _ (List.mem_cons_of_mem _ (List.mem_cons_of_mem _ (List.mem_cons_of_mem _ (List.mem_cons_of_mem _ (List.mem_cons_of_mem _ (List.mem_cons_of_mem _ (List.mem_cons_of_mem _ (List.mem_cons_of_mem _ (List.mem_cons_of_mem _ (List.mem_cons_of_mem _ List.mem_cons_self))))))))))))))⟩
