/-! ===== taught on a new object ===== -/
def O0 : List Value := [.ref 1, .ref 34, .ref 48, .ref 62, .ref 76, .ref 79, .ref 80, .ref 81, .int 0, .int 0]
def W34 : List Value := [.ref 1, .ref 35, .ref 36, .ref 37, .ref 38, .int 0, .int 0, .int 0, .int 0, .int 1]
def TC (h : List pC) : Prop := pobj h 0 = some (7, O0) ∧ pobj h 34 = some (6, W34) ∧ (∃ m, pint h 35 = some (16, m)) ∧ (∃ m, pint h 38 = some (3, m)) ∧ (∃ a b c z : Int32, pobj h 62 = some (6, [.ref 1, .ref 63, .ref 64, .ref 65, .ref 66, .int 0, .int a, .int b, .int c, .int z])) ∧ (∃ m, pint h 63 = some (16, m)) ∧ (∃ m, pint h 66 = some (3, m)) ∧ ∀ k, 110 ≤ k → pobj h k = pobj h0 k ∧ pint h k = pint h0 k
section TGT
variable {P : List pM} {E : pX} {V : pV} {d : Nat} {M N : pM} {i i' : Nat} {L L' : pL} {st st' : List Value} {h h' h1 h2 : List pC} {t : pE} {r r1 r2 : Option Value} {res : pR} {j k : Nat} {c : pC}
theorem RA.copy {n pc y a0 a1 : Nat} {v : Value} {z dp sp : Int32} {ts : List Nat} {rest : List Value} {o0 o1 : Nat × (Nat → Int32)} (he : (m_code M)[i]? = some (pc, .invokestatic n, 99999, y, v, ts)) (hP : pcall P (pc, .invokestatic n, 99999, y, v, ts) (.int z :: .int dp :: .ref a1 :: .int sp :: .ref a0 :: rest) h = none) (h8 : pcs rest ≤ 8) (hi0 : pint h a0 = some o0) (hi1 : pint h a1 = some o1)
    (hz : 0 ≤ sp ∧ 0 ≤ dp ∧ 0 ≤ z ∧ sp.toNatClampNeg + z.toNatClampNeg ≤ o0.1 ∧ dp.toNatClampNeg + z.toNatClampNeg ≤ o1.1) (k : RA P E V (d + 1) M (i + 1) L rest (h.set a1 (.inl (o1.1, va_cpy o0.2 o1.2 sp.toNatClampNeg dp.toNatClampNeg z.toNatClampNeg))) res) : RA P E V (d + 1) M i L (.int z :: .int dp :: .ref a1 :: .int sp :: .ref a0 :: rest) h res :=
  RA.step0 he rfl hP (by
    show (if e_x (pc, .invokestatic n, 99999, y, v, ts) = 99999 ∧ pcs rest ≤ 8 then (match pint h a0, pint h a1 with
      | some x, some y => if 0 ≤ sp ∧ 0 ≤ dp ∧ 0 ≤ z ∧ sp.toNatClampNeg + z.toNatClampNeg ≤ x.1 ∧ dp.toNatClampNeg + z.toNatClampNeg ≤ y.1 then pnx i L rest (h.set a1 (.inl (y.1, va_cpy x.2 y.2 sp.toNatClampNeg dp.toNatClampNeg z.toNatClampNeg))) else none
      | _, _ => none) else none) = _
    rw [if_pos ⟨rfl, h8⟩, hi0, hi1]
    dsimp only
    rw [if_pos hz]
    rfl) k
theorem RA.alen {a pc x y : Nat} {v : Value} {ts : List Nat} {o : Nat × (Nat → Int32)} {rest : List Value} (he : (m_code M)[i]? = some (pc, .arraylength, x, y, v, ts)) (ho : pint h a = some o) (k : RA P E V (d + 1) M (i + 1) L (.int (Int32.ofNat o.1) :: rest) h res) : RA P E V (d + 1) M i L (.ref a :: rest) h res :=
  RA.step0 he rfl rfl (by
    show (match h[a]? with
      | some (.inl x) => pnx i L (.int (Int32.ofNat x.1) :: rest) h
      | some (.inr (.inl x)) => pnx i L (.int (Int32.ofNat x.2.1) :: rest) h
      | _ => none) = _
    rw [pint_at ho]
    rfl) k
end TGT
section TGC
variable {E : pX} {V : pV} {d : Nat} {h : List pC}
theorem TC.w (H : TC h) : TC h := H
theorem takeT (H : TC h) : ∃ h', TC h' ∧ Run prog E V (d + 1) mX6_takeFrom [.ref 62, .ref 34] h (none, h', 0, 0) := by
  obtain ⟨e0, e34, ⟨m35, e35⟩, ⟨m38, e38⟩, ⟨a, b, c, z, e62⟩, ⟨m63, e63⟩, ⟨m66, e66⟩, ek⟩ := H
  obtain ⟨A, hA⟩ : ∃ A : pC, A = .inl (16, va_cpy m35 m63 (Int32.toNatClampNeg 0) (Int32.toNatClampNeg 0) (Int32.toNatClampNeg 16)) := ⟨_, rfl⟩
  obtain ⟨B, hB⟩ : ∃ B : pC, B = .inl (3, va_cpy m38 m66 (Int32.toNatClampNeg 0) (Int32.toNatClampNeg 0) (Int32.toNatClampNeg 3)) := ⟨_, rfl⟩
  have o2 : ∀ k, k ≠ 63 → k ≠ 66 → pobj ((h.set 63 A).set 66 B) k = pobj h k := fun k h1 h2 => (pobj_ne (Ne.symm h2)).trans (pobj_ne (Ne.symm h1))
  have i2 : ∀ k, k ≠ 63 → k ≠ 66 → pint ((h.set 63 A).set 66 B) k = pint h k := fun k h1 h2 => (pint_ne (Ne.symm h2)).trans (pint_ne (Ne.symm h1))
  have f34 := (o2 34 (by decide) (by decide)).trans e34
  have f62 := (o2 62 (by decide) (by decide)).trans e62
  have l62 := pobj_lt f62
  have g34 : ∀ q : pC, pobj (((h.set 63 A).set 66 B).set 62 q) 34 = some (6, W34) := fun q => (pobj_ne (by decide)).trans f34
  have g62 : ∀ q : Nat × List Value, pobj (((h.set 63 A).set 66 B).set 62 (.inr (.inr q))) 62 = some q := fun q => pobj_set l62
  refine ⟨((h.set 63 A).set 66 B).set 62 (.inr (.inr (6, [.ref 1, .ref 63, .ref 64, .ref 65, .ref 66, .int 0, .int 0, .int 0, .int 0, .int 1]))), ⟨(pobj_ne (by decide)).trans ((o2 0 (by decide) (by decide)).trans e0), g34 _, ⟨m35, (pint_ne (by decide)).trans ((i2 35 (by decide) (by decide)).trans e35)⟩, ⟨m38, (pint_ne (by decide)).trans ((i2 38 (by decide) (by decide)).trans e38)⟩, ⟨0, 0, 0, 1, g62 _⟩, ⟨_, (pint_ne (by decide)).trans ((pint_ne (by decide)).trans (by rw [hA]; exact pint_set (pint_lt e63)))⟩, ⟨_, (pint_ne (by decide)).trans (by rw [hB]; exact pint_set (by rw [List.length_set]; exact pint_lt e66))⟩, fun k hk => ⟨(pobj_ne (by omega)).trans ((o2 k (by omega) (by omega)).trans (ek k hk).1), (pint_ne (by omega)).trans ((i2 k (by omega) (by omega)).trans (ek k hk).2)⟩⟩, Nat.le_of_ble_eq_true rfl, ⟨_, _, rfl⟩, ?_⟩
  refine RA.steps 1 rfl ?_
  refine RA.getf rfl e34 rfl rfl ?_
  refine RA.steps 2 rfl ?_
  refine RA.getf rfl e62 rfl rfl ?_
  refine RA.steps 2 rfl ?_
  refine RA.copy rfl rfl (Nat.le_of_ble_eq_true rfl) e35 e63 ⟨by decide, by decide, by decide, Nat.le_of_ble_eq_true rfl, Nat.le_of_ble_eq_true rfl⟩ ?_
  dsimp only
  rw [← hA]
  refine RA.steps 1 rfl ?_
  refine RA.getf rfl ((pobj_ne (by decide)).trans e34) rfl rfl ?_
  refine RA.steps 2 rfl ?_
  refine RA.getf rfl ((pobj_ne (by decide)).trans e62) rfl rfl ?_
  refine RA.steps 2 rfl ?_
  refine RA.copy rfl rfl (Nat.le_of_ble_eq_true rfl) ((pint_ne (by decide)).trans e38) ((pint_ne (by decide)).trans e66) ⟨by decide, by decide, by decide, Nat.le_of_ble_eq_true rfl, Nat.le_of_ble_eq_true rfl⟩ ?_
  dsimp only
  rw [← hB]
  refine RA.steps 2 rfl ?_
  refine RA.getf rfl f34 rfl rfl ?_
  refine RA.putf rfl f62 rfl rfl ?_
  refine RA.steps 2 rfl ?_
  refine RA.getf rfl (g34 _) rfl rfl ?_
  refine RA.putf rfl (g62 _) rfl rfl ?_
  rw [List.set_set]
  refine RA.steps 2 rfl ?_
  refine RA.getf rfl (g34 _) rfl rfl ?_
  refine RA.putf rfl (g62 _) rfl rfl ?_
  rw [List.set_set]
  refine RA.steps 2 rfl ?_
  refine RA.getf rfl (g34 _) rfl rfl ?_
  refine RA.putf rfl (g62 _) rfl rfl ?_
  rw [List.set_set]
  refine RA.steps 2 rfl ?_
  refine RA.getf rfl (g34 _) rfl rfl ?_
  refine RA.putf rfl (g62 _) rfl rfl ?_
  rw [List.set_set]
  refine RA.steps 4 rfl ?_
  refine RA.getf rfl (g62 _) rfl rfl ?_
  refine RA.if2T rfl rfl ?_
  exact RA.ret rfl rfl
theorem markT (H : TC h) {X : Nat} (hX : X < 16) : ∃ v : Int32, Run prog E V (d + 1) mX6_markAt [.ref 34, .int (nI X)] h (some (.int v), h, 0, 0) := by
  obtain ⟨e0, e34, ⟨m35, e35⟩, -⟩ := H
  refine ⟨m35 (nI X).toNatClampNeg, Nat.le_of_ble_eq_true rfl, ⟨_, _, rfl⟩, ?_⟩
  refine RA.steps 1 rfl ?_
  refine RA.if1F rfl (decide_eq_false (nI_pos (by omega))) ?_
  refine RA.steps 2 rfl ?_
  refine RA.getf rfl e34 rfl rfl ?_
  refine RA.alen rfl e35 ?_
  refine RA.if2F rfl (decide_eq_false (show ¬ nI 16 ≤ nI X from nI_ge hX (by omega))) ?_
  refine RA.steps 1 rfl ?_
  refine RA.getf rfl e34 rfl rfl ?_
  refine RA.steps 1 rfl ?_
  refine RA.iald rfl e35 ⟨nI_pos' (by omega), by rw [nI_clamp (show X < 2 ^ 31 by omega)]; exact hX⟩ rfl ?_
  refine RA.steps 1 rfl ?_
  exact RA.ret rfl rfl
theorem carveT (H : TC h) {X : Nat} (hX : X < 16) (v : Int32) : ∃ h', TC h' ∧ Run prog E V (d + 1) mX6_carveAt [.ref 62, .int (nI X), .int v] h (none, h', 0, 0) := by
  obtain ⟨e0, e34, e35, e38, ⟨a, b, c, z, e62⟩, ⟨m63, e63⟩, ⟨m66, e66⟩, ek⟩ := H
  refine ⟨h.set 63 (.inl (16, va_up m63 (nI X).toNatClampNeg v)), ⟨(pobj_ne (by decide)).trans e0, (pobj_ne (by decide)).trans e34, ?_, ?_, ⟨a, b, c, z, (pobj_ne (by decide)).trans e62⟩, ⟨_, pint_set (pint_lt e63)⟩, ⟨m66, (pint_ne (by decide)).trans e66⟩, fun k hk => ⟨(pobj_ne (by omega)).trans (ek k hk).1, (pint_ne (by omega)).trans (ek k hk).2⟩⟩, Nat.le_of_ble_eq_true rfl, ⟨_, _, rfl⟩, ?_⟩
  · obtain ⟨m, e⟩ := e35
    exact ⟨m, (pint_ne (by decide)).trans e⟩
  · obtain ⟨m, e⟩ := e38
    exact ⟨m, (pint_ne (by decide)).trans e⟩
  refine RA.steps 1 rfl ?_
  refine RA.if1F rfl (decide_eq_false (nI_pos (by omega))) ?_
  refine RA.steps 2 rfl ?_
  refine RA.getf rfl e62 rfl rfl ?_
  refine RA.alen rfl e63 ?_
  refine RA.if2F rfl (decide_eq_false (show ¬ nI 16 ≤ nI X from nI_ge hX (by omega))) ?_
  refine RA.steps 1 rfl ?_
  refine RA.getf rfl e62 rfl rfl ?_
  refine RA.steps 2 rfl ?_
  refine RA.iast rfl e63 ⟨nI_pos' (by omega), by rw [nI_clamp (show X < 2 ^ 31 by omega)]; exact hX⟩ ?_
  exact RA.ret rfl rfl
theorem flowT (H : TC h) {N : Nat} (hN : N < 2 ^ 31) : ∃ h', TC h' ∧ Run prog E V (d + 2) mX6_flow [.ref 62, .int (nI N)] h (none, h', 0, 0) := by
  obtain ⟨e0, e34, e35, e38, ⟨a, b, c, z, e62⟩, ⟨m63, e63⟩, ⟨m66, e66⟩, ek⟩ := H
  obtain ⟨ti, z', hr⟩ := flow_run (E := E) (V := V) (d := d) N hN e62
  refine ⟨_, ⟨(pobj_ne (by decide)).trans e0, (pobj_ne (by decide)).trans e34, ?_, ?_, ⟨a, ti, c, z', pobj_set (pobj_lt e62)⟩, ⟨m63, (pint_ne (by decide)).trans e63⟩, ⟨m66, (pint_ne (by decide)).trans e66⟩, fun k hk => ⟨(pobj_ne (by omega)).trans (ek k hk).1, (pint_ne (by omega)).trans (ek k hk).2⟩⟩, hr⟩
  · obtain ⟨m, e⟩ := e35
    exact ⟨m, (pint_ne (by decide)).trans e⟩
  · obtain ⟨m, e⟩ := e38
    exact ⟨m, (pint_ne (by decide)).trans e⟩
theorem trustT (H : TC h) : Run prog E V (d + 1) mX6_trustOfAll [.ref 62] h (some (.int 0), h, 0, 0) := by
  obtain ⟨e0, e34, e35, e38, ⟨a, b, c, z, e62⟩, -⟩ := H
  refine ⟨Nat.le_of_ble_eq_true rfl, ⟨_, _, rfl⟩, ?_⟩
  refine RA.steps 6 rfl ?_
  refine RA.getf rfl e62 rfl rfl ?_
  refine RA.if2T rfl rfl ?_
  refine RA.steps 1 rfl ?_
  exact RA.ret rfl rfl
def moT (X : Nat) : Int32 := if X = 0 then -1 else 0
theorem tc_loop (N : Nat) (hN : N < 2 ^ 31) (what : Int32) : ∀ (m X : Nat) (h : List pC) (l6 : Option Value), X + m = 16 → TC h → ∃ h', TC h' ∧ RA prog E V (d + 3) mX7_taught 18 [some (.ref 0), some (.int (nI N)), some (.int what), some (.int 0), some (.int (moT X)), some (.int (nI X)), l6] [] h (some (.int 0), h', 0, 0) := by
  intro m
  induction m with
  | zero =>
    intro X h l6 hX H
    obtain rfl : X = 16 := by omega
    refine ⟨h, H, ?_⟩
    refine RA.steps 2 rfl ?_
    refine RA.if2T rfl rfl ?_
    refine RA.steps 1 rfl ?_
    by_cases hw : what = 0
    · refine RA.if1F rfl (decide_eq_false (fun q => q hw)) ?_
      refine RA.steps 2 rfl ?_
      exact RA.ret rfl rfl
    · refine RA.if1T rfl (decide_eq_true hw) ?_
      refine RA.steps 1 rfl ?_
      exact RA.ret rfl rfl
  | succ m ih =>
    intro X h l6 hX H
    obtain ⟨ha, Ha, ra⟩ := takeT (E := E) (V := V) (d := d + 1) H
    obtain ⟨v, rb⟩ := markT (E := E) (V := V) (d := d + 1) Ha (X := X) (by omega)
    obtain ⟨hc, Hc, rc⟩ := carveT (E := E) (V := V) (d := d + 1) Ha (X := X) (by omega) ((v + 1) - (v + 1) / 4 * 4)
    obtain ⟨hd, Hd, rd⟩ := flowT (E := E) (V := V) (d := d) Hc hN
    have re := trustT (E := E) (V := V) (d := d + 1) Hd
    obtain ⟨h', H', hr⟩ := ih (X + 1) hd (some (.int 0)) (by omega) Hd
    refine ⟨h', H', ?_⟩
    refine RA.steps 2 rfl ?_
    refine RA.if2F rfl (decide_eq_false (show ¬ nI 16 ≤ nI X from nI_ge (by omega) (by omega))) ?_
    refine RA.steps 1 rfl ?_
    refine RA.getf rfl H.1 rfl rfl ?_
    refine RA.steps 1 rfl ?_
    refine RA.getf rfl H.1 rfl rfl ?_
    refine RA.call0 rfl rfl (pcallV rfl rfl H.2.2.2.2.1.choose_spec.choose_spec.choose_spec.choose_spec rfl rfl (Nat.le_of_ble_eq_true rfl)) ra ?_
    refine RA.steps 1 rfl ?_
    refine RA.getf rfl Ha.1 rfl rfl ?_
    refine RA.steps 2 rfl ?_
    refine RA.getf rfl Ha.1 rfl rfl ?_
    refine RA.steps 1 rfl ?_
    refine RA.call0 rfl rfl (pcallV rfl rfl Ha.2.1 rfl rfl (Nat.le_of_ble_eq_true rfl)) rb ?_
    refine RA.steps 4 rfl ?_
    refine RA.call0 rfl rfl (pcallV rfl rfl Ha.2.2.2.2.1.choose_spec.choose_spec.choose_spec.choose_spec rfl rfl (Nat.le_of_ble_eq_true rfl)) rc ?_
    refine RA.steps 1 rfl ?_
    refine RA.getf rfl Hc.1 rfl rfl ?_
    refine RA.steps 1 rfl ?_
    refine RA.call0 rfl rfl (pcallV rfl rfl Hc.2.2.2.2.1.choose_spec.choose_spec.choose_spec.choose_spec rfl rfl (Nat.le_of_ble_eq_true rfl)) rd ?_
    refine RA.steps 1 rfl ?_
    refine RA.getf rfl Hd.1 rfl rfl ?_
    refine RA.call0 rfl rfl (pcallV rfl rfl Hd.2.2.2.2.1.choose_spec.choose_spec.choose_spec.choose_spec rfl rfl (Nat.le_of_ble_eq_true rfl)) re ?_
    refine RA.steps 3 rfl ?_
    by_cases hX0 : X = 0
    · subst hX0
      refine RA.if2F rfl rfl ?_
      refine RA.steps 4 rfl ?_
      refine RA.iinc rfl rfl (nI_1 0) rfl ?_
      refine RA.steps 1 rfl ?_
      exact hr
    · have hmo : moT X = 0 := if_neg hX0
      refine RA.if2T rfl (by rw [hmo]; rfl) ?_
      refine RA.iinc rfl rfl (nI_1 X) rfl ?_
      refine RA.steps 1 rfl ?_
      have hmo2 : moT (X + 1) = 0 := if_neg (by omega)
      rw [hmo2] at hr
      rw [hmo]
      exact hr
theorem tm_loop {fs : List Value} (h0f : fs[0]? = some (.ref 111)) (h13 : fs[13]? = some (.ref 123)) (N : Nat) (hN : N < 2 ^ 31) (what : Int32) : ∀ (m X : Nat) (h : List pC) (f c : Nat → Int32) (l6 : Option Value), X + m = 16 → SM h fs f → pint h 123 = some (75, c) → c 0 = 0 → ∃ h', RA prog E V (d + 4) mX8_taught 22 [some (.ref 110), some (.int (nI N)), some (.int what), some (.int 0), some (.int (moT X)), some (.int (nI X)), l6] [] h (some (.int 0), h', 0, 0) := by
  intro m
  induction m with
  | zero =>
    intro X h f c l6 hX H hc c0
    obtain rfl : X = 16 := by omega
    refine ⟨h, ?_⟩
    refine RA.steps 2 rfl ?_
    refine RA.if2T rfl rfl ?_
    refine RA.steps 1 rfl ?_
    by_cases hw : what = 0
    · refine RA.if1F rfl (decide_eq_false (fun q => q hw)) ?_
      refine RA.steps 2 rfl ?_
      exact RA.ret rfl rfl
    · refine RA.if1T rfl (decide_eq_true hw) ?_
      refine RA.steps 1 rfl ?_
      exact RA.ret rfl rfl
  | succ m ih =>
    intro X h f c l6 hX H hc c0
    have hcl : (nI 5 + nI X).toNatClampNeg = 5 + X := by rw [nI_add]; exact nI_clamp (show 5 + X < 2 ^ 31 by omega)
    have hj : 0 ≤ nI 5 + nI X ∧ (nI 5 + nI X).toNatClampNeg < 3075 := ⟨by rw [nI_add]; exact nI_pos' (by omega), by rw [hcl]; omega⟩
    obtain ⟨w, hw⟩ : ∃ w : Int32, w = (f (nI 5 + nI X).toNatClampNeg + 1) - (f (nI 5 + nI X).toNatClampNeg + 1) / 4 * 4 := ⟨_, rfl⟩
    have H1 : SM (h.set 111 (.inl (3075, va_up f (nI 5 + nI X).toNatClampNeg w))) fs _ := H.next (by
      show (if 0 = (nI 5 + nI X).toNatClampNeg then w else f 0) = 0
      rw [hcl, if_neg (by omega)]
      exact H.2.2.2)
    obtain ⟨g, g0, g3, hg⟩ := gom_run (E := E) (V := V) (d := d) N hN H1
    rw [List.set_set] at hg
    have H2 : SM (h.set 111 (.inl (3075, g))) fs g := H.next g0
    have hc2 : pint (h.set 111 (.inl (3075, g))) 123 = some (75, c) := (pint_ne (by decide)).trans hc
    have ht := allTrust0 (E := E) (V := V) (d := d + 2) H2
    obtain ⟨b, hb, hl⟩ := laysBack_run (E := E) (V := V) (d := d + 2) h13 h0f H2.1 hc2 H2.2.2.1
    rw [List.set_set] at hl
    have b0 : b 0 = 0 := (hb 0 (by omega)).trans c0
    obtain ⟨h', hr⟩ := ih (X + 1) (h.set 111 (.inl (3075, b))) b c (some (.int 0)) (by omega) (H.next b0) ((pint_ne (by decide)).trans hc) c0
    refine ⟨h', ?_⟩
    refine RA.steps 2 rfl ?_
    refine RA.if2F rfl (decide_eq_false (show ¬ nI 16 ≤ nI X from nI_ge (by omega) (by omega))) ?_
    refine RA.steps 1 rfl ?_
    refine RA.getf rfl H.1 rfl h0f ?_
    refine RA.steps 4 rfl ?_
    refine RA.getf rfl H.1 rfl h0f ?_
    refine RA.steps 3 rfl ?_
    refine RA.iald rfl H.2.2.1 hj rfl ?_
    refine RA.steps (i' := 40) (st' := [.int w, .int (nI 5 + nI X), .ref 111]) (h' := h) 4 (by rw [hw]; rfl) ?_
    refine RA.iast (w := w) rfl H.2.2.1 hj ?_
    refine RA.steps 2 rfl ?_
    refine RA.call0 rfl rfl (pcallV rfl rfl H1.1 rfl rfl (Nat.le_of_ble_eq_true rfl)) hg ?_
    refine RA.steps 1 rfl ?_
    refine RA.call0 rfl rfl (pcallV rfl rfl H2.1 rfl rfl (Nat.le_of_ble_eq_true rfl)) ht ?_
    refine RA.steps 2 rfl ?_
    refine RA.call0 rfl rfl (pcallV rfl rfl H2.1 rfl rfl (Nat.le_of_ble_eq_true rfl)) hl ?_
    refine RA.steps 2 rfl ?_
    by_cases hX0 : X = 0
    · subst hX0
      refine RA.if2F rfl rfl ?_
      refine RA.steps 5 rfl ?_
      refine RA.if2F rfl rfl ?_
      refine RA.steps 3 rfl ?_
      refine RA.iinc rfl rfl (nI_1 0) rfl ?_
      refine RA.steps 1 rfl ?_
      exact hr
    · have hmo : moT X = 0 := if_neg hX0
      refine RA.if2T rfl (by rw [hmo]; rfl) ?_
      refine RA.steps 4 rfl ?_
      refine RA.if2T rfl (by rw [hmo]; rfl) ?_
      refine RA.steps 2 rfl ?_
      refine RA.iinc rfl rfl (nI_1 X) rfl ?_
      refine RA.steps 1 rfl ?_
      have hmo2 : moT (X + 1) = 0 := if_neg (by omega)
      rw [hmo2] at hr
      rw [hmo]
      exact hr
end TGC
set_option maxRecDepth 100000 in
set_option maxHeartbeats 4000000 in
theorem q_taught (E : pX) (a b : Int32) : ∃ (r : Int32) (h1 h2 : List pC), Run prog E pV0 40 mX7_taught [.ref 0, .int a, .int b] h0 (some (.int r), h1, 0, 0) ∧ Run prog E pV0 40 mX8_taught [.ref 110, .int a, .int b] h1 (some (.int r), h2, 0, 0) := by
  by_cases hh : 1 ≤ a ∧ a ≤ 60
  · by_cases hb : 0 ≤ b ∧ b ≤ 1
    · obtain ⟨N, hN, rfl⟩ := nI_of2 (x := a) (M := 60) (n := 60) (by decide) (Int32.not_lt.mpr (Int32.le_trans (by decide) hh.1)) hh.2
      have HT : TC h0 := ⟨rfl, rfl, ⟨_, rfl⟩, ⟨_, rfl⟩, ⟨_, _, _, _, rfl⟩, ⟨_, rfl⟩, ⟨_, rfl⟩, fun k _ => ⟨rfl, rfl⟩⟩
      obtain ⟨h1, H1, hr⟩ := tc_loop (E := E) (V := pV0) (d := 37) N (by omega) b 16 0 h0 none (by omega) HT
      have ek := H1.2.2.2.2.2.2.2
      have e110 := (ek 110 (by omega)).1
      have e111 := (ek 111 (by omega)).2
      have e123 := (ek 123 (by omega)).2
      have f110 : pobj h0 110 = some (8, _) := rfl
      have f111 : pint h0 111 = some (3075, va_up (fun _ => 0) 4 1) := rfl
      have f123 : pint h0 123 = some (75, fun _ => 0) := rfl
      have SM1 : SM h1 _ _ := ⟨e110.trans f110, rfl, e111.trans f111, rfl⟩
      obtain ⟨c, hc, hl⟩ := laysBy_run (E := E) (V := pV0) (d := 38) (h := h1) rfl rfl SM1.1 SM1.2.2.1 (e123.trans f123)
      have SM2 : SM (h1.set 123 (.inl (75, c))) _ _ := ⟨(pobj_ne (by decide)).trans SM1.1, SM1.2.1, (pint_ne (by decide)).trans SM1.2.2.1, SM1.2.2.2⟩
      obtain ⟨h2, hm⟩ := tm_loop (E := E) (V := pV0) (d := 36) rfl rfl N (by omega) b 16 0 _ _ c none (by omega) SM2 (pint_set (pint_lt (e123.trans f123))) ((hc 0 (by omega)).trans rfl)
      refine ⟨0, h1, h2, ⟨Nat.le_of_ble_eq_true rfl, ⟨_, _, rfl⟩, ?_⟩, ⟨Nat.le_of_ble_eq_true rfl, ⟨_, _, rfl⟩, ?_⟩⟩
      · refine RA.steps 3 rfl ?_
        refine RA.call0 rfl rfl rfl (within_t (v := nI N) (lo := 1) (hi := 60) hh) ?_
        refine RA.steps 4 rfl ?_
        refine RA.call0 rfl rfl rfl (within_t (v := b) (lo := 0) (hi := 1) hb) ?_
        refine RA.steps 7 rfl ?_
        exact hr
      · refine RA.steps 4 rfl ?_
        refine RA.call0 rfl rfl rfl (isIn_t (v := nI N) (lo := 1) (hi := 60) hh) ?_
        refine RA.steps 5 rfl ?_
        refine RA.call0 rfl rfl rfl (isIn_t (v := b) (lo := 0) (hi := 1) hb) ?_
        refine RA.steps 2 rfl ?_
        refine RA.call0 rfl rfl (pcallV rfl rfl SM1.1 rfl rfl (Nat.le_of_ble_eq_true rfl)) hl ?_
        refine RA.steps 6 rfl ?_
        exact hm
    · exact ⟨_, _, _, by
        refine ⟨Nat.le_of_ble_eq_true rfl, ⟨_, _, rfl⟩, ?_⟩
        refine RA.steps 3 rfl ?_
        refine RA.call0 rfl rfl rfl (within_t (v := a) (lo := 1) (hi := 60) hh) ?_
        refine RA.steps 4 rfl ?_
        refine RA.call0 rfl rfl rfl (within_f (v := b) (lo := 0) (hi := 1) hb) ?_
        refine RA.steps 2 rfl ?_
        exact RA.ret rfl rfl, by
        refine ⟨Nat.le_of_ble_eq_true rfl, ⟨_, _, rfl⟩, ?_⟩
        refine RA.steps 4 rfl ?_
        refine RA.call0 rfl rfl rfl (isIn_t (v := a) (lo := 1) (hi := 60) hh) ?_
        refine RA.steps 5 rfl ?_
        refine RA.call0 rfl rfl rfl (isIn_f (v := b) (lo := 0) (hi := 1) hb) ?_
        refine RA.steps 2 rfl ?_
        exact RA.ret rfl rfl⟩
  · exact ⟨_, _, _, by
      refine ⟨Nat.le_of_ble_eq_true rfl, ⟨_, _, rfl⟩, ?_⟩
      refine RA.steps 3 rfl ?_
      refine RA.call0 rfl rfl rfl (within_f (v := a) (lo := 1) (hi := 60) hh) ?_
      refine RA.steps 2 rfl ?_
      exact RA.ret rfl rfl, by
      refine ⟨Nat.le_of_ble_eq_true rfl, ⟨_, _, rfl⟩, ?_⟩
      refine RA.steps 4 rfl ?_
      refine RA.call0 rfl rfl rfl (isIn_f (v := a) (lo := 1) (hi := 60) hh) ?_
      refine RA.steps 2 rfl ?_
      exact RA.ret rfl rfl⟩
