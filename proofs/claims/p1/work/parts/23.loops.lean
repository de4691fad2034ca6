/-! ===== loops on a new object ===== -/
section LPS
variable {P : List pM} {E : pX} {V : pV} {d : Nat} {M N : pM} {i i' : Nat} {L L' : pL} {st st' : List Value} {h h' h1 h2 : List pC} {t : pE} {r r1 r2 : Option Value} {res : pR} {j k : Nat} {c : pC}
theorem pobj_lt {o : Nat × List Value} (ho : pobj h k = some o) : k < h.length := (List.getElem?_eq_some_iff.mp (pobj_at ho)).1
theorem pint_lt {o : Nat × (Nat → Int32)} (ho : pint h k = some o) : k < h.length := (List.getElem?_eq_some_iff.mp (pint_at ho)).1
theorem pobj_set {o : Nat × List Value} (hk : k < h.length) : pobj (h.set k (.inr (.inr o))) k = some o := by
  unfold pobj
  rw [List.getElem?_set_self hk]
theorem pint_set {o : Nat × (Nat → Int32)} (hk : k < h.length) : pint (h.set k (.inl o)) k = some o := by
  unfold pint
  rw [List.getElem?_set_self hk]
theorem pobj_ne (hjk : k ≠ j) : pobj (h.set k c) j = pobj h j := by
  unfold pobj
  rw [List.getElem?_set_ne hjk]
theorem pint_ne (hjk : k ≠ j) : pint (h.set k c) j = pint h j := by
  unfold pint
  rw [List.getElem?_set_ne hjk]
theorem set_sameO {o : Nat × List Value} (ho : pobj h k = some o) : h.set k (.inr (.inr o)) = h := by
  have h1 := pobj_at ho
  obtain ⟨hl, he⟩ := List.getElem?_eq_some_iff.mp h1
  rw [← he]
  exact List.set_getElem_self hl
theorem set_sameI {o : Nat × (Nat → Int32)} (ho : pint h k = some o) : h.set k (.inl o) = h := by
  have h1 := pint_at ho
  obtain ⟨hl, he⟩ := List.getElem?_eq_some_iff.mp h1
  rw [← he]
  exact List.set_getElem_self hl
theorem pcallV {n pc x y b : Nat} {v : Value} {ts : List Nat} {st rest : List Value} {o : Nat × List Value} (hN : P[x]? = some N) (hd : st.drop y = .ref b :: rest) (ho : pobj h b = some o) (hk : m_k N = 1) (hc : o.1 = m_c N) (h8 : pcs rest ≤ 8) : pcall P (pc, .invokevirtual n, x, y, v, ts) st h = some (N, .ref b :: (st.take y).reverse, rest) := by
  show (match P[x]? with
    | some M => match st.drop y with
      | .ref b :: r => match pobj h b with
        | some o => if m_k M = 1 ∧ o.1 = m_c M ∧ pcs r ≤ 8 then some (M, Value.ref b :: (st.take y).reverse, r) else none
        | none => none
      | _ => none
    | none => none) = _
  rw [hN]
  dsimp only
  rw [hd]
  dsimp only
  rw [ho]
  dsimp only
  rw [if_pos ⟨hk, hc, h8⟩]
theorem RA.iald {a pc x y : Nat} {v : Value} {w j : Int32} {ts : List Nat} {o : Nat × (Nat → Int32)} {rest : List Value} (he : (m_code M)[i]? = some (pc, .iaload, x, y, v, ts)) (ho : pint h a = some o) (hj : 0 ≤ j ∧ j.toNatClampNeg < o.1) (hw : o.2 j.toNatClampNeg = w) (k : RA P E V (d + 1) M (i + 1) L (.int w :: rest) h res) : RA P E V (d + 1) M i L (.int j :: .ref a :: rest) h res :=
  RA.step0 he rfl rfl (by
    show (match pint h a with
      | some x => if 0 ≤ j ∧ j.toNatClampNeg < x.1 then pnx i L (.int (x.2 j.toNatClampNeg) :: rest) h else none
      | none => none) = _
    rw [ho]
    dsimp only
    rw [if_pos hj, hw]
    rfl) k
theorem RA.iast {a pc x y : Nat} {v : Value} {w j : Int32} {ts : List Nat} {o : Nat × (Nat → Int32)} {rest : List Value} (he : (m_code M)[i]? = some (pc, .iastore, x, y, v, ts)) (ho : pint h a = some o) (hj : 0 ≤ j ∧ j.toNatClampNeg < o.1) (k : RA P E V (d + 1) M (i + 1) L rest (h.set a (.inl (o.1, va_up o.2 j.toNatClampNeg w))) res) : RA P E V (d + 1) M i L (.int w :: .int j :: .ref a :: rest) h res :=
  RA.step0 he rfl rfl (by
    show (match pint h a with
      | some x => if 0 ≤ j ∧ j.toNatClampNeg < x.1 then pnx i L rest (h.set a (.inl (x.1, va_up x.2 j.toNatClampNeg w))) else none
      | none => none) = _
    rw [ho]
    dsimp only
    rw [if_pos hj]
    rfl) k
theorem RA.iinc {n pc x y : Nat} {z : Int} {v : Value} {a b : Int32} {ts : List Nat} (he : (m_code M)[i]? = some (pc, .iinc n z, x, y, v, ts)) (hv : pget L x = some (.int a)) (hb : a + Int32.ofInt z = b) (hp : pset L x (.int b) = some L') (k : RA P E V (d + 1) M (i + 1) L' st h res) : RA P E V (d + 1) M i L st h res :=
  RA.step0 he rfl rfl (by
    show (match pget L x with
      | some (.int a) => psto (pset L x (.int (a + Int32.ofInt z))) i st h
      | _ => none) = _
    rw [hv]
    dsimp only
    rw [hb, hp]
    rfl) k
theorem RA.mmin {n pc y : Nat} {v : Value} {a b w : Int32} {ts : List Nat} {rest : List Value} (he : (m_code M)[i]? = some (pc, .invokestatic n, 99991, y, v, ts)) (hP : pcall P (pc, .invokestatic n, 99991, y, v, ts) (.int b :: .int a :: rest) h = none) (h8 : pcs rest ≤ 8) (hw : (if b < a then b else a) = w) (k : RA P E V (d + 1) M (i + 1) L (.int w :: rest) h res) : RA P E V (d + 1) M i L (.int b :: .int a :: rest) h res :=
  RA.step0 he rfl hP (by
    show (if pcs rest ≤ 8 then pnx i L (.int (if b < a then b else a) :: rest) h else none) = _
    rw [if_pos h8, hw]
    rfl) k
end LPS
section LPM
variable {E : pX} {V : pV} {d : Nat} {h : List pC} {fs : List Value} {f : Nat → Int32}
/-- the reference's row of numbers, without rubbings -/
def SM (h : List pC) (fs : List Value) (f : Nat → Int32) : Prop := pobj h 110 = some (8, fs) ∧ fs[0]? = some (.ref 111) ∧ pint h 111 = some (3075, f) ∧ f 0 = 0
theorem SM.next {g : Nat → Int32} (H : SM h fs f) (g0 : g 0 = 0) : SM (h.set 111 (.inl (3075, g))) fs g := ⟨(pobj_ne (by decide)).trans H.1, H.2.1, pint_set (pint_lt H.2.2.1), g0⟩
theorem drawnM (H : SM h fs f) : ∃ r z : Int32, Run prog E V (d + 1) mX8_drawn [.ref 110] h (some (.int r), h.set 111 (.inl (3075, va_up f 4 z)), 0, 0) := by
  obtain ⟨ho, h0, hs, hf⟩ := H
  exact ⟨_, _, by
    refine ⟨Nat.le_of_ble_eq_true rfl, ⟨_, _, rfl⟩, ?_⟩
    refine RA.steps 1 rfl ?_
    refine RA.getf rfl ho rfl h0 ?_
    refine RA.steps 2 rfl ?_
    refine RA.getf rfl ho rfl h0 ?_
    refine RA.steps 1 rfl ?_
    refine RA.iald rfl hs ⟨by decide, Nat.le_of_ble_eq_true rfl⟩ rfl ?_
    refine RA.steps 4 rfl ?_
    refine RA.iast rfl hs ⟨by decide, Nat.le_of_ble_eq_true rfl⟩ ?_
    refine RA.steps 1 rfl ?_
    refine RA.getf rfl ((pobj_ne (by decide)).trans ho) rfl h0 ?_
    refine RA.steps 1 rfl ?_
    refine RA.iald rfl (pint_set (pint_lt hs)) ⟨by decide, Nat.le_of_ble_eq_true rfl⟩ rfl ?_
    refine RA.steps 2 rfl ?_
    exact RA.ret rfl rfl⟩
theorem goesOn0 (H : SM h fs f) : ∃ g : Nat → Int32, g 0 = 0 ∧ g 3 = f 3 ∧ g 2 = f 2 + 1 ∧ Run prog E V (d + 2) mX8_goesOn [.ref 110] h (none, h.set 111 (.inl (3075, g)), 0, 0) := by
  obtain ⟨r, z, hd⟩ := drawnM (E := E) (V := V) (d := d) H
  have H1 := H.next (g := va_up f 4 z) H.2.2.2
  obtain ⟨ho, h0, hs, hf⟩ := H1
  refine ⟨va_up (va_up f 4 z) 2 (f 2 + 1), H.2.2.2, rfl, rfl, Nat.le_of_ble_eq_true rfl, ⟨_, _, rfl⟩, ?_⟩
  refine RA.steps 1 rfl ?_
  refine RA.call0 rfl rfl (pcallV rfl rfl H.1 rfl rfl (Nat.le_of_ble_eq_true rfl)) hd ?_
  refine RA.steps 7 rfl ?_
  refine RA.getf rfl ho rfl h0 ?_
  refine RA.steps 1 rfl ?_
  refine RA.iald rfl hs ⟨by decide, Nat.le_of_ble_eq_true rfl⟩ hf ?_
  refine RA.if2T rfl rfl ?_
  refine RA.steps 1 rfl ?_
  refine RA.getf rfl ho rfl h0 ?_
  refine RA.steps 2 rfl ?_
  refine RA.iald rfl hs ⟨by decide, Nat.le_of_ble_eq_true rfl⟩ rfl ?_
  refine RA.steps 2 rfl ?_
  refine RA.iast rfl hs ⟨by decide, Nat.le_of_ble_eq_true rfl⟩ ?_
  exact RA.to (RA.ret rfl rfl) (by rw [List.set_set]; rfl)
theorem gom_loop (N : Nat) (hN : N < 2 ^ 31) : ∀ (m K : Nat) (h : List pC) (f : Nat → Int32), K + m = N → SM h fs f → ∃ g : Nat → Int32, g 0 = 0 ∧ g 3 = f 3 ∧ RA prog E V (d + 3) mX8_goesOnMany 2 [some (.ref 110), some (.int (nI N)), some (.int (nI K))] [] h (none, h.set 111 (.inl (3075, g)), 0, 0) := by
  intro m
  induction m with
  | zero =>
    intro K h f hK H
    obtain rfl : K = N := by omega
    refine ⟨f, H.2.2.2, rfl, ?_⟩
    refine RA.steps 2 rfl ?_
    refine RA.if2T rfl (decide_eq_true (Int32.le_refl _)) ?_
    exact RA.to (RA.ret rfl rfl) (by rw [set_sameI H.2.2.1])
  | succ m ih =>
    intro K h f hK H
    obtain ⟨g, g0, g3, -, hr⟩ := goesOn0 (E := E) (V := V) (d := d) H
    obtain ⟨g', g0', g3', hr'⟩ := ih (K + 1) _ g (by omega) (H.next g0)
    rw [List.set_set] at hr'
    refine ⟨g', g0', g3'.trans g3, ?_⟩
    refine RA.steps 2 rfl ?_
    refine RA.if2F rfl (decide_eq_false (nI_ge (show K < N by omega) hN)) ?_
    refine RA.steps 1 rfl ?_
    refine RA.call0 rfl rfl (pcallV rfl rfl H.1 rfl rfl (Nat.le_of_ble_eq_true rfl)) hr ?_
    refine RA.iinc rfl rfl (nI_1 K) rfl ?_
    refine RA.steps 1 rfl ?_
    exact hr'
theorem gom_run (N : Nat) (hN : N < 2 ^ 31) (H : SM h fs f) : ∃ g : Nat → Int32, g 0 = 0 ∧ g 3 = f 3 ∧ Run prog E V (d + 3) mX8_goesOnMany [.ref 110, .int (nI N)] h (none, h.set 111 (.inl (3075, g)), 0, 0) := by
  obtain ⟨g, g0, g3, hr⟩ := gom_loop (E := E) (V := V) (d := d) N hN N 0 h f (by omega) H
  refine ⟨g, g0, g3, Nat.le_of_ble_eq_true rfl, ⟨_, _, rfl⟩, ?_⟩
  refine RA.steps 2 rfl ?_
  exact hr
theorem allTrust0 (H : SM h fs f) : Run prog E V (d + 1) mX8_allTrust [.ref 110] h (some (.int 0), h, 0, 0) := by
  obtain ⟨ho, h0, hs, hf⟩ := H
  refine ⟨Nat.le_of_ble_eq_true rfl, ⟨_, _, rfl⟩, ?_⟩
  refine RA.steps 6 rfl ?_
  refine RA.getf rfl ho rfl h0 ?_
  refine RA.steps 1 rfl ?_
  refine RA.iald rfl hs ⟨by decide, Nat.le_of_ble_eq_true rfl⟩ hf ?_
  refine RA.if2T rfl rfl ?_
  refine RA.steps 1 rfl ?_
  exact RA.ret rfl rfl
theorem laidOnes0 (H : SM h fs f) : Run prog E V (d + 1) mX8_laidOnes [.ref 110] h (some (.int 0), h, 0, 0) := by
  obtain ⟨ho, h0, hs, hf⟩ := H
  refine ⟨Nat.le_of_ble_eq_true rfl, ⟨_, _, rfl⟩, ?_⟩
  refine RA.steps 6 rfl ?_
  refine RA.getf rfl ho rfl h0 ?_
  refine RA.steps 1 rfl ?_
  refine RA.iald rfl hs ⟨by decide, Nat.le_of_ble_eq_true rfl⟩ hf ?_
  refine RA.if2T rfl rfl ?_
  refine RA.steps 1 rfl ?_
  exact RA.ret rfl rfl
theorem sa_loop {this A B nA nB : Nat} {f : Nat → Int32} (hAB : B ≠ A) (hA : 2875 ≤ nA) (hB : 2875 ≤ nB) : ∀ (m K : Nat) (h : List pC) (g : Nat → Int32), K + m = 2875 → pint h A = some (nA, f) → pint h B = some (nB, g) → ∃ g' : Nat → Int32, RA prog E V (d + 1) mX8_setAside 2 [some (.ref this), some (.ref A), some (.ref B), some (.int (nI K))] [] h (none, h.set B (.inl (nB, g')), 0, 0) := by
  intro m
  induction m with
  | zero =>
    intro K h g hK h1 h2
    obtain rfl : K = 2875 := by omega
    refine ⟨g, ?_⟩
    refine RA.steps 2 rfl ?_
    refine RA.if2T rfl rfl ?_
    exact RA.to (RA.ret rfl rfl) (by rw [set_sameI h2])
  | succ m ih =>
    intro K h g hK h1 h2
    have hK2 : K < 2875 := by omega
    have hj : ∀ n : Nat, 2875 ≤ n → 0 ≤ nI K ∧ (nI K).toNatClampNeg < n := fun n hn => ⟨nI_pos' (by omega), by rw [nI_clamp (show K < 2 ^ 31 by omega)]; omega⟩
    obtain ⟨g', hr⟩ := ih (K + 1) (h.set B (.inl (nB, va_up g (nI K).toNatClampNeg (f (nI K).toNatClampNeg)))) _ (by omega) ((pint_ne hAB).trans h1) (pint_set (pint_lt h2))
    rw [List.set_set] at hr
    refine ⟨g', ?_⟩
    refine RA.steps 2 rfl ?_
    refine RA.if2F rfl (decide_eq_false (show ¬ nI 2875 ≤ nI K from nI_ge hK2 (by omega))) ?_
    refine RA.steps 4 rfl ?_
    refine RA.iald rfl h1 (hj nA hA) rfl ?_
    refine RA.iast rfl h2 (hj nB hB) ?_
    refine RA.iinc rfl rfl (nI_1 K) rfl ?_
    refine RA.steps 1 rfl ?_
    exact hr
theorem sa_run {this A B nA nB : Nat} {f g : Nat → Int32} (h1 : pint h A = some (nA, f)) (h2 : pint h B = some (nB, g)) (hAB : B ≠ A) (hA : 2875 ≤ nA) (hB : 2875 ≤ nB) : ∃ g' : Nat → Int32, Run prog E V (d + 1) mX8_setAside [.ref this, .ref A, .ref B] h (none, h.set B (.inl (nB, g')), 0, 0) := by
  obtain ⟨g', hr⟩ := sa_loop (E := E) (V := V) (d := d) (this := this) hAB hA hB 2875 0 h g (by omega) h1 h2
  refine ⟨g', Nat.le_of_ble_eq_true rfl, ⟨_, _, rfl⟩, ?_⟩
  refine RA.steps 2 rfl ?_
  exact hr
theorem laysBy_loop {fs : List Value} {f : Nat → Int32} (hfA : fs[0]? = some (.ref 111)) (hfB : fs[13]? = some (.ref 123)) : ∀ (m K : Nat) (h : List pC) (g : Nat → Int32), K + m = 75 → pobj h 110 = some (8, fs) → pint h 111 = some (3075, f) → pint h 123 = some (75, g) → (∀ j, j < K → g j = f j) → ∃ g' : Nat → Int32, (∀ j, j < 75 → g' j = f j) ∧ RA prog E V (d + 1) mX8_laysBy 2 [some (.ref 110), some (.int (nI K))] [] h (none, h.set 123 (.inl (75, g')), 0, 0) := by
  intro m
  induction m with
  | zero =>
    intro K h g hK ho h1 h2 hg
    obtain rfl : K = 75 := by omega
    refine ⟨g, hg, ?_⟩
    refine RA.steps 2 rfl ?_
    refine RA.if2T rfl rfl ?_
    exact RA.to (RA.ret rfl rfl) (by rw [set_sameI h2])
  | succ m ih =>
    intro K h g hK ho h1 h2 hg
    have hK2 : K < 75 := by omega
    have hj : ∀ n : Nat, 75 ≤ n → 0 ≤ nI K ∧ (nI K).toNatClampNeg < n := fun n hn => ⟨nI_pos' (by omega), by rw [nI_clamp (show K < 2 ^ 31 by omega)]; omega⟩
    have hc : (nI K).toNatClampNeg = K := nI_clamp (show K < 2 ^ 31 by omega)
    obtain ⟨g', hg', hr⟩ := ih (K + 1) (h.set 123 (.inl (75, va_up g (nI K).toNatClampNeg (f (nI K).toNatClampNeg)))) _ (by omega) ((pobj_ne (by decide)).trans ho) ((pint_ne (by decide)).trans h1) (pint_set (pint_lt h2)) (fun j hj => by
      show (if j = (nI K).toNatClampNeg then f (nI K).toNatClampNeg else g j) = f j
      rw [hc]
      by_cases e : j = K
      · rw [if_pos e, e]
      · rw [if_neg e]
        exact hg j (by omega))
    rw [List.set_set] at hr
    refine ⟨g', hg', ?_⟩
    refine RA.steps 2 rfl ?_
    refine RA.if2F rfl (decide_eq_false (show ¬ nI 75 ≤ nI K from nI_ge hK2 (by omega))) ?_
    refine RA.steps 1 rfl ?_
    refine RA.getf rfl ho rfl hfB ?_
    refine RA.steps 2 rfl ?_
    refine RA.getf rfl ho rfl hfA ?_
    refine RA.steps 1 rfl ?_
    refine RA.iald rfl h1 (hj 3075 (Nat.le_of_ble_eq_true rfl)) rfl ?_
    refine RA.iast rfl h2 (hj 75 (Nat.le_of_ble_eq_true rfl)) ?_
    refine RA.iinc rfl rfl (nI_1 K) rfl ?_
    refine RA.steps 1 rfl ?_
    exact hr
theorem laysBy_run {fs : List Value} {f g : Nat → Int32} (hfA : fs[0]? = some (.ref 111)) (hfB : fs[13]? = some (.ref 123)) (ho : pobj h 110 = some (8, fs)) (h1 : pint h 111 = some (3075, f)) (h2 : pint h 123 = some (75, g)) : ∃ g' : Nat → Int32, (∀ j, j < 75 → g' j = f j) ∧ Run prog E V (d + 1) mX8_laysBy [.ref 110] h (none, h.set 123 (.inl (75, g')), 0, 0) := by
  obtain ⟨g', hg, hr⟩ := laysBy_loop (E := E) (V := V) (d := d) hfA hfB 75 0 h g (by omega) ho h1 h2 (fun j hj => absurd hj (Nat.not_lt_zero j))
  refine ⟨g', hg, Nat.le_of_ble_eq_true rfl, ⟨_, _, rfl⟩, ?_⟩
  refine RA.steps 2 rfl ?_
  exact hr
theorem laysBack_loop {fs : List Value} {f : Nat → Int32} (hfA : fs[13]? = some (.ref 123)) (hfB : fs[0]? = some (.ref 111)) : ∀ (m K : Nat) (h : List pC) (g : Nat → Int32), K + m = 75 → pobj h 110 = some (8, fs) → pint h 123 = some (75, f) → pint h 111 = some (3075, g) → (∀ j, j < K → g j = f j) → ∃ g' : Nat → Int32, (∀ j, j < 75 → g' j = f j) ∧ RA prog E V (d + 1) mX8_laysBack 2 [some (.ref 110), some (.int (nI K))] [] h (none, h.set 111 (.inl (3075, g')), 0, 0) := by
  intro m
  induction m with
  | zero =>
    intro K h g hK ho h1 h2 hg
    obtain rfl : K = 75 := by omega
    refine ⟨g, hg, ?_⟩
    refine RA.steps 2 rfl ?_
    refine RA.if2T rfl rfl ?_
    exact RA.to (RA.ret rfl rfl) (by rw [set_sameI h2])
  | succ m ih =>
    intro K h g hK ho h1 h2 hg
    have hK2 : K < 75 := by omega
    have hj : ∀ n : Nat, 75 ≤ n → 0 ≤ nI K ∧ (nI K).toNatClampNeg < n := fun n hn => ⟨nI_pos' (by omega), by rw [nI_clamp (show K < 2 ^ 31 by omega)]; omega⟩
    have hc : (nI K).toNatClampNeg = K := nI_clamp (show K < 2 ^ 31 by omega)
    obtain ⟨g', hg', hr⟩ := ih (K + 1) (h.set 111 (.inl (3075, va_up g (nI K).toNatClampNeg (f (nI K).toNatClampNeg)))) _ (by omega) ((pobj_ne (by decide)).trans ho) ((pint_ne (by decide)).trans h1) (pint_set (pint_lt h2)) (fun j hj => by
      show (if j = (nI K).toNatClampNeg then f (nI K).toNatClampNeg else g j) = f j
      rw [hc]
      by_cases e : j = K
      · rw [if_pos e, e]
      · rw [if_neg e]
        exact hg j (by omega))
    rw [List.set_set] at hr
    refine ⟨g', hg', ?_⟩
    refine RA.steps 2 rfl ?_
    refine RA.if2F rfl (decide_eq_false (show ¬ nI 75 ≤ nI K from nI_ge hK2 (by omega))) ?_
    refine RA.steps 1 rfl ?_
    refine RA.getf rfl ho rfl hfB ?_
    refine RA.steps 2 rfl ?_
    refine RA.getf rfl ho rfl hfA ?_
    refine RA.steps 1 rfl ?_
    refine RA.iald rfl h1 (hj 75 (Nat.le_of_ble_eq_true rfl)) rfl ?_
    refine RA.iast rfl h2 (hj 3075 (Nat.le_of_ble_eq_true rfl)) ?_
    refine RA.iinc rfl rfl (nI_1 K) rfl ?_
    refine RA.steps 1 rfl ?_
    exact hr
theorem laysBack_run {fs : List Value} {f g : Nat → Int32} (hfA : fs[13]? = some (.ref 123)) (hfB : fs[0]? = some (.ref 111)) (ho : pobj h 110 = some (8, fs)) (h1 : pint h 123 = some (75, f)) (h2 : pint h 111 = some (3075, g)) : ∃ g' : Nat → Int32, (∀ j, j < 75 → g' j = f j) ∧ Run prog E V (d + 1) mX8_laysBack [.ref 110] h (none, h.set 111 (.inl (3075, g')), 0, 0) := by
  obtain ⟨g', hg, hr⟩ := laysBack_loop (E := E) (V := V) (d := d) hfA hfB 75 0 h g (by omega) ho h1 h2 (fun j hj => absurd hj (Nat.not_lt_zero j))
  refine ⟨g', hg, Nat.le_of_ble_eq_true rfl, ⟨_, _, rfl⟩, ?_⟩
  refine RA.steps 2 rfl ?_
  exact hr
theorem mt_loop (N : Nat) (hN : N ≤ 100) (was : Int32) : ∀ (m K : Nat) (h : List pC) (f : Nat → Int32), K + m = N → SM h fs f → f 3 = was → f 2 = nI K → ∃ h2 : List pC, RA prog E V (d + 3) mX8_tides 15 [some (.ref 110), some (.int (nI N)), some (.int was), some (.int (nI K))] [] h (some (.int 0), h2, 0, 0) := by
  intro m
  induction m with
  | zero =>
    intro K h f hK H hw h2
    obtain rfl : K = N := by omega
    obtain ⟨ho, h0, hs, hf⟩ := H
    refine ⟨h, ?_⟩
    refine RA.steps 2 rfl ?_
    refine RA.if2T rfl (decide_eq_true (Int32.le_refl _)) ?_
    refine RA.steps 1 rfl ?_
    refine RA.getf rfl ho rfl h0 ?_
    refine RA.steps 1 rfl ?_
    refine RA.iald rfl hs ⟨by decide, Nat.le_of_ble_eq_true rfl⟩ hw ?_
    refine RA.steps 2 rfl ?_
    exact RA.to (RA.ret rfl rfl) (by show (some (Value.int (was - was)), h, 0, 0) = _; rw [show was - was = 0 from Int32.sub_self was])
  | succ m ih =>
    intro K h f hK H hw h2
    obtain ⟨ho, h0, hs, hf⟩ := id H
    obtain ⟨g, g0, g3, g2, hr⟩ := goesOn0 (E := E) (V := V) (d := d) H
    obtain ⟨q, hr'⟩ := ih (K + 1) _ g (by omega) (H.next g0) (g3.trans hw) (by rw [g2, h2]; exact nI_1 K)
    refine ⟨q, ?_⟩
    refine RA.steps 2 rfl ?_
    refine RA.if2F rfl (decide_eq_false (nI_ge (show K < N by omega) (by omega))) ?_
    refine RA.steps 1 rfl ?_
    refine RA.getf rfl ho rfl h0 ?_
    refine RA.steps 1 rfl ?_
    refine RA.iald rfl hs ⟨by decide, Nat.le_of_ble_eq_true rfl⟩ h2 ?_
    refine RA.steps 1 rfl ?_
    refine RA.if2F rfl (decide_eq_false (fun q => absurd q (show ¬ nI 9999 ≤ nI K from nI_ge (by omega) (by omega)))) ?_
    refine RA.steps 1 rfl ?_
    refine RA.call0 rfl rfl (pcallV rfl rfl H.1 rfl rfl (Nat.le_of_ble_eq_true rfl)) hr ?_
    refine RA.iinc rfl rfl (nI_1 K) rfl ?_
    refine RA.steps 1 rfl ?_
    exact hr'
end LPM
section LPC
variable {E : pX} {V : pV} {d w : Nat} {h : List pC} {a1 a2 a3 a4 a5 a6 a7 a8 a9 : Value}
theorem draw_run {z : Int32} (hw : pobj h w = some (6, [a1, a2, a3, a4, a5, a6, a7, a8, a9, .int z])) : ∃ r z' : Int32, Run prog E V (d + 1) mX6_draw [.ref w] h (some (.int r), h.set w (.inr (.inr (6, [a1, a2, a3, a4, a5, a6, a7, a8, a9, .int z']))), 0, 0) := by
  exact ⟨_, _, by
    refine ⟨Nat.le_of_ble_eq_true rfl, ⟨_, _, rfl⟩, ?_⟩
    refine RA.steps 2 rfl ?_
    refine RA.getf rfl hw rfl rfl ?_
    refine RA.steps 4 rfl ?_
    refine RA.putf rfl hw rfl rfl ?_
    refine RA.steps 1 rfl ?_
    refine RA.getf rfl (pobj_set (pobj_lt hw)) rfl rfl ?_
    refine RA.steps 2 rfl ?_
    exact RA.ret rfl rfl⟩
theorem flow_loop (N : Nat) (hN : N < 2 ^ 31) : ∀ (m K : Nat) (h : List pC) (ti z : Int32) (l3 l4 l5 : Option Value), K + m = N → pobj h w = some (6, [a1, a2, a3, a4, a5, .int 0, a7, .int ti, a9, .int z]) → ∃ ti' z' : Int32, RA prog E V (d + 2) mX6_flow 2 [some (.ref w), some (.int (nI N)), some (.int (nI K)), l3, l4, l5] [] h (none, h.set w (.inr (.inr (6, [a1, a2, a3, a4, a5, .int 0, a7, .int ti', a9, .int z']))), 0, 0) := by
  intro m
  induction m with
  | zero =>
    intro K h ti z l3 l4 l5 hK H
    obtain rfl : K = N := by omega
    refine ⟨ti, z, ?_⟩
    refine RA.steps 2 rfl ?_
    refine RA.if2T rfl (decide_eq_true (Int32.le_refl _)) ?_
    exact RA.to (RA.ret rfl rfl) (by rw [set_sameO H])
  | succ m ih =>
    intro K h ti z l3 l4 l5 hK H
    obtain ⟨r, z1, hr⟩ := draw_run (E := E) (V := V) (d := d) H
    have H1 := pobj_set (o := (6, [a1, a2, a3, a4, a5, .int 0, a7, .int ti, a9, .int z1])) (pobj_lt H)
    have H2 := pobj_set (h := h.set w (.inr (.inr (6, [a1, a2, a3, a4, a5, .int 0, a7, .int ti, a9, .int z1])))) (o := (6, [a1, a2, a3, a4, a5, .int 0, a7, .int (ti + 1), a9, .int z1])) (pobj_lt H1)
    obtain ⟨ti', z', hr'⟩ := ih (K + 1) _ (ti + 1) z1 (some (.int (r - r / 16 * 16))) (some (.int 0)) l5 (by omega) H2
    rw [List.set_set, List.set_set] at hr'
    refine ⟨ti', z', ?_⟩
    refine RA.steps 2 rfl ?_
    refine RA.if2F rfl (decide_eq_false (nI_ge (show K < N by omega) hN)) ?_
    refine RA.steps 1 rfl ?_
    refine RA.call0 rfl rfl (pcallV rfl rfl H rfl rfl (Nat.le_of_ble_eq_true rfl)) hr ?_
    refine RA.steps 7 rfl ?_
    refine RA.getf rfl H1 rfl rfl ?_
    refine RA.if2T rfl rfl ?_
    refine RA.steps 2 rfl ?_
    refine RA.getf rfl H1 rfl rfl ?_
    refine RA.steps 2 rfl ?_
    refine RA.putf rfl H1 rfl rfl ?_
    refine RA.iinc rfl rfl (nI_1 K) rfl ?_
    refine RA.steps 1 rfl ?_
    rw [List.set_set]
    exact hr'
theorem flow_run {ti z : Int32} (N : Nat) (hN : N < 2 ^ 31) (H : pobj h w = some (6, [a1, a2, a3, a4, a5, .int 0, a7, .int ti, a9, .int z])) : ∃ ti' z' : Int32, Run prog E V (d + 2) mX6_flow [.ref w, .int (nI N)] h (none, h.set w (.inr (.inr (6, [a1, a2, a3, a4, a5, .int 0, a7, .int ti', a9, .int z']))), 0, 0) := by
  obtain ⟨ti', z', hr⟩ := flow_loop (E := E) (V := V) (d := d) N hN N 0 h ti z none none none (by omega) H
  refine ⟨ti', z', Nat.le_of_ble_eq_true rfl, ⟨_, _, rfl⟩, ?_⟩
  refine RA.steps 2 rfl ?_
  exact hr
end LPC
set_option maxRecDepth 100000 in
set_option maxHeartbeats 4000000 in
theorem q_tides (E : pX) (a : Int32) : ∃ (r : Int32) (h1 h2 : List pC), Run prog E pV0 40 mX7_tides [.ref 0, .int a] h0 (some (.int r), h1, 0, 0) ∧ Run prog E pV0 40 mX8_tides [.ref 110, .int a] h1 (some (.int r), h2, 0, 0) := by
  by_cases hh : 1 ≤ a ∧ a ≤ 100
  · obtain ⟨N, hN, rfl⟩ := nI_of2 (x := a) (M := 100) (n := 100) (by decide) (Int32.not_lt.mpr (Int32.le_trans (by decide) hh.1)) hh.2
    obtain ⟨ti, z, hr⟩ := flow_run (E := E) (V := pV0) (d := 37) (h := h0) (w := 34) N (by omega) rfl
    have hm : (if (9999 - 0 : Int32) < nI N then (9999 - 0 : Int32) else nI N) = nI N := if_neg (show ¬ nI 9999 < nI N from nI_nlt (by omega) (by omega))
    obtain ⟨h2, hq⟩ := mt_loop (E := E) (V := pV0) (d := 37) N hN 0 N 0 (h0.set 34 (.inr (.inr (6, [.ref 1, .ref 35, .ref 36, .ref 37, .ref 38, .int 0, .int 0, .int ti, .int 0, .int z])))) _ (by omega) ⟨rfl, rfl, rfl, rfl⟩ rfl rfl
    refine ⟨0, h0.set 34 (.inr (.inr (6, [.ref 1, .ref 35, .ref 36, .ref 37, .ref 38, .int 0, .int 0, .int ti, .int 0, .int z]))), h2, ?_, ?_⟩
    · refine ⟨Nat.le_of_ble_eq_true rfl, ⟨_, _, rfl⟩, ?_⟩
      refine RA.steps 3 rfl ?_
      refine RA.call0 rfl rfl rfl (within_t (v := nI N) (lo := 1) (hi := 100) hh) ?_
      refine RA.steps 13 rfl ?_
      refine RA.mmin rfl rfl (Nat.le_of_ble_eq_true rfl) hm ?_
      refine RA.call0 rfl rfl rfl hr ?_
      refine RA.steps 5 rfl ?_
      exact RA.to (RA.ret rfl rfl) rfl
    · refine ⟨Nat.le_of_ble_eq_true rfl, ⟨_, _, rfl⟩, ?_⟩
      refine RA.steps 4 rfl ?_
      refine RA.call0 rfl rfl rfl (isIn_t (v := nI N) (lo := 1) (hi := 100) hh) ?_
      refine RA.steps 8 rfl ?_
      exact hq
  · exact ⟨_, _, _, by
      refine ⟨Nat.le_of_ble_eq_true rfl, ⟨_, _, rfl⟩, ?_⟩
      refine RA.steps 3 rfl ?_
      refine RA.call0 rfl rfl rfl (within_f (v := a) (lo := 1) (hi := 100) hh) ?_
      refine RA.steps 2 rfl ?_
      exact RA.ret rfl rfl, by
      refine ⟨Nat.le_of_ble_eq_true rfl, ⟨_, _, rfl⟩, ?_⟩
      refine RA.steps 4 rfl ?_
      refine RA.call0 rfl rfl rfl (isIn_f (v := a) (lo := 1) (hi := 100) hh) ?_
      refine RA.steps 2 rfl ?_
      exact RA.ret rfl rfl⟩
