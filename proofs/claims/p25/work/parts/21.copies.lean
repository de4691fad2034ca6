/-! ===== rules and leaves for runs with unknown ints ===== -/
section GRD
variable {P : List pM} {E : pX} {V : pV} {d : Nat} {M N : pM} {i i' : Nat} {L L' : pL} {st st' : List Value} {h h' h1 h2 : List pC} {t : pE} {r r1 r2 : Option Value} {k1 n1 k2 n2 : Nat} {res : pR}
theorem RA.if1T {k0 : ClassFile.Cond} {z : Int} {a : Int32} {pc x y : Nat} {v : Value} {ts : List Nat} {rest : List Value} (he : (m_code M)[i]? = some (pc, .ifCond k0 z, x, y, v, ts)) (hb : pc1 k0 a = true) (kt : RA P E V (d + 1) M x L rest h res) : RA P E V (d + 1) M i L (.int a :: rest) h res :=
  RA.step0 he rfl rfl (by show some (cond (pc1 k0 a) x (i + 1), L, rest, h, 0, 0) = _; rw [hb]; rfl) kt
theorem RA.if1F {k0 : ClassFile.Cond} {z : Int} {a : Int32} {pc x y : Nat} {v : Value} {ts : List Nat} {rest : List Value} (he : (m_code M)[i]? = some (pc, .ifCond k0 z, x, y, v, ts)) (hb : pc1 k0 a = false) (kf : RA P E V (d + 1) M (i + 1) L rest h res) : RA P E V (d + 1) M i L (.int a :: rest) h res :=
  RA.step0 he rfl rfl (by show some (cond (pc1 k0 a) x (i + 1), L, rest, h, 0, 0) = _; rw [hb]; rfl) kf
theorem RA.if2T {k0 : ClassFile.Cond} {z : Int} {a b : Int32} {pc x y : Nat} {v : Value} {ts : List Nat} {rest : List Value} (he : (m_code M)[i]? = some (pc, .if_icmp k0 z, x, y, v, ts)) (hb : pc2 k0 a b = true) (kt : RA P E V (d + 1) M x L rest h res) : RA P E V (d + 1) M i L (.int b :: .int a :: rest) h res :=
  RA.step0 he rfl rfl (by show some (cond (pc2 k0 a b) x (i + 1), L, rest, h, 0, 0) = _; rw [hb]; rfl) kt
theorem RA.if2F {k0 : ClassFile.Cond} {z : Int} {a b : Int32} {pc x y : Nat} {v : Value} {ts : List Nat} {rest : List Value} (he : (m_code M)[i]? = some (pc, .if_icmp k0 z, x, y, v, ts)) (hb : pc2 k0 a b = false) (kf : RA P E V (d + 1) M (i + 1) L rest h res) : RA P E V (d + 1) M i L (.int b :: .int a :: rest) h res :=
  RA.step0 he rfl rfl (by show some (cond (pc2 k0 a b) x (i + 1), L, rest, h, 0, 0) = _; rw [hb]; rfl) kf
theorem RA.sw {a : Int32} {x : Nat} {rest : List Value} (he : (m_code M)[i]? = some t) (hr : pret M t (.int a :: rest) = none) (hc : pcall P t (.int a :: rest) h = none) (hs : pstep E t i L (.int a :: rest) h = some (psw a.toInt (pkeys t) (e_x t), L, rest, h, 0, 0)) (hx : psw a.toInt (pkeys t) (e_x t) = x) (k : RA P E V (d + 1) M x L rest h res) : RA P E V (d + 1) M i L (.int a :: rest) h res := by
  rw [hx] at hs
  exact RA.step0 he hr hc hs k
theorem RA.getf {n a pc x y : Nat} {v w : Value} {ts : List Nat} {o : Nat × List Value} {rest : List Value} (he : (m_code M)[i]? = some (pc, .getfield n, x, y, v, ts)) (ho : pobj h a = some o) (hx : o.1 = x) (hw : o.2[y]? = some w) (k : RA P E V (d + 1) M (i + 1) L (w :: rest) h res) : RA P E V (d + 1) M i L (.ref a :: rest) h res :=
  RA.step0 he rfl rfl (by
    show (match pobj h a with
      | some o => if o.1 = x then (match o.2[y]? with
        | some v => pnx i L (v :: rest) h
        | none => none) else none
      | none => none) = _
    rw [ho]
    dsimp only
    rw [if_pos hx, hw]
    rfl) k
theorem RA.putf {n a pc x y : Nat} {v w : Value} {ts : List Nat} {o : Nat × List Value} {rest : List Value} (he : (m_code M)[i]? = some (pc, .putfield n, x, y, v, ts)) (ho : pobj h a = some o) (hx : o.1 = x) (hf : pfit (ptyp x y) w = true) (k : RA P E V (d + 1) M (i + 1) L rest (h.set a (.inr (.inr (o.1, o.2.set y w)))) res) : RA P E V (d + 1) M i L (w :: .ref a :: rest) h res :=
  RA.step0 he rfl rfl (by
    show (match pobj h a with
      | some o => if o.1 = x then (if pfit (ptyp x y) w = true then pnx i L rest (h.set a (.inr (.inr (o.1, o.2.set y w)))) else none) else none
      | none => none) = _
    rw [ho]
    dsimp only
    rw [if_pos hx, if_pos hf]
    rfl) k
theorem Run.ex {as : List Value} (f : Nat) (hl : (pexp as).length ≤ m_l N) (hn : ∃ u us, m_code N = u :: us) (hx : pexec P E V f d N 0 (pent (m_l N) as) [] h = some res) : Run P E V d N as h res := ⟨hl, hn, f, hx⟩
end GRD
section GRE
variable {E : pX} {V : pV} {d : Nat} {h : List pC}
theorem within_t {v lo hi : Int32} (H : lo ≤ v ∧ v ≤ hi) : Run prog E V (d + 1) mX7_within [.int v, .int lo, .int hi] h (some (.int 1), h, 0, 0) := by
  refine ⟨Nat.le_of_ble_eq_true rfl, ⟨_, _, rfl⟩, ?_⟩
  refine RA.steps 2 rfl ?_
  refine RA.if2F rfl (decide_eq_false (Int32.not_lt.mpr H.1)) ?_
  refine RA.steps 2 rfl ?_
  refine RA.if2F rfl (decide_eq_false (Int32.not_lt.mpr H.2)) ?_
  refine RA.steps 2 rfl ?_
  exact RA.ret rfl rfl
theorem within_f {v lo hi : Int32} (H : ¬ (lo ≤ v ∧ v ≤ hi)) : Run prog E V (d + 1) mX7_within [.int v, .int lo, .int hi] h (some (.int 0), h, 0, 0) := by
  refine ⟨Nat.le_of_ble_eq_true rfl, ⟨_, _, rfl⟩, ?_⟩
  refine RA.steps 2 rfl ?_
  by_cases h1 : v < lo
  · refine RA.if2T rfl (decide_eq_true h1) ?_
    refine RA.steps 1 rfl ?_
    exact RA.ret rfl rfl
  · refine RA.if2F rfl (decide_eq_false h1) ?_
    refine RA.steps 2 rfl ?_
    have h2 : hi < v := by
      refine Int32.not_le.mp (fun q => H ⟨Int32.not_lt.mp h1, q⟩)
    refine RA.if2T rfl (decide_eq_true h2) ?_
    refine RA.steps 1 rfl ?_
    exact RA.ret rfl rfl
theorem i64_le {a b : Int32} : a.toInt64 ≤ b.toInt64 ↔ a ≤ b := by
  rw [Int64.le_iff_toInt_le, Int32.le_iff_toInt_le, Int32.toInt_toInt64, Int32.toInt_toInt64]
theorem lgc_ge {x y : Int64} : 0 ≤ lg_cmp x y ↔ y ≤ x := lg_cmp_ge x y
theorem lgc_nlt {a b : Int32} (h : b ≤ a) : pc1 .lt (lg_cmp a.toInt64 b.toInt64) = false := decide_eq_false (Int32.not_lt.mpr (lgc_ge.mpr (i64_le.mpr h)))
theorem lgc_lt {a b : Int32} (h : ¬ b ≤ a) : pc1 .lt (lg_cmp a.toInt64 b.toInt64) = true := decide_eq_true (Int32.not_le.mp (fun q => h (i64_le.mp (lgc_ge.mp q))))
theorem lgc_le' (x y : Int64) : (lg_cmp x y ≤ 0) ↔ x ≤ y := by
  unfold lg_cmp
  by_cases h1 : x > y
  · rw [if_pos h1]
    exact ⟨fun q => absurd q (by decide), fun q => absurd h1 (Int64.not_lt.mpr q)⟩
  · rw [if_neg h1]
    have h2 : x ≤ y := Int64.not_lt.mp h1
    by_cases h3 : x = y
    · rw [if_pos h3]
      exact ⟨fun _ => h2, fun _ => by decide⟩
    · rw [if_neg h3]
      exact ⟨fun _ => h2, fun _ => by decide⟩
theorem lgc_ngt {a b : Int32} (h : a ≤ b) : pc1 .gt (lg_cmp a.toInt64 b.toInt64) = false := decide_eq_false (Int32.not_lt.mpr ((lgc_le' _ _).mpr (i64_le.mpr h)))
theorem lgc_gt {a b : Int32} (h : ¬ a ≤ b) : pc1 .gt (lg_cmp a.toInt64 b.toInt64) = true := decide_eq_true (Int32.not_le.mp (fun q => h (i64_le.mp ((lgc_le' _ _).mp q))))
theorem isIn_t {v lo hi : Int32} (H : lo ≤ v ∧ v ≤ hi) : Run prog E V (d + 1) mX8_isIn [.long v.toInt64, .long lo.toInt64, .long hi.toInt64] h (some (.int 1), h, 0, 0) := by
  refine ⟨Nat.le_of_ble_eq_true rfl, ⟨_, _, rfl⟩, ?_⟩
  refine RA.steps 3 rfl ?_
  refine RA.if1F rfl (lgc_nlt H.1) ?_
  refine RA.steps 3 rfl ?_
  refine RA.if1F rfl (lgc_ngt H.2) ?_
  refine RA.steps 2 rfl ?_
  exact RA.ret rfl rfl
theorem isIn_f {v lo hi : Int32} (H : ¬ (lo ≤ v ∧ v ≤ hi)) : Run prog E V (d + 1) mX8_isIn [.long v.toInt64, .long lo.toInt64, .long hi.toInt64] h (some (.int 0), h, 0, 0) := by
  refine ⟨Nat.le_of_ble_eq_true rfl, ⟨_, _, rfl⟩, ?_⟩
  refine RA.steps 3 rfl ?_
  by_cases h1 : lo ≤ v
  · refine RA.if1F rfl (lgc_nlt h1) ?_
    refine RA.steps 3 rfl ?_
    refine RA.if1T rfl (lgc_gt (fun q => H ⟨h1, q⟩)) ?_
    refine RA.steps 1 rfl ?_
    exact RA.ret rfl rfl
  · refine RA.if1T rfl (lgc_lt h1) ?_
    refine RA.steps 1 rfl ?_
    exact RA.ret rfl rfl
theorem in_no {v lo hi : Int32} (h : hi < lo) : ¬ (lo ≤ v ∧ v ≤ hi) := fun q => absurd (Int32.le_trans q.1 q.2) (Int32.not_le.mpr h)
/-- the wall of a new object has no rubbing -/
theorem one_no {w : Nat} {a1 a2 a3 a4 a5 a7 a8 a9 a10 : Value} (k : Int32) (hw : pobj h w = some (6, [a1, a2, a3, a4, a5, .int 0, a7, a8, a9, a10])) : Run prog E V (d + 1) mX6_one [.ref w, .int k] h (some .null, h, 0, 0) := by
  refine ⟨Nat.le_of_ble_eq_true rfl, ⟨_, _, rfl⟩, ?_⟩
  refine RA.steps 1 rfl ?_
  by_cases h1 : k < 0
  · refine RA.if1T rfl (decide_eq_true h1) ?_
    refine RA.steps 1 rfl ?_
    exact RA.ret rfl rfl
  · refine RA.if1F rfl (decide_eq_false h1) ?_
    refine RA.steps 2 rfl ?_
    refine RA.getf rfl hw rfl rfl ?_
    refine RA.if2T rfl (decide_eq_true (Int32.not_lt.mp h1)) ?_
    refine RA.steps 1 rfl ?_
    exact RA.ret rfl rfl
end GRE
/-! ===== loops that copy ===== -/
section LPS
variable {P : List pM} {E : pX} {V : pV} {d : Nat} {M N : pM} {i i' : Nat} {L L' : pL} {st st' : List Value} {h h' h1 h2 : List pC} {t : pE} {r r1 r2 : Option Value} {res : pR} {j k : Nat} {c : pC}
theorem pobj_lt {o : Nat × List Value} (ho : pobj h k = some o) : k < h.length := (List.getElem?_eq_some_iff.mp (pobj_at ho)).1
theorem pint_lt {o : Nat × (Nat → Int32)} (ho : pint h k = some o) : k < h.length := (List.getElem?_eq_some_iff.mp (pint_at ho)).1
theorem pobj_set {o : Nat × List Value} (hk : k < h.length) : pobj (h.set k (.inr (.inr o))) k = some o := by
  unfold pobj
  rw [List.getElem?_set_self hk]
theorem pint_set {o : Nat × (Nat → Int32)} (hk : k < h.length) : pint (h.set k (.inl o)) k = some o := by
  unfold pint
  rw [List.getElem?_set_self hk]
theorem pobj_ne (hjk : k ≠ j) : pobj (h.set k c) j = pobj h j := by
  unfold pobj
  rw [List.getElem?_set_ne hjk]
theorem pint_ne (hjk : k ≠ j) : pint (h.set k c) j = pint h j := by
  unfold pint
  rw [List.getElem?_set_ne hjk]
theorem set_sameO {o : Nat × List Value} (ho : pobj h k = some o) : h.set k (.inr (.inr o)) = h := by
  have h1 := pobj_at ho
  obtain ⟨hl, he⟩ := List.getElem?_eq_some_iff.mp h1
  rw [← he]
  exact List.set_getElem_self hl
theorem set_sameI {o : Nat × (Nat → Int32)} (ho : pint h k = some o) : h.set k (.inl o) = h := by
  have h1 := pint_at ho
  obtain ⟨hl, he⟩ := List.getElem?_eq_some_iff.mp h1
  rw [← he]
  exact List.set_getElem_self hl
theorem pcallV {n pc x y b : Nat} {v : Value} {ts : List Nat} {st rest : List Value} {o : Nat × List Value} (hN : P[x]? = some N) (hd : st.drop y = .ref b :: rest) (ho : pobj h b = some o) (hk : m_k N = 1) (hc : o.1 = m_c N) (h8 : pcs rest ≤ 8) : pcall P (pc, .invokevirtual n, x, y, v, ts) st h = some (N, .ref b :: (st.take y).reverse, rest) := by
  show (match P[x]? with
    | some M => match st.drop y with
      | .ref b :: r => match pobj h b with
        | some o => if m_k M = 1 ∧ o.1 = m_c M ∧ pcs r ≤ 8 then some (M, Value.ref b :: (st.take y).reverse, r) else none
        | none => none
      | _ => none
    | none => none) = _
  rw [hN]
  dsimp only
  rw [hd]
  dsimp only
  rw [ho]
  dsimp only
  rw [if_pos ⟨hk, hc, h8⟩]
theorem RA.iald {a pc x y : Nat} {v : Value} {w j : Int32} {ts : List Nat} {o : Nat × (Nat → Int32)} {rest : List Value} (he : (m_code M)[i]? = some (pc, .iaload, x, y, v, ts)) (ho : pint h a = some o) (hj : 0 ≤ j ∧ j.toNatClampNeg < o.1) (hw : o.2 j.toNatClampNeg = w) (k : RA P E V (d + 1) M (i + 1) L (.int w :: rest) h res) : RA P E V (d + 1) M i L (.int j :: .ref a :: rest) h res :=
  RA.step0 he rfl rfl (by
    show (match pint h a with
      | some x => if 0 ≤ j ∧ j.toNatClampNeg < x.1 then pnx i L (.int (x.2 j.toNatClampNeg) :: rest) h else none
      | none => none) = _
    rw [ho]
    dsimp only
    rw [if_pos hj, hw]
    rfl) k
theorem RA.iast {a pc x y : Nat} {v : Value} {w j : Int32} {ts : List Nat} {o : Nat × (Nat → Int32)} {rest : List Value} (he : (m_code M)[i]? = some (pc, .iastore, x, y, v, ts)) (ho : pint h a = some o) (hj : 0 ≤ j ∧ j.toNatClampNeg < o.1) (k : RA P E V (d + 1) M (i + 1) L rest (h.set a (.inl (o.1, va_up o.2 j.toNatClampNeg w))) res) : RA P E V (d + 1) M i L (.int w :: .int j :: .ref a :: rest) h res :=
  RA.step0 he rfl rfl (by
    show (match pint h a with
      | some x => if 0 ≤ j ∧ j.toNatClampNeg < x.1 then pnx i L rest (h.set a (.inl (x.1, va_up x.2 j.toNatClampNeg w))) else none
      | none => none) = _
    rw [ho]
    dsimp only
    rw [if_pos hj]
    rfl) k
theorem RA.iinc {n pc x y : Nat} {z : Int} {v : Value} {a b : Int32} {ts : List Nat} (he : (m_code M)[i]? = some (pc, .iinc n z, x, y, v, ts)) (hv : pget L x = some (.int a)) (hb : a + Int32.ofInt z = b) (hp : pset L x (.int b) = some L') (k : RA P E V (d + 1) M (i + 1) L' st h res) : RA P E V (d + 1) M i L st h res :=
  RA.step0 he rfl rfl (by
    show (match pget L x with
      | some (.int a) => psto (pset L x (.int (a + Int32.ofInt z))) i st h
      | _ => none) = _
    rw [hv]
    dsimp only
    rw [hb, hp]
    rfl) k
theorem RA.mmin {n pc y : Nat} {v : Value} {a b w : Int32} {ts : List Nat} {rest : List Value} (he : (m_code M)[i]? = some (pc, .invokestatic n, 99991, y, v, ts)) (hP : pcall P (pc, .invokestatic n, 99991, y, v, ts) (.int b :: .int a :: rest) h = none) (h8 : pcs rest ≤ 8) (hw : (if b < a then b else a) = w) (k : RA P E V (d + 1) M (i + 1) L (.int w :: rest) h res) : RA P E V (d + 1) M i L (.int b :: .int a :: rest) h res :=
  RA.step0 he rfl hP (by
    show (if pcs rest ≤ 8 then pnx i L (.int (if b < a then b else a) :: rest) h else none) = _
    rw [if_pos h8, hw]
    rfl) k
end LPS
def cpN {α : Type} (N : Nat) (f g : Nat → α) : Nat → α := fun j => if j < N then f j else g j
theorem cpN_0 {α : Type} (f g : Nat → α) : cpN 0 f g = g := funext fun j => if_neg (Nat.not_lt_zero j)
theorem cpN_S {α : Type} (K : Nat) (f g : Nat → α) : va_up (cpN K f g) K (f K) = cpN (K + 1) f g := by
  funext j
  unfold va_up cpN
  by_cases e : j = K
  · subst e
    rw [if_pos rfl, if_pos (Nat.lt_succ_self _)]
  · rw [if_neg e]
    by_cases h : j < K
    · rw [if_pos h, if_pos (by omega)]
    · rw [if_neg h, if_neg (by omega)]
section CPY
variable {E : pX} {V : pV} {d : Nat} {fs : List Value}
theorem nI_lt31 (K : Nat) (h : K < 100000) : 0 ≤ nI K ∧ (nI K).toNatClampNeg = K := ⟨nI_pos' (by omega), nI_clamp (show K < 2 ^ 31 by omega)⟩
theorem laysBy_l {f g : Nat → Int32} (hfA : fs[0]? = some (.ref 111)) (hfB : fs[13]? = some (.ref 123)) : ∀ (m K : Nat) (h : List pC), K + m = 75 → pobj h 110 = some (8, fs) → pint h 111 = some (3075, f) → pint h 123 = some (75, cpN K f g) → RA prog E V (d + 1) mX8_laysBy 2 [some (.ref 110), some (.int (nI K))] [] h (none, h.set 123 (.inl (75, cpN 75 f g)), 0, 0) := by
  intro m
  induction m with
  | zero =>
    intro K h hK ho h1 h2
    obtain rfl : K = 75 := by omega
    refine RA.steps 2 rfl ?_
    refine RA.if2T rfl rfl ?_
    exact RA.to (RA.ret rfl rfl) (by rw [set_sameI h2])
  | succ m ih =>
    intro K h hK ho h1 h2
    have hK2 : K < 75 := by omega
    obtain ⟨k0, kc⟩ := nI_lt31 K (by omega)
    have key := ih (K + 1) (h.set 123 (.inl (75, va_up (cpN K f g) (nI K).toNatClampNeg (f (nI K).toNatClampNeg)))) (by omega) ((pobj_ne (by decide)).trans ho) ((pint_ne (by decide)).trans h1) (by rw [kc, cpN_S]; exact pint_set (pint_lt h2))
    rw [List.set_set] at key
    refine RA.steps 2 rfl ?_
    refine RA.if2F rfl (decide_eq_false (show ¬ nI 75 ≤ nI K from nI_ge hK2 (by omega))) ?_
    refine RA.steps 1 rfl ?_
    refine RA.getf rfl ho rfl hfB ?_
    refine RA.steps 2 rfl ?_
    refine RA.getf rfl ho rfl hfA ?_
    refine RA.steps 1 rfl ?_
    refine RA.iald rfl h1 ⟨k0, by rw [kc]; omega⟩ rfl ?_
    refine RA.iast rfl h2 ⟨k0, by rw [kc]; omega⟩ ?_
    refine RA.iinc rfl rfl (nI_1 K) rfl ?_
    refine RA.steps 1 rfl ?_
    exact key
theorem laysBy_x {f g : Nat → Int32} {h : List pC} (hfA : fs[0]? = some (.ref 111)) (hfB : fs[13]? = some (.ref 123)) (ho : pobj h 110 = some (8, fs)) (h1 : pint h 111 = some (3075, f)) (h2 : pint h 123 = some (75, g)) : Run prog E V (d + 1) mX8_laysBy [.ref 110] h (none, h.set 123 (.inl (75, cpN 75 f g)), 0, 0) := by
  refine ⟨Nat.le_of_ble_eq_true rfl, ⟨_, _, rfl⟩, ?_⟩
  refine RA.steps 2 rfl ?_
  exact laysBy_l hfA hfB 75 0 h (by omega) ho h1 (by rw [cpN_0]; exact h2)
theorem laysBack_l {f g : Nat → Int32} (hfA : fs[13]? = some (.ref 123)) (hfB : fs[0]? = some (.ref 111)) : ∀ (m K : Nat) (h : List pC), K + m = 75 → pobj h 110 = some (8, fs) → pint h 123 = some (75, f) → pint h 111 = some (3075, cpN K f g) → RA prog E V (d + 1) mX8_laysBack 2 [some (.ref 110), some (.int (nI K))] [] h (none, h.set 111 (.inl (3075, cpN 75 f g)), 0, 0) := by
  intro m
  induction m with
  | zero =>
    intro K h hK ho h1 h2
    obtain rfl : K = 75 := by omega
    refine RA.steps 2 rfl ?_
    refine RA.if2T rfl rfl ?_
    exact RA.to (RA.ret rfl rfl) (by rw [set_sameI h2])
  | succ m ih =>
    intro K h hK ho h1 h2
    have hK2 : K < 75 := by omega
    obtain ⟨k0, kc⟩ := nI_lt31 K (by omega)
    have key := ih (K + 1) (h.set 111 (.inl (3075, va_up (cpN K f g) (nI K).toNatClampNeg (f (nI K).toNatClampNeg)))) (by omega) ((pobj_ne (by decide)).trans ho) ((pint_ne (by decide)).trans h1) (by rw [kc, cpN_S]; exact pint_set (pint_lt h2))
    rw [List.set_set] at key
    refine RA.steps 2 rfl ?_
    refine RA.if2F rfl (decide_eq_false (show ¬ nI 75 ≤ nI K from nI_ge hK2 (by omega))) ?_
    refine RA.steps 1 rfl ?_
    refine RA.getf rfl ho rfl hfB ?_
    refine RA.steps 2 rfl ?_
    refine RA.getf rfl ho rfl hfA ?_
    refine RA.steps 1 rfl ?_
    refine RA.iald rfl h1 ⟨k0, by rw [kc]; omega⟩ rfl ?_
    refine RA.iast rfl h2 ⟨k0, by rw [kc]; omega⟩ ?_
    refine RA.iinc rfl rfl (nI_1 K) rfl ?_
    refine RA.steps 1 rfl ?_
    exact key
theorem laysBack_x {f g : Nat → Int32} {h : List pC} (hfA : fs[13]? = some (.ref 123)) (hfB : fs[0]? = some (.ref 111)) (ho : pobj h 110 = some (8, fs)) (h1 : pint h 123 = some (75, f)) (h2 : pint h 111 = some (3075, g)) : Run prog E V (d + 1) mX8_laysBack [.ref 110] h (none, h.set 111 (.inl (3075, cpN 75 f g)), 0, 0) := by
  refine ⟨Nat.le_of_ble_eq_true rfl, ⟨_, _, rfl⟩, ?_⟩
  refine RA.steps 2 rfl ?_
  exact laysBack_l hfA hfB 75 0 h (by omega) ho h1 (by rw [cpN_0]; exact h2)
theorem sa_l {this A B nA nB : Nat} {f g : Nat → Int32} (hAB : B ≠ A) (hA : 2875 ≤ nA) (hB : 2875 ≤ nB) : ∀ (m K : Nat) (h : List pC), K + m = 2875 → pint h A = some (nA, f) → pint h B = some (nB, cpN K f g) → RA prog E V (d + 1) mX8_setAside 2 [some (.ref this), some (.ref A), some (.ref B), some (.int (nI K))] [] h (none, h.set B (.inl (nB, cpN 2875 f g)), 0, 0) := by
  intro m
  induction m with
  | zero =>
    intro K h hK h1 h2
    obtain rfl : K = 2875 := by omega
    refine RA.steps 2 rfl ?_
    refine RA.if2T rfl rfl ?_
    exact RA.to (RA.ret rfl rfl) (by rw [set_sameI h2])
  | succ m ih =>
    intro K h hK h1 h2
    have hK2 : K < 2875 := by omega
    obtain ⟨k0, kc⟩ := nI_lt31 K (by omega)
    have key := ih (K + 1) (h.set B (.inl (nB, va_up (cpN K f g) (nI K).toNatClampNeg (f (nI K).toNatClampNeg)))) (by omega) ((pint_ne hAB).trans h1) (by rw [kc, cpN_S]; exact pint_set (pint_lt h2))
    rw [List.set_set] at key
    refine RA.steps 2 rfl ?_
    refine RA.if2F rfl (decide_eq_false (show ¬ nI 2875 ≤ nI K from nI_ge hK2 (by omega))) ?_
    refine RA.steps 4 rfl ?_
    refine RA.iald rfl h1 ⟨k0, by rw [kc]; omega⟩ rfl ?_
    refine RA.iast rfl h2 ⟨k0, by rw [kc]; omega⟩ ?_
    refine RA.iinc rfl rfl (nI_1 K) rfl ?_
    refine RA.steps 1 rfl ?_
    exact key
theorem sa_x {this A B nA nB : Nat} {f g : Nat → Int32} {h : List pC} (hAB : B ≠ A) (hA : 2875 ≤ nA) (hB : 2875 ≤ nB) (h1 : pint h A = some (nA, f)) (h2 : pint h B = some (nB, g)) : Run prog E V (d + 1) mX8_setAside [.ref this, .ref A, .ref B] h (none, h.set B (.inl (nB, cpN 2875 f g)), 0, 0) := by
  refine ⟨Nat.le_of_ble_eq_true rfl, ⟨_, _, rfl⟩, ?_⟩
  refine RA.steps 2 rfl ?_
  exact sa_l hAB hA hB 2875 0 h (by omega) h1 (by rw [cpN_0]; exact h2)
end CPY
