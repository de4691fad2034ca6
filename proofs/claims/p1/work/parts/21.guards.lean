/-! ===== rules and leaves for runs with unknown ints ===== -/
section GRD
variable {P : List pM} {E : pX} {V : pV} {d : Nat} {M N : pM} {i i' : Nat} {L L' : pL} {st st' : List Value} {h h' h1 h2 : List pC} {t : pE} {r r1 r2 : Option Value} {k1 n1 k2 n2 : Nat} {res : pR}
theorem RA.if1T {k0 : ClassFile.Cond} {z : Int} {a : Int32} {pc x y : Nat} {v : Value} {ts : List Nat} {rest : List Value} (he : (m_code M)[i]? = some (pc, .ifCond k0 z, x, y, v, ts)) (hb : pc1 k0 a = true) (kt : RA P E V (d + 1) M x L rest h res) : RA P E V (d + 1) M i L (.int a :: rest) h res :=
  RA.step0 he rfl rfl (by show some (cond (pc1 k0 a) x (i + 1), L, rest, h, 0, 0) = _; rw [hb]; rfl) kt
theorem RA.if1F {k0 : ClassFile.Cond} {z : Int} {a : Int32} {pc x y : Nat} {v : Value} {ts : List Nat} {rest : List Value} (he : (m_code M)[i]? = some (pc, .ifCond k0 z, x, y, v, ts)) (hb : pc1 k0 a = false) (kf : RA P E V (d + 1) M (i + 1) L rest h res) : RA P E V (d + 1) M i L (.int a :: rest) h res :=
  RA.step0 he rfl rfl (by show some (cond (pc1 k0 a) x (i + 1), L, rest, h, 0, 0) = _; rw [hb]; rfl) kf
theorem RA.if2T {k0 : ClassFile.Cond} {z : Int} {a b : Int32} {pc x y : Nat} {v : Value} {ts : List Nat} {rest : List Value} (he : (m_code M)[i]? = some (pc, .if_icmp k0 z, x, y, v, ts)) (hb : pc2 k0 a b = true) (kt : RA P E V (d + 1) M x L rest h res) : RA P E V (d + 1) M i L (.int b :: .int a :: rest) h res :=
  RA.step0 he rfl rfl (by show some (cond (pc2 k0 a b) x (i + 1), L, rest, h, 0, 0) = _; rw [hb]; rfl) kt
theorem RA.if2F {k0 : ClassFile.Cond} {z : Int} {a b : Int32} {pc x y : Nat} {v : Value} {ts : List Nat} {rest : List Value} (he : (m_code M)[i]? = some (pc, .if_icmp k0 z, x, y, v, ts)) (hb : pc2 k0 a b = false) (kf : RA P E V (d + 1) M (i + 1) L rest h res) : RA P E V (d + 1) M i L (.int b :: .int a :: rest) h res :=
  RA.step0 he rfl rfl (by show some (cond (pc2 k0 a b) x (i + 1), L, rest, h, 0, 0) = _; rw [hb]; rfl) kf
theorem RA.sw {a : Int32} {x : Nat} {rest : List Value} (he : (m_code M)[i]? = some t) (hr : pret M t (.int a :: rest) = none) (hc : pcall P t (.int a :: rest) h = none) (hs : pstep E t i L (.int a :: rest) h = some (psw a.toInt (pkeys t) (e_x t), L, rest, h, 0, 0)) (hx : psw a.toInt (pkeys t) (e_x t) = x) (k : RA P E V (d + 1) M x L rest h res) : RA P E V (d + 1) M i L (.int a :: rest) h res := by
  rw [hx] at hs
  exact RA.step0 he hr hc hs k
theorem RA.getf {n a pc x y : Nat} {v w : Value} {ts : List Nat} {o : Nat × List Value} {rest : List Value} (he : (m_code M)[i]? = some (pc, .getfield n, x, y, v, ts)) (ho : pobj h a = some o) (hx : o.1 = x) (hw : o.2[y]? = some w) (k : RA P E V (d + 1) M (i + 1) L (w :: rest) h res) : RA P E V (d + 1) M i L (.ref a :: rest) h res :=
  RA.step0 he rfl rfl (by
    show (match pobj h a with
      | some o => if o.1 = x then (match o.2[y]? with
        | some v => pnx i L (v :: rest) h
        | none => none) else none
      | none => none) = _
    rw [ho]
    dsimp only
    rw [if_pos hx, hw]
    rfl) k
theorem RA.putf {n a pc x y : Nat} {v w : Value} {ts : List Nat} {o : Nat × List Value} {rest : List Value} (he : (m_code M)[i]? = some (pc, .putfield n, x, y, v, ts)) (ho : pobj h a = some o) (hx : o.1 = x) (hf : pfit (ptyp x y) w = true) (k : RA P E V (d + 1) M (i + 1) L rest (h.set a (.inr (.inr (o.1, o.2.set y w)))) res) : RA P E V (d + 1) M i L (w :: .ref a :: rest) h res :=
  RA.step0 he rfl rfl (by
    show (match pobj h a with
      | some o => if o.1 = x then (if pfit (ptyp x y) w = true then pnx i L rest (h.set a (.inr (.inr (o.1, o.2.set y w)))) else none) else none
      | none => none) = _
    rw [ho]
    dsimp only
    rw [if_pos hx, if_pos hf]
    rfl) k
theorem Run.ex {as : List Value} (f : Nat) (hl : (pexp as).length ≤ m_l N) (hn : ∃ u us, m_code N = u :: us) (hx : pexec P E V f d N 0 (pent (m_l N) as) [] h = some res) : Run P E V d N as h res := ⟨hl, hn, f, hx⟩
end GRD
section GRE
variable {E : pX} {V : pV} {d : Nat} {h : List pC}
theorem within_t {v lo hi : Int32} (H : lo ≤ v ∧ v ≤ hi) : Run prog E V (d + 1) mX7_within [.int v, .int lo, .int hi] h (some (.int 1), h, 0, 0) := by
  refine ⟨Nat.le_of_ble_eq_true rfl, ⟨_, _, rfl⟩, ?_⟩
  refine RA.steps 2 rfl ?_
  refine RA.if2F rfl (decide_eq_false (Int32.not_lt.mpr H.1)) ?_
  refine RA.steps 2 rfl ?_
  refine RA.if2F rfl (decide_eq_false (Int32.not_lt.mpr H.2)) ?_
  refine RA.steps 2 rfl ?_
  exact RA.ret rfl rfl
theorem within_f {v lo hi : Int32} (H : ¬ (lo ≤ v ∧ v ≤ hi)) : Run prog E V (d + 1) mX7_within [.int v, .int lo, .int hi] h (some (.int 0), h, 0, 0) := by
  refine ⟨Nat.le_of_ble_eq_true rfl, ⟨_, _, rfl⟩, ?_⟩
  refine RA.steps 2 rfl ?_
  by_cases h1 : v < lo
  · refine RA.if2T rfl (decide_eq_true h1) ?_
    refine RA.steps 1 rfl ?_
    exact RA.ret rfl rfl
  · refine RA.if2F rfl (decide_eq_false h1) ?_
    refine RA.steps 2 rfl ?_
    have h2 : hi < v := by
      refine Int32.not_le.mp (fun q => H ⟨Int32.not_lt.mp h1, q⟩)
    refine RA.if2T rfl (decide_eq_true h2) ?_
    refine RA.steps 1 rfl ?_
    exact RA.ret rfl rfl
theorem i64_le {a b : Int32} : a.toInt64 ≤ b.toInt64 ↔ a ≤ b := by
  rw [Int64.le_iff_toInt_le, Int32.le_iff_toInt_le, Int32.toInt_toInt64, Int32.toInt_toInt64]
theorem lgc_ge {x y : Int64} : 0 ≤ lg_cmp x y ↔ y ≤ x := lg_cmp_ge x y
theorem lgc_nlt {a b : Int32} (h : b ≤ a) : pc1 .lt (lg_cmp a.toInt64 b.toInt64) = false := decide_eq_false (Int32.not_lt.mpr (lgc_ge.mpr (i64_le.mpr h)))
theorem lgc_lt {a b : Int32} (h : ¬ b ≤ a) : pc1 .lt (lg_cmp a.toInt64 b.toInt64) = true := decide_eq_true (Int32.not_le.mp (fun q => h (i64_le.mp (lgc_ge.mp q))))
theorem lgc_le' (x y : Int64) : (lg_cmp x y ≤ 0) ↔ x ≤ y := by
  unfold lg_cmp
  by_cases h1 : x > y
  · rw [if_pos h1]
    exact ⟨fun q => absurd q (by decide), fun q => absurd h1 (Int64.not_lt.mpr q)⟩
  · rw [if_neg h1]
    have h2 : x ≤ y := Int64.not_lt.mp h1
    by_cases h3 : x = y
    · rw [if_pos h3]
      exact ⟨fun _ => h2, fun _ => by decide⟩
    · rw [if_neg h3]
      exact ⟨fun _ => h2, fun _ => by decide⟩
theorem lgc_ngt {a b : Int32} (h : a ≤ b) : pc1 .gt (lg_cmp a.toInt64 b.toInt64) = false := decide_eq_false (Int32.not_lt.mpr ((lgc_le' _ _).mpr (i64_le.mpr h)))
theorem lgc_gt {a b : Int32} (h : ¬ a ≤ b) : pc1 .gt (lg_cmp a.toInt64 b.toInt64) = true := decide_eq_true (Int32.not_le.mp (fun q => h (i64_le.mp ((lgc_le' _ _).mp q))))
theorem isIn_t {v lo hi : Int32} (H : lo ≤ v ∧ v ≤ hi) : Run prog E V (d + 1) mX8_isIn [.long v.toInt64, .long lo.toInt64, .long hi.toInt64] h (some (.int 1), h, 0, 0) := by
  refine ⟨Nat.le_of_ble_eq_true rfl, ⟨_, _, rfl⟩, ?_⟩
  refine RA.steps 3 rfl ?_
  refine RA.if1F rfl (lgc_nlt H.1) ?_
  refine RA.steps 3 rfl ?_
  refine RA.if1F rfl (lgc_ngt H.2) ?_
  refine RA.steps 2 rfl ?_
  exact RA.ret rfl rfl
theorem isIn_f {v lo hi : Int32} (H : ¬ (lo ≤ v ∧ v ≤ hi)) : Run prog E V (d + 1) mX8_isIn [.long v.toInt64, .long lo.toInt64, .long hi.toInt64] h (some (.int 0), h, 0, 0) := by
  refine ⟨Nat.le_of_ble_eq_true rfl, ⟨_, _, rfl⟩, ?_⟩
  refine RA.steps 3 rfl ?_
  by_cases h1 : lo ≤ v
  · refine RA.if1F rfl (lgc_nlt h1) ?_
    refine RA.steps 3 rfl ?_
    refine RA.if1T rfl (lgc_gt (fun q => H ⟨h1, q⟩)) ?_
    refine RA.steps 1 rfl ?_
    exact RA.ret rfl rfl
  · refine RA.if1T rfl (lgc_lt h1) ?_
    refine RA.steps 1 rfl ?_
    exact RA.ret rfl rfl
theorem in_no {v lo hi : Int32} (h : hi < lo) : ¬ (lo ≤ v ∧ v ≤ hi) := fun q => absurd (Int32.le_trans q.1 q.2) (Int32.not_le.mpr h)
/-- the wall of a new object has no rubbing -/
theorem one_no {w : Nat} {a1 a2 a3 a4 a5 a7 a8 a9 a10 : Value} (k : Int32) (hw : pobj h w = some (6, [a1, a2, a3, a4, a5, .int 0, a7, a8, a9, a10])) : Run prog E V (d + 1) mX6_one [.ref w, .int k] h (some .null, h, 0, 0) := by
  refine ⟨Nat.le_of_ble_eq_true rfl, ⟨_, _, rfl⟩, ?_⟩
  refine RA.steps 1 rfl ?_
  by_cases h1 : k < 0
  · refine RA.if1T rfl (decide_eq_true h1) ?_
    refine RA.steps 1 rfl ?_
    exact RA.ret rfl rfl
  · refine RA.if1F rfl (decide_eq_false h1) ?_
    refine RA.steps 2 rfl ?_
    refine RA.getf rfl hw rfl rfl ?_
    refine RA.if2T rfl (decide_eq_true (Int32.not_lt.mp h1)) ?_
    refine RA.steps 1 rfl ?_
    exact RA.ret rfl rfl
end GRE
