/-! ===== instructions that read or change cells ===== -/
def PclOK (ci : Nat) (q : vw_C) : Prop := (∀ w ∈ u_ws q.1 q.2.1 q.2.2, w ∈ utbl) ∧ (∀ a, a < q.2.2 → ∀ b, b < q.2.2 → a ≠ b → (q.2.1 a).2.1 ≠ (q.2.1 b).2.1) ∧ (∀ k, k < q.2.2 → parseFieldDescriptor (q.2.1 k).2.2.1 = some (ptyp ci k)) ∧ (pini ci).length = q.2.2 ∧ (∀ k, k < q.2.2 → defaultValue (ptyp ci k) = (pini ci).getD k .null) ∧ ∀ k, k < q.2.2 → (pini ci).getD k .null = .null ∨ (pini ci).getD k .null = .int 0
theorem pcl_ok (ci : Nat) (q : vw_C) (hq : pcls[ci]? = some q) : PclOK ci q := by
  match ci, hq with
  | 0, hq => cases hq; exact ⟨in_of iX0 (by decide +kernel), nmX0, tyX0_ok, rfl, by decide +kernel, by decide +kernel⟩
  | 1, hq => cases hq; exact ⟨in_of iX1 (by decide +kernel), nmX1, tyX1_ok, rfl, by decide +kernel, by decide +kernel⟩
  | 2, hq => cases hq; exact ⟨in_of iX2 (by decide +kernel), nmX2, tyX2_ok, rfl, by decide +kernel, by decide +kernel⟩
  | 3, hq => cases hq; exact ⟨in_of iX3 (by decide +kernel), nmX3, tyX3_ok, rfl, by decide +kernel, by decide +kernel⟩
  | 4, hq => cases hq; exact ⟨in_of iX4 (by decide +kernel), nmX4, tyX4_ok, rfl, by decide +kernel, by decide +kernel⟩
  | 5, hq => cases hq; exact ⟨in_of iX5 (by decide +kernel), nmX5, tyX5_ok, rfl, by decide +kernel, by decide +kernel⟩
  | 6, hq => cases hq; exact ⟨in_of iX6 (by decide +kernel), nmX6, tyX6_ok, rfl, by decide +kernel, by decide +kernel⟩
  | 7, hq => cases hq; exact ⟨in_of iX7 (by decide +kernel), nmX7, tyX7_ok, rfl, by decide +kernel, by decide +kernel⟩
  | 8, hq => cases hq; exact ⟨in_of iX8 (by decide +kernel), nmX8, tyX8_ok, rfl, by decide +kernel, by decide +kernel⟩
  | ci + 9, hq => simp [pcls] at hq
theorem vpV_map (X : Nat → Nat) (bs : Nat) (l : List Value) (k : Nat) : vp_V (l.map (emb X bs)) k = emb X bs (l.getD k .null) := by
  unfold vp_V
  rw [List.getD_eq_getElem?_getD, List.getD_eq_getElem?_getD, List.getElem?_map]
  cases l[k]? <;> rfl
theorem pIn_vp {j : Int32} {n : Nat} (h : 0 ≤ j ∧ j.toNatClampNeg < n) : ¬ (j < 0 ∨ n ≤ j.toNatClampNeg) := by
  rintro (q | q)
  · exact absurd h.1 (Int32.not_le.mpr q)
  · exact absurd h.2 (Nat.not_lt.mpr q)
theorem pfit_emb {X : Nat → Nat} {bs : Nat} {ty : FieldType} {w : Value} (h : pfit ty w = true) : narrow ty (emb X bs w) = emb X bs w ∧ fits ty (emb X bs w) = true := by
  cases ty <;> cases w <;> first | (cases h; done) | exact ⟨rfl, rfl⟩ | skip
  have h := of_decide_eq_true h
  rcases h with rfl | rfl <;> exact ⟨rfl, rfl⟩
theorem pj_le {j : Int32} (hj : 0 ≤ j ∧ j ≤ 100000) : j.toNatClampNeg ≤ 100000 := by
  have h1 := Int32.le_iff_toInt_le.mp hj.2
  have h2 : (100000 : Int32).toInt = 100000 := by decide
  rw [h2] at h1
  show j.toInt.toNat ≤ 100000
  omega
section PWH
variable {p : Program} {l : Launch} {e : Env} {R : Room} {s : State} {m : MethodId} {args : Array Value} {below : List Frame} {meth : Method} {c : Code} {Q : State → Prop} {D : va_G} {X : Nat → Nat} {bs : Nat} {E : pX} {P : List pM} {M : pM}
variable {i pc x y : Nat} {v : Value} {ts : List Nat} {L L' : pL} {st st' r : List Value} {h h' : List pC} {cells slots : Nat}
theorem plnk_f {own : String} {n : Nat} {q : vw_C} (hq : pcls[x]? = some q) : plnk P own (pc, .getfield n, x, y, v, ts) = [.fieldLink own n (q.2.1 y).1 (q.2.1 y).2.1 (q.2.1 y).2.2.1] := by
  show (match pcls[x]? with
    | some q => [Cond.fieldLink own n (q.2.1 y).1 (q.2.1 y).2.1 (q.2.1 y).2.2.1]
    | none => []) = _
  rw [hq]
theorem plnk_p {own : String} {n : Nat} {q : vw_C} (hq : pcls[x]? = some q) : plnk P own (pc, .putfield n, x, y, v, ts) = [.fieldLink own n (q.2.1 y).1 (q.2.1 y).2.1 (q.2.1 y).2.2.1] := by
  show (match pcls[x]? with
    | some q => [Cond.fieldLink own n (q.2.1 y).1 (q.2.1 y).2.1 (q.2.1 y).2.2.1]
    | none => []) = _
  rw [hq]

theorem sw_getfield {n a : Nat} {o : Nat × List Value} {w : Value} (B : SWc p s m args meth c D X bs E P M i (pc, .getfield n, x, y, v, ts)) (ho : pobj h a = some o) (hx1 : o.1 = x) (hw : o.2[y]? = some w) (k : PW p l e R s m args below meth c Q D X bs M (i + 1) L (w :: r) h cells slots) : PW p l e R s m args below meth c Q D X bs M i L (.ref a :: r) h cells slots := by
  obtain ⟨C, he, hd0, hn0, ha0, hl⟩ := B
  have hd : decode (m_b M) pc = .ok (.getfield n, 3) := of_decide_eq_true hd0
  have hn : pcOf (m_code M) (i + 1) = pc + 3 := of_decide_eq_true hn0
  have ha : pfok M x y false = true := ha0
  unfold pfok at ha
  cases hq : pcls[x]? with
  | none => rw [hq] at ha; cases ha
  | some q =>
    rw [hq] at ha
    have hy : y < q.2.2 := by simpa using ha
    rw [plnk_f hq] at hl
    have hlk := C.2.2.2.2.1 _ (hl _ List.mem_cons_self)
    intro H locs ls HR HL h1 h2
    rw [show pcOf (m_code M) i = pc from pcOf_at he]
    obtain ⟨r0, hr0, hlen, hOB⟩ := HR.2 a _ (pobj_at ho)
    rw [hx1] at hr0 hOB
    cases hr0.symm.trans hq
    obtain ⟨C0, T0, N0⟩ := q
    have hP : va_P D pcls [(bs + a, .inr (x, o.2.map (emb X bs)))] H := fun j q hj => by
      have hz : j < 1 := (List.getElem?_eq_some_iff.mp hj).1
      rw [show j = 0 by omega] at hj
      cases hj
      exact ⟨_, hq, hOB.to (fun k _ => (vpV_map X bs o.2 k).symm)⟩
    refine va_get (D := D) (ci := x) (v := emb X bs w) (tys := []) C.1 C.2.1 C.2.2.2.2.1 (pcl_ok x _ hq).1 C.2.2.2.1 C.2.2.2.2.2.1 hP 0 rfl hq y hy hlk (fun _ h9 => h9) (by rw [List.getElem?_map, hw]; rfl) hd ?_
    rw [← hn]
    exact k H locs ls HR HL h1 h2
theorem sw_putfield {n a : Nat} {o : Nat × List Value} {w : Value} (B : SWc p s m args meth c D X bs E P M i (pc, .putfield n, x, y, v, ts)) (ho : pobj h a = some o) (hx1 : o.1 = x) (hf : pfit (ptyp x y) w = true) (k : PW p l e R s m args below meth c Q D X bs M (i + 1) L (r) (h.set a (.inr (.inr (o.1, o.2.set y w)))) cells slots) : PW p l e R s m args below meth c Q D X bs M i L (w :: .ref a :: r) h cells slots := by
  obtain ⟨C, he, hd0, hn0, ha0, hl⟩ := B
  have hd : decode (m_b M) pc = .ok (.putfield n, 3) := of_decide_eq_true hd0
  have hn : pcOf (m_code M) (i + 1) = pc + 3 := of_decide_eq_true hn0
  have ha : pfok M x y true = true := ha0
  unfold pfok at ha
  cases hq : pcls[x]? with
  | none => rw [hq] at ha; cases ha
  | some q =>
    rw [hq] at ha
    have hy : y < q.2.2 ∧ ((q.2.1 y).2.2.2 = false ∨ (m_k M = 2 ∧ (q.2.1 y).1 = (m_y M).cls)) := by simpa using ha
    rw [plnk_p hq] at hl
    have hlk := C.2.2.2.2.1 _ (hl _ List.mem_cons_self)
    intro H locs ls HR HL h1 h2
    rw [show pcOf (m_code M) i = pc from pcOf_at he]
    obtain ⟨r0, hr0, hlen, hOB⟩ := HR.2 a _ (pobj_at ho)
    rw [hx1] at hr0 hOB
    cases hr0.symm.trans hq
    obtain ⟨hy, hfk⟩ := hy
    obtain ⟨C0, T0, N0⟩ := q
    obtain ⟨hin, hnm, hty, hini, -⟩ := pcl_ok x _ hq
    have hap := va_apart (own := (m_y M).cls) C.2.2.2.2.1 hin (ptyp x) hty hnm C.2.2.2.2.2.1 hq
    obtain ⟨hS, hfc, kC, hkC, hkind⟩ := C.2.2.2.2.2.1.1 x _ hq
    obtain ⟨cf, kf, fi, f, hi, hsl⟩ := hS y hy
    obtain ⟨cell, q1, q2, q3, q4⟩ := hOB
    have hst := (u_facts hfc hkC (u_lays C.2.2.2.2.1 hin hy) hi).1
    obtain ⟨hnar, hfit⟩ := pfit_emb (X := X) (bs := bs) hf
    have h6 := u_fits hfc hkC hkind (u_lays C.2.2.2.2.1 hin hy) hi (hty y hy) hnar hfit
    have hlay := C.2.2.2.2.1 _ (hin _ (u_in_lay hy))
    unfold u_lay at hlay
    have fin : ∀ H' : Heap, H'[bs + a]? = some (cell.setSlot f.slot (emb X bs w)) → H'.size = H.size → (∀ q : Nat, q ≠ bs + a → H'[q]? = H[q]?) → W p l e R s m args below meth c H' (locs ++ [⟨bs + a, f.slot⟩]) cells slots Q (F0 m (pc + 3) ls (r.map (emb X bs))) := by
      intro H' e1 e2 e3
      rw [← hn]
      refine k H' _ ls (HR.set (pobj_at ho) e2 ⟨(C0, T0, N0), by rw [hx1]; exact hq, by rw [List.length_set]; exact hlen, ?_⟩ e3) HL (fun q hq => (e3 q (Nat.ne_of_lt (Nat.lt_of_lt_of_le hq (Nat.le_add_right _ _)))).trans (h1 q hq)) (fun z hz => ?_)
      · rw [hx1]
        rw [hsl] at e1
        refine t_OB.to (V := updV (fun k => emb X bs (o.2.getD k .null)) y (emb X bs w)) ⟨_, e1, q2, q3, t_set q4 hap hy (emb X bs w)⟩ (fun j hj => ?_)
        show (if j = y then emb X bs w else emb X bs (o.2.getD j .null)) = emb X bs ((o.2.set y w).getD j .null)
        rw [List.getD_eq_getElem?_getD, List.getD_eq_getElem?_getD]
        by_cases hjy : j = y
        · subst hjy
          rw [if_pos rfl, List.getElem?_set_self (by rw [hlen]; exact hy)]
          rfl
        · rw [if_neg hjy, List.getElem?_set_ne (Ne.symm hjy)]
      · rcases List.mem_append.mp hz with hz | hz
        · exact h2 z hz
        · rw [List.mem_singleton.mp hz]
          exact Nat.le_add_right _ _
    have hlt : f.slot < cell.slots.size := by rw [hsl]; exact k2_hasslot (q4 y hy)
    by_cases hfin : (T0 y).2.2.2 = true
    · rw [if_pos hfin] at hlay
      obtain ⟨hk2, hdecl⟩ : m_k M = 2 ∧ (T0 y).1 = (m_y M).cls := by
        rcases hfk with q | q
        · have q : (T0 y).2.2.2 = false := q
          rw [hfin] at q; cases q
        · exact q
      have hcf : m.cls = cf := by
        obtain ⟨_, _, c', _, _, _, -, -, hf', -, -, -, hown2, -⟩ := Cond.laysFinal_spec hlay
        have e1 : c' = cf := by have := hi.symm.trans hf'; simp at this; exact this.1.symm
        rw [hdecl] at hown2
        rw [← e1]; exact Option.some.inj (C.2.2.2.1.symm.trans hown2)
      exact W.putFinK C.1 C.2.1 C.2.2.2.1 hlk hi hst hcf (C.2.2.2.2.2.2.2.1 hk2) (by rw [q2]; exact h6) q1 q3 hlt rfl rfl hd fin
    · rw [if_neg hfin] at hlay
      have h7 := u_store hfc hkC hkind hlay hi (hty y hy) hnar hfit
      exact W.putK C.1 C.2.1 (f := f) ⟨C.2.2.2.1, hlk, ⟨_, _, _, hi⟩, hst⟩ (by rw [q2]; exact h7) q1 q3 hlt rfl rfl hd fin
theorem sw_iaload {a : Nat} {j : Int32} {o : Nat × (Nat → Int32)} (B : SWc p s m args meth c D X bs E P M i (pc, .iaload, x, y, v, ts)) (ho : pint h a = some o) (hj : 0 ≤ j ∧ j.toNatClampNeg < o.1) (k : PW p l e R s m args below meth c Q D X bs M (i + 1) L (.int (o.2 j.toNatClampNeg) :: r) h cells slots) : PW p l e R s m args below meth c Q D X bs M i L (.int j :: .ref a :: r) h cells slots := by
  obtain ⟨C, he, hd0, hn0, ha0, hl⟩ := B
  have hd : decode (m_b M) pc = .ok (.iaload, 1) := of_decide_eq_true hd0
  have hn : pcOf (m_code M) (i + 1) = pc + 1 := of_decide_eq_true hn0
  intro H locs ls HR HL h1 h2
  rw [show pcOf (m_code M) i = pc from pcOf_at he]
  obtain ⟨cA, hc, hArr⟩ := HR.2 a _ (pint_at ho)
  refine W.iald (v := .int (o.2 j.toNatClampNeg)) C.1 C.2.1 hc (hArr o.1 (fun j => .int (o.2 j))) (fun q => by cases q) (by show ¬ (j < 0 ∨ (arrV _ _ _).slots.size ≤ _); rw [arrV_size]; exact pIn_vp hj) (by show (arrV _ _ _).slots[_]? = _; rw [arrV_read _ _ hj.2]) rfl rfl hd ?_
  show W p l e R s m args below meth c H locs cells slots Q (F0 m (pc + 1) ls _)
  rw [← hn]
  exact k H locs ls HR HL h1 h2
theorem sw_ialoadX {a : Nat} {j : Int32} {o : Nat × (Nat → Int32)} (B : SWc p s m args meth c D X bs E P M i (pc, .iaload, x, y, v, ts)) (ho : E a = some o) (hj : 0 ≤ j ∧ j.toNatClampNeg < o.1) (k : PW p l e R s m args below meth c Q D X bs M (i + 1) L (.int (o.2 j.toNatClampNeg) :: r) h cells slots) : PW p l e R s m args below meth c Q D X bs M i L (.int j :: .retAddr a :: r) h cells slots := by
  obtain ⟨C, he, hd0, hn0, ha0, hl⟩ := B
  have hd : decode (m_b M) pc = .ok (.iaload, 1) := of_decide_eq_true hd0
  have hn : pcOf (m_code M) (i + 1) = pc + 1 := of_decide_eq_true hn0
  intro H locs ls HR HL h1 h2
  rw [show pcOf (m_code M) i = pc from pcOf_at he]
  obtain ⟨⟨scr, g1, g2, g3, g4, g5⟩, g6⟩ := C.2.2.2.2.2.2.1 a o ho
  refine W.iald (v := .int (o.2 j.toNatClampNeg)) C.1 C.2.1 (by rw [h1 _ g6]; exact g1) g2 g3 (by rw [g4]; exact pIn_vp hj) (g5 _ hj.2) rfl rfl hd ?_
  show W p l e R s m args below meth c H locs cells slots Q (F0 m (pc + 1) ls _)
  rw [← hn]
  exact k H locs ls HR HL h1 h2
theorem sw_iastore {a : Nat} {j w : Int32} {o : Nat × (Nat → Int32)} (B : SWc p s m args meth c D X bs E P M i (pc, .iastore, x, y, v, ts)) (ho : pint h a = some o) (hj : 0 ≤ j ∧ j.toNatClampNeg < o.1) (k : PW p l e R s m args below meth c Q D X bs M (i + 1) L (r) (h.set a (.inl (o.1, va_up o.2 j.toNatClampNeg w))) cells slots) : PW p l e R s m args below meth c Q D X bs M i L (.int w :: .int j :: .ref a :: r) h cells slots := by
  obtain ⟨C, he, hd0, hn0, ha0, hl⟩ := B
  have hd : decode (m_b M) pc = .ok (.iastore, 1) := of_decide_eq_true hd0
  have hn : pcOf (m_code M) (i + 1) = pc + 1 := of_decide_eq_true hn0
  intro H locs ls HR HL h1 h2
  rw [show pcOf (m_code M) i = pc from pcOf_at he]
  obtain ⟨cA, hc, hArr⟩ := HR.2 a _ (pint_at ho)
  refine W.iast C.1 C.2.1 hc (hArr o.1 (fun j => .int (o.2 j))) (fun q => by cases q) (by show ¬ (j < 0 ∨ (arrV _ _ _).slots.size ≤ _); rw [arrV_size]; exact pIn_vp hj) rfl rfl hd (fun H' e1 e2 e3 => ?_)
  show W p l e R s m args below meth c H' _ cells slots Q (F0 m (pc + 1) ls _)
  rw [← hn]
  refine k H' _ ls (HR.set (pint_at ho) e2 ⟨cA, ?_, hArr⟩ e3) HL (fun q hq => (e3 q (Nat.ne_of_lt (Nat.lt_of_lt_of_le hq (Nat.le_add_right _ _)))).trans (h1 q hq)) (fun z hz => ?_)
  · rw [e1, arrV_store]
    congr 2
    funext q
    by_cases hq : q = j.toNatClampNeg
    · subst hq
      simp [updV, va_up]
    · simp [updV, va_up, hq]
  · rcases List.mem_append.mp hz with hz | hz
    · exact h2 z hz
    · rw [List.mem_singleton.mp hz]
      exact Nat.le_add_right _ _
theorem sw_aaload {a : Nat} {j : Int32} {o : Nat × Nat × (Nat → Option Nat)} (B : SWc p s m args meth c D X bs E P M i (pc, .aaload, x, y, v, ts)) (ho : pref h a = some o) (hj : 0 ≤ j ∧ j.toNatClampNeg < o.2.1) (k : PW p l e R s m args below meth c Q D X bs M (i + 1) L (va_rf (o.2.2 j.toNatClampNeg) :: r) h cells slots) : PW p l e R s m args below meth c Q D X bs M i L (.int j :: .ref a :: r) h cells slots := by
  obtain ⟨C, he, hd0, hn0, ha0, hl⟩ := B
  have hd : decode (m_b M) pc = .ok (.aaload, 1) := of_decide_eq_true hd0
  have hn : pcOf (m_code M) (i + 1) = pc + 1 := of_decide_eq_true hn0
  intro H locs ls HR HL h1 h2
  rw [show pcOf (m_code M) i = pc from pcOf_at he]
  obtain ⟨cA, r0, hr0, hc, hArr, -⟩ := HR.2 a _ (pref_at ho)
  refine W.aald (v := va_rf ((o.2.2 j.toNatClampNeg).map (fun a => bs + a))) (ty := .object r0.1) C.1 C.2.1 hc (hArr o.2.1 _) rfl (fun q => by cases q) (by show ¬ (j < 0 ∨ (arrV _ _ _).slots.size ≤ _); rw [arrV_size]; exact pIn_vp hj) (by show (arrV _ _ _).slots[_]? = _; rw [arrV_read _ _ hj.2]) rfl rfl hd ?_
  show W p l e R s m args below meth c H locs cells slots Q (F0 m (pc + 1) ls _)
  rw [← hn, ← emb_rf X bs]
  exact k H locs ls HR HL h1 h2
theorem sw_aastore {a b : Nat} {j : Int32} {o : Nat × Nat × (Nat → Option Nat)} {q0 : Nat × List Value} (B : SWc p s m args meth c D X bs E P M i (pc, .aastore, x, y, v, ts)) (ho : pref h a = some o) (hb : pobj h b = some q0) (hx1 : q0.1 = o.1) (hj : 0 ≤ j ∧ j.toNatClampNeg < o.2.1) (k : PW p l e R s m args below meth c Q D X bs M (i + 1) L (r) (h.set a (.inr (.inl (o.1, o.2.1, va_up o.2.2 j.toNatClampNeg (some b))))) cells slots) : PW p l e R s m args below meth c Q D X bs M i L (.ref b :: .int j :: .ref a :: r) h cells slots := by
  obtain ⟨C, he, hd0, hn0, ha0, hl⟩ := B
  have hd : decode (m_b M) pc = .ok (.aastore, 1) := of_decide_eq_true hd0
  have hn : pcOf (m_code M) (i + 1) = pc + 1 := of_decide_eq_true hn0
  intro H locs ls HR HL h1 h2
  rw [show pcOf (m_code M) i = pc from pcOf_at he]
  obtain ⟨cA, r0, hr0, hc, hArr, hRA⟩ := HR.2 a _ (pref_at ho)
  obtain ⟨r1, hr1, hlen, cellV, g1, g2, g3, -⟩ := HR.2 b _ (pobj_at hb)
  rw [hx1] at hr1 g2
  cases hr0.symm.trans hr1
  have hcls := (C.2.2.2.2.2.1.1 o.1 r0 hr0).2
  obtain ⟨kA, comp, k1, k2, k3, k4⟩ := id hRA
  have hcomp : comp = D.1 o.1 := Option.some.inj (k3.symm.trans hcls.1)
  subst hcomp
  obtain ⟨kC, hkC, -⟩ := hcls.2
  have h0 : ¬ j < 0 := Int32.not_lt.mpr hj.1
  refine W.aast C.1 C.2.1 hc (fun q h => by cases h) (fun h => by cases h) k1 k2 rfl hkC ⟨h0, by show _ < (arrV _ _ _).slots.size; rw [arrV_size]; exact hj.2⟩ g1 (fun q h => by rw [g3] at h; cases h) (by rw [g2]; exact hkC) (by rw [g2]; exact va_assign hcls) rfl rfl hd (fun H' e1 e2 e3 => ?_)
  show W p l e R s m args below meth c H' _ cells slots Q (F0 m (pc + 1) ls _)
  rw [← hn]
  refine k H' _ ls (HR.set (pref_at ho) e2 ⟨cA, r0, hr0, ?_, hArr, hRA⟩ e3) HL (fun q hq => (e3 q (Nat.ne_of_lt (Nat.lt_of_lt_of_le hq (Nat.le_add_right _ _)))).trans (h1 q hq)) (fun z hz => ?_)
  · rw [e1, arrV_store]
    congr 2
    funext q
    by_cases hq : q = j.toNatClampNeg
    · subst hq
      simp [updV, va_up, va_rf]
    · simp [updV, va_up, hq]
  · rcases List.mem_append.mp hz with hz | hz
    · exact h2 z hz
    · rw [List.mem_singleton.mp hz]
      exact Nat.le_add_right _ _
theorem sw_alenI {a : Nat} {o : Nat × (Nat → Int32)} (B : SWc p s m args meth c D X bs E P M i (pc, .arraylength, x, y, v, ts)) (ho : h[a]? = some (.inl o)) (k : PW p l e R s m args below meth c Q D X bs M (i + 1) L (.int (Int32.ofNat o.1) :: r) h cells slots) : PW p l e R s m args below meth c Q D X bs M i L (.ref a :: r) h cells slots := by
  obtain ⟨C, he, hd0, hn0, ha0, hl⟩ := B
  have hd : decode (m_b M) pc = .ok (.arraylength, 1) := of_decide_eq_true hd0
  have hn : pcOf (m_code M) (i + 1) = pc + 1 := of_decide_eq_true hn0
  intro H locs ls HR HL h1 h2
  rw [show pcOf (m_code M) i = pc from pcOf_at he]
  obtain ⟨cA, hc, hArr⟩ := HR.2 a _ ho
  refine W.alen (n := Int32.ofNat o.1) C.1 C.2.1 hc (hArr o.1 (fun j => .int (o.2 j))) (by rw [arrV_size] <;> rfl) rfl rfl hd ?_
  show W p l e R s m args below meth c H locs cells slots Q (F0 m (pc + 1) ls _)
  rw [← hn]
  exact k H locs ls HR HL h1 h2
theorem sw_alenR {a : Nat} {o : Nat × Nat × (Nat → Option Nat)} (B : SWc p s m args meth c D X bs E P M i (pc, .arraylength, x, y, v, ts)) (ho : h[a]? = some (.inr (.inl o))) (k : PW p l e R s m args below meth c Q D X bs M (i + 1) L (.int (Int32.ofNat o.2.1) :: r) h cells slots) : PW p l e R s m args below meth c Q D X bs M i L (.ref a :: r) h cells slots := by
  obtain ⟨C, he, hd0, hn0, ha0, hl⟩ := B
  have hd : decode (m_b M) pc = .ok (.arraylength, 1) := of_decide_eq_true hd0
  have hn : pcOf (m_code M) (i + 1) = pc + 1 := of_decide_eq_true hn0
  intro H locs ls HR HL h1 h2
  rw [show pcOf (m_code M) i = pc from pcOf_at he]
  obtain ⟨cA, r0, hr0, hc, hArr, -⟩ := HR.2 a _ ho
  refine W.alen (n := Int32.ofNat o.2.1) C.1 C.2.1 hc (hArr o.2.1 _) (by rw [arrV_size] <;> rfl) rfl rfl hd ?_
  show W p l e R s m args below meth c H locs cells slots Q (F0 m (pc + 1) ls _)
  rw [← hn]
  exact k H locs ls HR HL h1 h2
theorem sw_alenX {a : Nat} {o : Nat × (Nat → Int32)} (B : SWc p s m args meth c D X bs E P M i (pc, .arraylength, x, y, v, ts)) (ho : E a = some o) (k : PW p l e R s m args below meth c Q D X bs M (i + 1) L (.int (Int32.ofNat o.1) :: r) h cells slots) : PW p l e R s m args below meth c Q D X bs M i L (.retAddr a :: r) h cells slots := by
  obtain ⟨C, he, hd0, hn0, ha0, hl⟩ := B
  have hd : decode (m_b M) pc = .ok (.arraylength, 1) := of_decide_eq_true hd0
  have hn : pcOf (m_code M) (i + 1) = pc + 1 := of_decide_eq_true hn0
  intro H locs ls HR HL h1 h2
  rw [show pcOf (m_code M) i = pc from pcOf_at he]
  obtain ⟨⟨scr, g1, g2, g3, g4, g5⟩, g6⟩ := C.2.2.2.2.2.2.1 a o ho
  refine W.alen (n := Int32.ofNat o.1) C.1 C.2.1 (by rw [h1 _ g6]; exact g1) g2 (by rw [g4] <;> rfl) rfl rfl hd ?_
  show W p l e R s m args below meth c H locs cells slots Q (F0 m (pc + 1) ls _)
  rw [← hn]
  exact k H locs ls HR HL h1 h2
theorem sw_new {n : Nat} (B : SWc p s m args meth c D X bs E P M i (pc, .new n, x, y, v, ts)) (hx1 : x < pcls.length) (hc1 : cells + 1 ≤ R.cells) (hs1 : slots + (pini x).length ≤ R.slots) (k : PW p l e R s m args below meth c Q D X bs M (i + 1) L (.ref h.length :: st) (h ++ [.inr (.inr (x, pini x))]) (cells + 1) (slots + (pini x).length)) : PW p l e R s m args below meth c Q D X bs M i L (st) h cells slots := by
  obtain ⟨C, he, hd0, hn0, ha0, hl⟩ := B
  have hd : decode (m_b M) pc = .ok (.new n, 3) := of_decide_eq_true hd0
  have hn : pcOf (m_code M) (i + 1) = pc + 3 := of_decide_eq_true hn0
  cases hq : pcls[x]? with
  | none => exact absurd hx1 (Nat.not_lt.mpr (List.getElem?_eq_none_iff.mp hq))
  | some q =>
    have hl2 : plnk P (m_y M).cls (pc, .new n, x, y, v, ts) = [.classLink (m_y M).cls n q.1, .instantiable q.1 q.2.2, .initialized q.1] := by
      show (match pcls[x]? with
        | some q => [Cond.classLink (m_y M).cls n q.1, .instantiable q.1 q.2.2, .initialized q.1]
        | none => []) = _
      rw [hq]
    rw [hl2] at hl
    have w1 := C.2.2.2.2.1 _ (hl _ List.mem_cons_self)
    have w2 := C.2.2.2.2.1 _ (hl _ (List.mem_cons_of_mem _ List.mem_cons_self))
    have w3 := C.2.2.2.2.1 _ (hl _ (List.mem_cons_of_mem _ (List.mem_cons_of_mem _ List.mem_cons_self)))
    obtain ⟨C0, T0, N0⟩ := q
    obtain ⟨hin, hnm, hty, hini, hdef, hem⟩ := pcl_ok x _ hq
    have hini : (pini x).length = N0 := hini
    intro H locs ls HR HL h1 h2
    rw [show pcOf (m_code M) i = pc from pcOf_at he]
    have hKn := C.2.2.2.2.2.1.1 x _ hq
    refine W.newcK C.1 C.2.1 C.2.2.2.1 w1 w2 w3 rfl hd hc1 (by rw [← hini]; exact hs1) hKn.2.1 rfl (fun H' kC hkC e1 e2 e3 => ?_)
    show W p l e R s m args below meth c H' _ _ _ Q (F0 m (pc + 3) ls _)
    rw [← hn, ← hini]
    have hb := HR.1
    rw [hb]
    refine k H' locs ls (HR.push e2 ⟨_, hq, hini, ?_⟩ e3) HL (fun q hq => (e3 q (by omega)).trans (h1 q hq)) h2
    refine (u_born (ptyp x) C.2.2.2.2.1 hin hKn hkC e1 hty).to (fun j hj => ?_)
    rw [hdef j hj]
    rcases hem j hj with q | q <;> rw [q] <;> rfl
theorem sw_newarray {n : ArrayType} {j : Int32} (B : SWc p s m args meth c D X bs E P M i (pc, .newarray n, x, y, v, ts)) (hj : 0 ≤ j ∧ j ≤ 100000) (hc1 : cells + 1 ≤ R.cells) (hs1 : slots + j.toNatClampNeg ≤ R.slots) (k : PW p l e R s m args below meth c Q D X bs M (i + 1) L (.ref h.length :: r) (h ++ [.inl (j.toNatClampNeg, fun _ => 0)]) (cells + 1) (slots + j.toNatClampNeg)) : PW p l e R s m args below meth c Q D X bs M i L (.int j :: r) h cells slots := by
  obtain ⟨C, he, hd0, hn0, ha0, hl⟩ := B
  have hd : decode (m_b M) pc = .ok (.newarray n, 2) := of_decide_eq_true hd0
  have hn : pcOf (m_code M) (i + 1) = pc + 2 := of_decide_eq_true hn0
  have ha : n = .int := of_decide_eq_true ha0
  subst ha
  have w1 : (Cond.arrayClass .int).before args s = true := C.2.2.2.2.1 _ (hl _ List.mem_cons_self)
  intro H locs ls HR HL h1 h2
  rw [show pcOf (m_code M) i = pc from pcOf_at he]
  have h0 : ¬ j < 0 := Int32.not_lt.mpr hj.1
  have hsz := pj_le hj
  refine W.newaK (atype := .int) (N := j.toNatClampNeg) C.1 C.2.1 w1 rfl hd rfl h0 rfl (by show j.toNatClampNeg * 4 ≤ 536870912; omega) hc1 hs1 rfl (fun H' cA e1 e2 e3 hArr => ?_)
  show W p l e R s m args below meth c H' _ _ _ Q (F0 m (pc + 2) ls _)
  rw [← hn]
  have hb := HR.1
  rw [hb]
  exact k H' locs ls (HR.push e2 ⟨cA, e1, hArr⟩ e3) HL (fun q hq => (e3 q (by omega)).trans (h1 q hq)) h2
theorem sw_anewarray {n : Nat} {j : Int32} (B : SWc p s m args meth c D X bs E P M i (pc, .anewarray n, x, y, v, ts)) (hx1 : x < pcls.length) (hj : 0 ≤ j ∧ j ≤ 100000) (hc1 : cells + 1 ≤ R.cells) (hs1 : slots + j.toNatClampNeg ≤ R.slots) (k : PW p l e R s m args below meth c Q D X bs M (i + 1) L (.ref h.length :: r) (h ++ [.inr (.inl (x, j.toNatClampNeg, fun _ => none))]) (cells + 1) (slots + j.toNatClampNeg)) : PW p l e R s m args below meth c Q D X bs M i L (.int j :: r) h cells slots := by
  obtain ⟨C, he, hd0, hn0, ha0, hl⟩ := B
  have hd : decode (m_b M) pc = .ok (.anewarray n, 3) := of_decide_eq_true hd0
  have hn : pcOf (m_code M) (i + 1) = pc + 3 := of_decide_eq_true hn0
  cases hq : pcls[x]? with
  | none => exact absurd hx1 (Nat.not_lt.mpr (List.getElem?_eq_none_iff.mp hq))
  | some q =>
    have hl2 : plnk P (m_y M).cls (pc, .anewarray n, x, y, v, ts) = [.classLink (m_y M).cls n q.1, .arrayOver (.object q.1)] := by
      show (match pcls[x]? with
        | some q => [Cond.classLink (m_y M).cls n q.1, .arrayOver (.object q.1)]
        | none => []) = _
      rw [hq]
    rw [hl2] at hl
    have w1 := C.2.2.2.2.1 _ (hl _ List.mem_cons_self)
    have w2 := C.2.2.2.2.1 _ (hl _ (List.mem_cons_of_mem _ List.mem_cons_self))
    intro H locs ls HR HL h1 h2
    rw [show pcOf (m_code M) i = pc from pcOf_at he]
    have h0 : ¬ j < 0 := Int32.not_lt.mpr hj.1
    have hsz := pj_le hj
    refine W.anew C.1 C.2.1 C.2.2.2.1 w1 w2 rfl hd rfl h0 (by omega) hc1 hs1 (fun cA kA comp f1 f2 f3 f4 => ?_)
    generalize hH1 : H.push ({ cls := cA, slots := Array.replicate j.toNatClampNeg .null, vm := .none } : Cell) = H1
    have e2 : H1.size = H.size + 1 := by rw [← hH1, Array.size_push]
    have e1 : H1[H.size]? = some (arrV cA j.toNatClampNeg (fun _ => .null)) := by rw [← hH1, Array.getElem?_push_size, ← arrV_new]
    have e3 : ∀ q : Nat, q < H.size → H1[q]? = H[q]? := fun q hq => by rw [← hH1, Array.getElem?_push, if_neg (Nat.ne_of_lt hq)]
    have hArr : ArrOfT s cA (.object q.1) := fun N z => ⟨(fun k h => by cases h), kA, f2, comp, f3⟩
    show W p l e R s m args below meth c H1 _ _ _ Q (F0 m (pc + 3) ls _)
    rw [← hn]
    have hb := HR.1
    rw [hb]
    exact k H1 locs ls (HR.push e2 ⟨cA, q, hq, e1, hArr, kA, comp, f2, f3, f4, f1⟩ e3) HL (fun q hq => (e3 q (by omega)).trans (h1 q hq)) h2
theorem sw_oini {n a : Nat} (B : SWc p s m args meth c D X bs E P M i (pc, .invokespecial n, x, y, v, ts)) (hP : P[x]? = none) (hr8 : pcs r ≤ 8) (hR1 : 1 ≤ R.frames) (hR2 : 40 ≤ R.locals) (k : PW p l e R s m args below meth c Q D X bs M (i + 1) L (r) h cells slots) : PW p l e R s m args below meth c Q D X bs M i L (.ref a :: r) h cells slots := by
  obtain ⟨C, he, hd0, hn0, ha0, hl⟩ := B
  have hd : decode (m_b M) pc = .ok (.invokespecial n, 3) := of_decide_eq_true hd0
  have hn : pcOf (m_code M) (i + 1) = pc + 3 := of_decide_eq_true hn0
  have hl2 : plnk P (m_y M).cls (pc, .invokespecial n, x, y, v, ts) = [.methodLink (m_y M).cls n Lib.objectInit, .instanceMethod Lib.objectInit, .code Lib.objectInit ⟨#[0xb1]⟩ 1 none] := by
    show (match P[x]? with
      | some N => [plk (m_y M).cls n (m_y N) v]
      | none => [Cond.methodLink (m_y M).cls n Lib.objectInit, .instanceMethod Lib.objectInit, .code Lib.objectInit ⟨#[0xb1]⟩ 1 none]) = _
    rw [hP]
  rw [hl2] at hl
  have w1 := C.2.2.2.2.1 _ (hl _ List.mem_cons_self)
  have w2 := C.2.2.2.2.1 _ (hl _ (List.mem_cons_of_mem _ List.mem_cons_self))
  have w3 := C.2.2.2.2.1 _ (hl _ (List.mem_cons_of_mem _ (List.mem_cons_of_mem _ List.mem_cons_self)))
  intro H locs ls HR HL h1 h2
  rw [show pcOf (m_code M) i = pc from pcOf_at he]
  refine W.objInit C.1 C.2.1 C.2.2.2.1 w1 w2 w3 rfl (by show ls.size = _; rw [C.2.2.1]; exact HL.1.1) (a := bs + a) (rest := r.map (emb X bs)) rfl hd hR1 (by
    have := emb_pcs X bs r
    show 2 * 0 + ((r.map (emb X bs)).map fun v => v.category).sum + 12 ≤ R.locals
    omega) ?_
  show W p l e R s m args below meth c H locs cells slots Q (F0 m (pc + 3) ls _)
  rw [← hn]
  exact k H locs ls HR HL h1 h2
end PWH
