/-! ===== arraycopy, switches ===== -/
theorem i32_nat {z : Int32} (hz : 0 ≤ z) : z.toInt = (z.toNatClampNeg : Int) := by
  have h0 : (0 : Int) ≤ z.toInt := by simpa using Int32.le_iff_toInt_le.mp hz
  show z.toInt = ((z.toInt.toNat : Nat) : Int)
  omega
theorem pswT (z : Int) (d : Nat) : ∀ (ts : List Nat) (lo : Int), ((z < lo ∨ lo + (ts.length : Int) - 1 < z) → psw z (pkeysT lo ts) d = d) ∧ (¬ z < lo → ¬ lo + (ts.length : Int) - 1 < z → ts[(z - lo).toNat]? = some (psw z (pkeysT lo ts) d))
  | [], lo => ⟨fun _ => rfl, fun h1 h2 => absurd h2 (by simp; omega)⟩
  | t :: r, lo => by
    obtain ⟨i1, i2⟩ := pswT z d r (lo + 1)
    unfold pkeysT psw
    rw [List.length_cons]
    constructor
    · intro hz
      rw [if_neg (by omega)]
      exact i1 (by omega)
    · intro h1 h2
      by_cases he : z = lo
      · rw [if_pos he, he]
        have : (lo - lo).toNat = 0 := by omega
        rw [this]
        rfl
      · rw [if_neg he]
        have : (z - lo).toNat = (z - (lo + 1)).toNat + 1 := by omega
        rw [this, List.getElem?_cons_succ]
        exact i2 (by omega) (by omega)
theorem pswL (pc : Nat) (g : Nat → Nat) (z d : Int) (x : Nat) (hd : (pc : Int) + d = (g x : Int)) : ∀ (ps : List (Int × Int)) (ts : List Nat), ps.map (fun q => (pc : Int) + q.2) = ts.map (fun q => (g q : Int)) → (pc : Int) + Op.lookupswitch.offset ps d z = (g (psw z ((ps.map (fun q => q.1)).zip ts) x) : Int)
  | [], ts, _ => hd
  | (a, b) :: r, [], hm => by simp at hm
  | (a, b) :: r, t :: ts, hm => by
    rw [List.map_cons, List.map_cons, List.cons.injEq] at hm
    rw [List.map_cons, List.zip_cons_cons, Op.lookupswitch.offset_cons]
    unfold psw
    by_cases hz : z = a
    · rw [if_pos hz, if_pos hz.symm]
      exact hm.1
    · rw [if_neg hz, if_neg (fun q => hz q.symm)]
      exact pswL pc g z d x hd r ts hm.2
section PWC
variable {p : Program} {l : Launch} {e : Env} {R : Room} {s : State} {m : MethodId} {args : Array Value} {below : List Frame} {meth : Method} {c : Code} {Q : State → Prop} {D : va_G} {X : Nat → Nat} {bs : Nat} {E : pX} {P : List pM} {M : pM}
variable {i pc x y : Nat} {v : Value} {ts : List Nat} {L L' : pL} {st st' r : List Value} {h h' : List pC} {cells slots : Nat}
theorem sw_table {dd lo hi : Int} {os : Array Int} {a : Int32} (B : SWc p s m args meth c D X bs E P M i (pc, .tableswitch dd lo hi os, x, y, v, ts)) (k : PW p l e R s m args below meth c Q D X bs M (psw a.toInt (pkeysT lo ts) x) L (r) h cells slots) : PW p l e R s m args below meth c Q D X bs M i L (.int a :: r) h cells slots := by
  obtain ⟨C, he, hd0, hn0, ha0, hl⟩ := B
  have hd : decode (m_b M) pc = .ok (.tableswitch dd lo hi os, y) := of_decide_eq_true hd0
  have ha : (decide ((pc : Int) + dd = (pcOf (m_code M) x : Int)) && (decide (hi = lo + (ts.length : Int) - 1) && decide (os.toList.map (fun z => (pc : Int) + z) = ts.map (fun z => (pcOf (m_code M) z : Int))))) = true := ha0
  rw [Bool.and_eq_true, Bool.and_eq_true] at ha
  have a1 := of_decide_eq_true ha.1
  have a2 := of_decide_eq_true ha.2.1
  have a3 := of_decide_eq_true ha.2.2
  obtain ⟨i1, i2⟩ := pswT a.toInt x ts lo
  by_cases hz : a.toInt < lo ∨ hi < a.toInt
  · rw [i1 (by omega)] at k
    exact pw_j (pcOf_at he) rfl k (fun H locs ls w => lv_tableOut C.1 C.2.1 hd hz a1 w)
  · have b1 : ¬ a.toInt < lo := fun q => hz (Or.inl q)
    have b2 : ¬ hi < a.toInt := fun q => hz (Or.inr q)
    have i2 := i2 b1 (by omega)
    have g := congrArg (fun l : List Int => l[(a.toInt - lo).toNat]?) a3
    simp only [List.getElem?_map, i2, Option.map_some] at g
    cases ho : os.toList[(a.toInt - lo).toNat]? with
    | none => rw [ho] at g; cases g
    | some off =>
      rw [ho] at g
      have g : (pc : Int) + off = (pcOf (m_code M) (psw a.toInt (pkeysT lo ts) x) : Int) := Option.some.inj g
      exact pw_j (pcOf_at he) rfl k (fun H locs ls w => lv_tableIn C.1 C.2.1 hd b1 b2 (by rw [← Array.getElem?_toList]; exact ho) g w)
theorem sw_lookup {dd : Int} {ps : Array (Int × Int)} {a : Int32} (B : SWc p s m args meth c D X bs E P M i (pc, .lookupswitch dd ps, x, y, v, ts)) (k : PW p l e R s m args below meth c Q D X bs M (psw a.toInt ((ps.toList.map (fun q => q.1)).zip ts) x) L (r) h cells slots) : PW p l e R s m args below meth c Q D X bs M i L (.int a :: r) h cells slots := by
  obtain ⟨C, he, hd0, hn0, ha0, hl⟩ := B
  have hd : decode (m_b M) pc = .ok (.lookupswitch dd ps, y) := of_decide_eq_true hd0
  have ha : (decide ((pc : Int) + dd = (pcOf (m_code M) x : Int)) && ((ps.toList.zip (ps.toList.drop 1)).all (fun (a, next) => a.1 < next.1) && decide (ps.toList.map (fun z => (pc : Int) + z.2) = ts.map (fun z => (pcOf (m_code M) z : Int))))) = true := ha0
  rw [Bool.and_eq_true, Bool.and_eq_true] at ha
  have a1 := of_decide_eq_true ha.1
  have a3 := of_decide_eq_true ha.2.2
  exact pw_j (pcOf_at he) rfl k (fun H locs ls w => lv_lookup C.1 C.2.1 hd ha.2.1 rfl (pswL pc (pcOf (m_code M)) a.toInt dd x a1 ps.toList ts a3) w)
theorem sw_copy {n a0 a1 : Nat} {sp dp z : Int32} {o0 o1 : Nat × (Nat → Int32)} (B : SWc p s m args meth c D X bs E P M i (pc, .invokestatic n, x, y, v, ts)) (hP : P[x]? = none) (hx9 : x = 99999) (hr8 : pcs r ≤ 8) (hR1 : 1 ≤ R.frames) (hR2 : 40 ≤ R.locals) (hi0 : pint h a0 = some o0) (hi1 : pint h a1 = some o1)
    (hz : 0 ≤ sp ∧ 0 ≤ dp ∧ 0 ≤ z ∧ sp.toNatClampNeg + z.toNatClampNeg ≤ o0.1 ∧ dp.toNatClampNeg + z.toNatClampNeg ≤ o1.1) (k : PW p l e R s m args below meth c Q D X bs M (i + 1) L (r) (h.set a1 (.inl (o1.1, va_cpy o0.2 o1.2 sp.toNatClampNeg dp.toNatClampNeg z.toNatClampNeg))) cells slots) : PW p l e R s m args below meth c Q D X bs M i L (.int z :: .int dp :: .ref a1 :: .int sp :: .ref a0 :: r) h cells slots := by
  obtain ⟨C, he, hd0, hn0, ha0, hl⟩ := B
  have hd : decode (m_b M) pc = .ok (.invokestatic n, 3) := of_decide_eq_true hd0
  have hn : pcOf (m_code M) (i + 1) = pc + 3 := of_decide_eq_true hn0
  subst hx9
  have hl2 : plnk P (m_y M).cls (pc, .invokestatic n, 99999, y, v, ts) = [.methodLink (m_y M).cls n arraycopyName, .native arraycopyName, .static arraycopyName, .initialized "java/lang/System"] := by
    show (match P[99999]? with
      | some N => [plk (m_y M).cls n (m_y N) v]
      | none => pnlk (m_y M).cls n 99999) = _
    rw [hP]
    rfl
  rw [hl2] at hl
  have w1 := C.2.2.2.2.1 _ (hl _ List.mem_cons_self)
  have w2 := C.2.2.2.2.1 _ (hl _ (List.mem_cons_of_mem _ List.mem_cons_self))
  have w3 := C.2.2.2.2.1 _ (hl _ (List.mem_cons_of_mem _ (List.mem_cons_of_mem _ List.mem_cons_self)))
  have w4 := C.2.2.2.2.1 _ (hl _ (List.mem_cons_of_mem _ (List.mem_cons_of_mem _ (List.mem_cons_of_mem _ List.mem_cons_self))))
  intro H locs ls HR HL g1 g2
  rw [show pcOf (m_code M) i = pc from pcOf_at he]
  obtain ⟨c0, hc0, hA0⟩ := HR.2 a0 _ (pint_at hi0)
  obtain ⟨c1, hc1, hA1⟩ := HR.2 a1 _ (pint_at hi1)
  obtain ⟨-, k0, hk0, cm0, hkk0⟩ := hA0 o0.1 (fun j => .int (o0.2 j))
  obtain ⟨-, k1, hk1, cm1, hkk1⟩ := hA1 o1.1 (fun j => .int (o1.2 j))
  have hprim : refKind FieldType.int = false := rfl
  have hpc := emb_pcs X bs r
  intro T hT Z
  obtain ⟨vm', Z', step⟩ := Z.arraycopy C.1 C.2.2.2.1 w1 w2 w3 w4 (src := bs + a0) (dst := bs + a1) (cs := arrV c0 o0.1 (fun j => .int (o0.2 j))) (cd := arrV c1 o1.1 (fun j => .int (o1.2 j))) (srcPos := sp) (destPos := dp) (n := z) (by rw [hT]; exact hc0) (by rw [hT]; exact hc1)
    (fun _ h => by cases h) (fun _ h => by cases h) (fun h => by cases h) (fun h => by cases h) hk0 hk1 hkk0 hkk1 (by simp [hprim]) (Int32.not_lt.mpr hz.1) (Int32.not_lt.mpr hz.2.1) (Int32.not_lt.mpr hz.2.2.1)
    (by rw [i32_nat hz.1, i32_nat hz.2.2.1]; show ¬ _ > ((arrV c0 o0.1 (fun j => .int (o0.2 j))).slots.size : Int); rw [arrV_size]; omega)
    (by rw [i32_nat hz.2.1, i32_nat hz.2.2.1]; show ¬ _ > ((arrV c1 o1.1 (fun j => .int (o1.2 j))).slots.size : Int); rw [arrV_size]; omega)
    (fun vm₁ _ i hi => by
      have e : (arrV c0 o0.1 (fun j => .int (o0.2 j))).slots.getD (sp.toNatClampNeg + i) .null = .int (o0.2 (sp.toNatClampNeg + i)) := by
        rw [Array.getD_eq_getD_getElem?, arrV_read _ _ (by omega)]
        rfl
      refine ⟨?_, ?_⟩
      · rw [e]
        rfl
      · rw [e]
        exact trivial)
    (g := F0 m pc ls (.int z :: .int dp :: .ref (bs + a1) :: .int sp :: .ref (bs + a0) :: r.map (emb X bs))) rfl (by show ls.size = _; rw [C.2.2.1]; exact HL.1.1) (rest := r.map (emb X bs)) rfl (by rw [C.2.1]; exact hd) hR1 (by
      have hw : nativeFrameWords "java/lang/System" "arraycopy" 5 + 11 ≤ 32 := by decide +kernel
      show 2 * 0 + ((r.map (emb X bs)).map fun v => v.category).sum + _ ≤ _
      omega)
  have e1 : copied (arrV c0 o0.1 (fun j => .int (o0.2 j))) (arrV c1 o1.1 (fun j => .int (o1.2 j))) sp dp z = arrV c1 o1.1 (fun j => .int (va_cpy o0.2 o1.2 sp.toNatClampNeg dp.toNatClampNeg z.toNatClampNeg j)) := va_copied (fun z => .int z) c0 c1 o0.2 o1.2 hz.2.2.2.1
  rw [e1] at Z' step
  have hlt : bs + a1 < H.size := (Array.getElem?_eq_some_iff.mp hc1).1
  generalize hcell : arrV c1 o1.1 (fun j => .int (va_cpy o0.2 o1.2 sp.toNatClampNeg dp.toNatClampNeg z.toNatClampNeg j)) = cell at Z' step
  have hheap : ((T.setVm vm').setCell (bs + a1) cell).heap = H.setIfInBounds (bs + a1) cell := by rw [← hT]; rfl
  have oq : ∀ q : Nat, q ≠ bs + a1 → (H.setIfInBounds (bs + a1) cell)[q]? = H[q]? := fun q hq => by simp [Array.getElem?_setIfInBounds, Ne.symm hq]
  have e2 : (H.setIfInBounds (bs + a1) cell)[bs + a1]? = some cell := by simp [Array.getElem?_setIfInBounds, hlt]
  have kk := fun (locs1 : List Loc) (hl : ∀ x ∈ locs1, bs ≤ x.base) => k (H.setIfInBounds (bs + a1) cell) locs1 ls (HR.set (pint_at hi1) (by simp) ⟨c1, by rw [hcell]; exact e2, hA1⟩ oq) HL (fun q hq => (oq q (by omega)).trans (g1 q hq)) hl
  rw [hn] at kk
  obtain ⟨t, b1, b2⟩ := kk _ (fun q hq => by
      rcases List.mem_append.mp hq with h | h
      · exact g2 q h
      · obtain ⟨w, -, hw⟩ := List.mem_map.mp h
        rw [← hw]
        exact Nat.le_add_right _ _) _ hheap Z'
  exact ⟨t, step t b1, b2⟩

theorem sw_mmax {n : Nat} {a b : Int32} (B : SWc p s m args meth c D X bs E P M i (pc, .invokestatic n, 99990, y, v, ts)) (hP : P[99990]? = none) (hr8 : pcs r ≤ 8) (hR1 : 1 ≤ R.frames) (hR2 : 40 ≤ R.locals) (hc : cells ≤ R.cells) (hsl : slots ≤ R.slots) (k : PW p l e R s m args below meth c Q D X bs M (i + 1) L (.int (if a < b then b else a) :: r) h cells slots) : PW p l e R s m args below meth c Q D X bs M i L (.int b :: .int a :: r) h cells slots := by
  obtain ⟨C, he, hd0, hn0, ha0, hl⟩ := B
  have hd : decode (m_b M) pc = .ok (.invokestatic n, 3) := of_decide_eq_true hd0
  have hn : pcOf (m_code M) (i + 1) = pc + 3 := of_decide_eq_true hn0
  have hl2 : plnk P (m_y M).cls (pc, .invokestatic n, 99990, y, v, ts) = [.methodLink (m_y M).cls n Lib.Math.max.name, .static Lib.Math.max.name, .initialized "java/lang/Math", .code Lib.Math.max.name Lib.Math.max.code 2 (some .int)] := by
    show (match P[99990]? with
      | some N => [plk (m_y M).cls n (m_y N) v]
      | none => pnlk (m_y M).cls n 99990) = _
    rw [hP]
    rfl
  rw [hl2] at hl
  have w1 := C.2.2.2.2.1 _ (hl _ List.mem_cons_self)
  have w2 := C.2.2.2.2.1 _ (hl _ (List.mem_cons_of_mem _ List.mem_cons_self))
  have w3 := C.2.2.2.2.1 _ (hl _ (List.mem_cons_of_mem _ (List.mem_cons_of_mem _ List.mem_cons_self)))
  have w4 := C.2.2.2.2.1 _ (hl _ (List.mem_cons_of_mem _ (List.mem_cons_of_mem _ (List.mem_cons_of_mem _ List.mem_cons_self))))
  exact pw_st (pcOf_at he) hn k (fun H locs ls HL w => va_mmax C.1 C.2.1 (by rw [C.2.2.1]; exact HL.1.1.symm) C.2.2.2.1 w1 w2 w3 w4 hR1 (by
    have := emb_pcs X bs r
    omega) hc hsl hd w)
theorem sw_mmin {n : Nat} {a b : Int32} (B : SWc p s m args meth c D X bs E P M i (pc, .invokestatic n, 99991, y, v, ts)) (hP : P[99991]? = none) (hr8 : pcs r ≤ 8) (hR1 : 1 ≤ R.frames) (hR2 : 40 ≤ R.locals) (hc : cells ≤ R.cells) (hsl : slots ≤ R.slots) (k : PW p l e R s m args below meth c Q D X bs M (i + 1) L (.int (if b < a then b else a) :: r) h cells slots) : PW p l e R s m args below meth c Q D X bs M i L (.int b :: .int a :: r) h cells slots := by
  obtain ⟨C, he, hd0, hn0, ha0, hl⟩ := B
  have hd : decode (m_b M) pc = .ok (.invokestatic n, 3) := of_decide_eq_true hd0
  have hn : pcOf (m_code M) (i + 1) = pc + 3 := of_decide_eq_true hn0
  have hl2 : plnk P (m_y M).cls (pc, .invokestatic n, 99991, y, v, ts) = [.methodLink (m_y M).cls n Lib.Math.min.name, .static Lib.Math.min.name, .initialized "java/lang/Math", .code Lib.Math.min.name Lib.Math.min.code 2 (some .int)] := by
    show (match P[99991]? with
      | some N => [plk (m_y M).cls n (m_y N) v]
      | none => pnlk (m_y M).cls n 99991) = _
    rw [hP]
    rfl
  rw [hl2] at hl
  have w1 := C.2.2.2.2.1 _ (hl _ List.mem_cons_self)
  have w2 := C.2.2.2.2.1 _ (hl _ (List.mem_cons_of_mem _ List.mem_cons_self))
  have w3 := C.2.2.2.2.1 _ (hl _ (List.mem_cons_of_mem _ (List.mem_cons_of_mem _ List.mem_cons_self)))
  have w4 := C.2.2.2.2.1 _ (hl _ (List.mem_cons_of_mem _ (List.mem_cons_of_mem _ (List.mem_cons_of_mem _ List.mem_cons_self))))
  exact pw_st (pcOf_at he) hn k (fun H locs ls HL w => va_mmin C.1 C.2.1 (by rw [C.2.2.1]; exact HL.1.1.symm) C.2.2.2.1 w1 w2 w3 w4 hR1 (by
    have := emb_pcs X bs r
    omega) hc hsl hd w)
theorem sw_mabs {n : Nat} {a : Int32} (B : SWc p s m args meth c D X bs E P M i (pc, .invokestatic n, 99992, y, v, ts)) (hP : P[99992]? = none) (hr8 : pcs r ≤ 8) (hR1 : 1 ≤ R.frames) (hR2 : 40 ≤ R.locals) (hc : cells ≤ R.cells) (hsl : slots ≤ R.slots) (k : PW p l e R s m args below meth c Q D X bs M (i + 1) L (.int (if 0 ≤ a then a else 0 - a) :: r) h cells slots) : PW p l e R s m args below meth c Q D X bs M i L (.int a :: r) h cells slots := by
  obtain ⟨C, he, hd0, hn0, ha0, hl⟩ := B
  have hd : decode (m_b M) pc = .ok (.invokestatic n, 3) := of_decide_eq_true hd0
  have hn : pcOf (m_code M) (i + 1) = pc + 3 := of_decide_eq_true hn0
  have hl2 : plnk P (m_y M).cls (pc, .invokestatic n, 99992, y, v, ts) = [.methodLink (m_y M).cls n Lib.Math.abs.name, .static Lib.Math.abs.name, .initialized "java/lang/Math", .code Lib.Math.abs.name Lib.Math.abs.code 1 (some .int)] := by
    show (match P[99992]? with
      | some N => [plk (m_y M).cls n (m_y N) v]
      | none => pnlk (m_y M).cls n 99992) = _
    rw [hP]
    rfl
  rw [hl2] at hl
  have w1 := C.2.2.2.2.1 _ (hl _ List.mem_cons_self)
  have w2 := C.2.2.2.2.1 _ (hl _ (List.mem_cons_of_mem _ List.mem_cons_self))
  have w3 := C.2.2.2.2.1 _ (hl _ (List.mem_cons_of_mem _ (List.mem_cons_of_mem _ List.mem_cons_self)))
  have w4 := C.2.2.2.2.1 _ (hl _ (List.mem_cons_of_mem _ (List.mem_cons_of_mem _ (List.mem_cons_of_mem _ List.mem_cons_self))))
  exact pw_st (pcOf_at he) hn k (fun H locs ls HL w => va_mabs C.1 C.2.1 (by rw [C.2.2.1]; exact HL.1.1.symm) C.2.2.2.1 w1 w2 w3 w4 hR1 (by
    have := emb_pcs X bs r
    omega) hc hsl hd w)
end PWC

/-! ===== one step of the pure machine is one step of the machine ===== -/
theorem pnx_inv {i : Nat} {L : pL} {st : List Value} {h : List pC} {σ : pS} (hs : pnx i L st h = some σ) : σ = (i + 1, L, st, h, 0, 0) := (Option.some.inj hs).symm
theorem psto_inv {q : Option pL} {i : Nat} {st : List Value} {h : List pC} {σ : pS} (hs : psto q i st h = some σ) : ∃ L', q = some L' ∧ σ = (i + 1, L', st, h, 0, 0) := by
  cases q with
  | none => cases hs
  | some L' => exact ⟨L', rfl, pnx_inv hs⟩
section PWD
variable {p : Program} {l : Launch} {e : Env} {R : Room} {s : State} {m : MethodId} {args : Array Value} {below : List Frame} {meth : Method} {c : Code} {Q : State → Prop} {D : va_G} {X : Nat → Nat} {bs : Nat} {E : pX} {P : List pM} {M : pM}
variable {i pc x y : Nat} {v : Value} {ts : List Nat} {L L' : pL} {st st' r : List Value} {h h' : List pC} {cells slots : Nat}
variable {t : pE} {σ : pS}
theorem pbin_inv {f : Int32 → Int32 → Int32} (hs : pbin f i L st h = some σ) : ∃ a b r, st = .int b :: .int a :: r ∧ σ = (i + 1, L, .int (f a b) :: r, h, 0, 0) := by
  unfold pbin at hs
  split at hs
  · exact ⟨_, _, _, rfl, pnx_inv hs⟩
  · cases hs
theorem pldi_inv (hs : pldi t i L st h = some σ) : ∃ a, pget L (e_x t) = some (.int a) ∧ σ = (i + 1, L, .int a :: st, h, 0, 0) := by
  unfold pldi at hs
  split at hs
  · rename_i q
    exact ⟨_, q, pnx_inv hs⟩
  · cases hs
theorem pldl_inv (hs : pldl t i L st h = some σ) : ∃ a, pget L (e_x t) = some (.long a) ∧ σ = (i + 1, L, .long a :: st, h, 0, 0) := by
  unfold pldl at hs
  split at hs
  · rename_i q
    exact ⟨_, q, pnx_inv hs⟩
  · cases hs
theorem plda_inv (hs : plda t i L st h = some σ) : (∃ a, pget L (e_x t) = some (.ref a) ∧ σ = (i + 1, L, .ref a :: st, h, 0, 0)) ∨ (pget L (e_x t) = some .null ∧ σ = (i + 1, L, .null :: st, h, 0, 0)) ∨ ∃ a, pget L (e_x t) = some (.retAddr a) ∧ σ = (i + 1, L, .retAddr a :: st, h, 0, 0) := by
  unfold plda at hs
  split at hs
  · rename_i q
    exact Or.inl ⟨_, q, pnx_inv hs⟩
  · rename_i q
    exact Or.inr (Or.inl ⟨q, pnx_inv hs⟩)
  · rename_i q
    exact Or.inr (Or.inr ⟨_, q, pnx_inv hs⟩)
  · cases hs
theorem psti_inv (hs : psti t i L st h = some σ) : ∃ a r L', st = .int a :: r ∧ pset L (e_x t) (.int a) = some L' ∧ σ = (i + 1, L', r, h, 0, 0) := by
  unfold psti at hs
  split at hs
  · obtain ⟨L', q, e⟩ := psto_inv hs
    exact ⟨_, _, L', rfl, q, e⟩
  · cases hs
theorem psta_inv (hs : psta t i L st h = some σ) : (∃ a r L', st = .ref a :: r ∧ pset L (e_x t) (.ref a) = some L' ∧ σ = (i + 1, L', r, h, 0, 0)) ∨ ∃ r L', st = .null :: r ∧ pset L (e_x t) .null = some L' ∧ σ = (i + 1, L', r, h, 0, 0) := by
  unfold psta at hs
  split at hs
  · obtain ⟨L', q, e⟩ := psto_inv hs
    exact Or.inl ⟨_, _, L', rfl, q, e⟩
  · obtain ⟨L', q, e⟩ := psto_inv hs
    exact Or.inr ⟨_, L', rfl, q, e⟩
  · cases hs
theorem sw_all (B : SWc p s m args meth c D X bs E P M i t) (hR1 : 1 ≤ R.frames) (hR2 : 40 ≤ R.locals) (hPl : P.length ≤ 90000) (hs : pstep E t i L st h = some σ) (hc : cells + σ.2.2.2.2.1 ≤ R.cells) (hsl : slots + σ.2.2.2.2.2 ≤ R.slots) (k : PW p l e R s m args below meth c Q D X bs M σ.1 σ.2.1 σ.2.2.1 σ.2.2.2.1 (cells + σ.2.2.2.2.1) (slots + σ.2.2.2.2.2)) : PW p l e R s m args below meth c Q D X bs M i L st h cells slots := by
  obtain ⟨pc, ins, x, y, v, ts⟩ := t
  have hPn : ∀ z, z = 99999 → P[z]? = none := fun z hz => List.getElem?_eq_none_iff.mpr (by omega)
  have hPm : ∀ z, 90000 ≤ z → P[z]? = none := fun z hz => List.getElem?_eq_none_iff.mpr (by omega)
  cases ins
  case iconst n =>
    obtain rfl := pnx_inv hs
    exact sw_iconst B k
  case bipush n =>
    obtain rfl := pnx_inv hs
    exact sw_bipush B k
  case sipush n =>
    obtain rfl := pnx_inv hs
    exact sw_sipush B k
  case lconst n =>
    obtain rfl := pnx_inv hs
    exact sw_lconst B k
  case ldc n =>
    obtain rfl := pnx_inv hs
    exact sw_ldc B k
  case ldc_w n =>
    obtain rfl := pnx_inv hs
    exact sw_ldc_w B k
  case ldc2_w n =>
    obtain rfl := pnx_inv hs
    exact sw_ldc2_w B k
  case aconst_null =>
    obtain rfl := pnx_inv hs
    exact sw_aconst_null B k
  case iload n =>
    obtain ⟨a, hv, rfl⟩ := pldi_inv (t := (pc, .iload n, x, y, v, ts)) hs
    exact sw_iload B hv k
  case iload_n n =>
    obtain ⟨a, hv, rfl⟩ := pldi_inv (t := (pc, .iload_n n, x, y, v, ts)) hs
    exact sw_iload_n B hv k
  case lload n =>
    obtain ⟨a, hv, rfl⟩ := pldl_inv (t := (pc, .lload n, x, y, v, ts)) hs
    exact sw_lload B hv k
  case lload_n n =>
    obtain ⟨a, hv, rfl⟩ := pldl_inv (t := (pc, .lload_n n, x, y, v, ts)) hs
    exact sw_lload_n B hv k
  case aload n =>
    rcases plda_inv (t := (pc, .aload n, x, y, v, ts)) hs with ⟨a, hv, rfl⟩ | ⟨hv, rfl⟩ | ⟨a, hv, rfl⟩
    · exact sw_aload B hv k
    · exact sw_aloadN B hv k
    · exact sw_aloadX B hv k
  case aload_n n =>
    rcases plda_inv (t := (pc, .aload_n n, x, y, v, ts)) hs with ⟨a, hv, rfl⟩ | ⟨hv, rfl⟩ | ⟨a, hv, rfl⟩
    · exact sw_aload_n B hv k
    · exact sw_aload_nN B hv k
    · exact sw_aload_nX B hv k
  case istore n =>
    obtain ⟨a, r, L1, rfl, hp, rfl⟩ := psti_inv (t := (pc, .istore n, x, y, v, ts)) hs
    exact sw_istore B hp k
  case istore_n n =>
    obtain ⟨a, r, L1, rfl, hp, rfl⟩ := psti_inv (t := (pc, .istore_n n, x, y, v, ts)) hs
    exact sw_istore_n B hp k
  case astore n =>
    rcases psta_inv (t := (pc, .astore n, x, y, v, ts)) hs with ⟨a, r, L1, rfl, hp, rfl⟩ | ⟨r, L1, rfl, hp, rfl⟩
    · exact sw_astore B hp k
    · exact sw_astoreN B hp k
  case astore_n n =>
    rcases psta_inv (t := (pc, .astore_n n, x, y, v, ts)) hs with ⟨a, r, L1, rfl, hp, rfl⟩ | ⟨r, L1, rfl, hp, rfl⟩
    · exact sw_astore_n B hp k
    · exact sw_astore_nN B hp k
  case iinc n z =>
    have hs : pinc z (pc, .iinc n z, x, y, v, ts) i L st h = some σ := hs
    unfold pinc at hs
    split at hs
    · rename_i hv
      obtain ⟨L1, hp, rfl⟩ := psto_inv hs
      exact sw_iinc B hv hp k
    · cases hs
  case iadd =>
    obtain ⟨a, b, r, rfl, rfl⟩ := pbin_inv hs
    exact sw_iadd B k
  case isub =>
    obtain ⟨a, b, r, rfl, rfl⟩ := pbin_inv hs
    exact sw_isub B k
  case imul =>
    obtain ⟨a, b, r, rfl, rfl⟩ := pbin_inv hs
    exact sw_imul B k
  case iand =>
    obtain ⟨a, b, r, rfl, rfl⟩ := pbin_inv hs
    exact sw_iand B k
  case ior =>
    obtain ⟨a, b, r, rfl, rfl⟩ := pbin_inv hs
    exact sw_ior B k
  case ixor =>
    obtain ⟨a, b, r, rfl, rfl⟩ := pbin_inv hs
    exact sw_ixor B k
  case ishl =>
    obtain ⟨a, b, r, rfl, rfl⟩ := pbin_inv hs
    exact sw_ishl B k
  case ishr =>
    obtain ⟨a, b, r, rfl, rfl⟩ := pbin_inv hs
    exact sw_ishr B k
  case iushr =>
    obtain ⟨a, b, r, rfl, rfl⟩ := pbin_inv hs
    exact sw_iushr B k
  case idiv =>
    have hs : pdiv (fun a b => a / b) i L st h = some σ := hs
    unfold pdiv at hs
    split at hs
    · split at hs
      · cases hs
      · rename_i h0
        obtain rfl := pnx_inv hs
        exact sw_idiv B h0 k
    · cases hs
  case irem =>
    have hs : pdiv (fun a b => a - a / b * b) i L st h = some σ := hs
    unfold pdiv at hs
    split at hs
    · split at hs
      · cases hs
      · rename_i h0
        obtain rfl := pnx_inv hs
        exact sw_irem B h0 k
    · cases hs
  case ineg =>
    have hs : puni (fun a => .int (-a)) i L st h = some σ := hs
    unfold puni at hs
    split at hs
    · obtain rfl := pnx_inv hs
      exact sw_ineg B k
    · cases hs
  case i2l =>
    have hs : puni (fun a => .long a.toInt64) i L st h = some σ := hs
    unfold puni at hs
    split at hs
    · obtain rfl := pnx_inv hs
      exact sw_i2l B k
    · cases hs
  case i2s =>
    have hs : puni (fun a => .int a.toInt16.toInt32) i L st h = some σ := hs
    unfold puni at hs
    split at hs
    · obtain rfl := pnx_inv hs
      exact sw_i2s B k
    · cases hs
  case i2c =>
    have hs : puni (fun a => .int (a.toUInt32 % 65536).toInt32) i L st h = some σ := hs
    unfold puni at hs
    split at hs
    · obtain rfl := pnx_inv hs
      exact sw_i2c B k
    · cases hs
  case ladd =>
    have hs : plbin (fun a b => .long (a + b)) i L st h = some σ := hs
    unfold plbin at hs
    split at hs
    · obtain rfl := pnx_inv hs
      exact sw_ladd B k
    · cases hs
  case lcmp =>
    have hs : plbin (fun a b => .int (lg_cmp a b)) i L st h = some σ := hs
    unfold plbin at hs
    split at hs
    · obtain rfl := pnx_inv hs
      exact sw_lcmp B k
    · cases hs
  case dup =>
    have hs : pdup i L st h = some σ := hs
    unfold pdup at hs
    split at hs
    · split at hs
      · rename_i h0
        obtain rfl := pnx_inv hs
        exact sw_dup B h0 k
      · cases hs
    · cases hs
  case dup2 =>
    have hs : pdup2 i L st h = some σ := hs
    unfold pdup2 at hs
    split at hs
    · split at hs
      · rename_i h0
        obtain rfl := pnx_inv hs
        exact sw_dup2 B h0 k
      · cases hs
    · cases hs
  case pop =>
    have hs : ppop i L st h = some σ := hs
    unfold ppop at hs
    split at hs
    · split at hs
      · rename_i h0
        obtain rfl := pnx_inv hs
        exact sw_pop B h0 k
      · cases hs
    · cases hs
  case goto z =>
    obtain rfl : σ = (x, L, st, h, 0, 0) := (Option.some.inj hs).symm
    exact sw_goto B k
  case ifCond k0 z =>
    have hs : pif1 k0 x i L st h = some σ := hs
    unfold pif1 at hs
    split at hs
    · obtain rfl := (Option.some.inj hs).symm
      refine sw_ifCond B (fun q => ?_) (fun q => ?_)
      · simp only [q, cond_true] at k
        exact k
      · simp only [q, cond_false] at k
        exact k
    · cases hs
  case if_icmp k0 z =>
    have hs : pif2 k0 x i L st h = some σ := hs
    unfold pif2 at hs
    split at hs
    · obtain rfl := (Option.some.inj hs).symm
      refine sw_if_icmp B (fun q => ?_) (fun q => ?_)
      · simp only [q, cond_true] at k
        exact k
      · simp only [q, cond_false] at k
        exact k
    · cases hs
  case ifnull z =>
    have hs : pifn x i L st h = some σ := hs
    unfold pifn at hs
    split at hs
    · obtain rfl := (Option.some.inj hs).symm
      exact sw_ifnullJ B k
    · obtain rfl := pnx_inv hs
      exact sw_ifnullF B k
    · cases hs
  case ifnonnull z =>
    have hs : pifnn x i L st h = some σ := hs
    unfold pifnn at hs
    split at hs
    · obtain rfl := pnx_inv hs
      exact sw_ifnonnullF B k
    · obtain rfl := (Option.some.inj hs).symm
      exact sw_ifnonnullJ B k
    · cases hs
  case tableswitch dd lo hi os =>
    have hs : pswi (pkeysT lo ts) x i L st h = some σ := hs
    unfold pswi at hs
    split at hs
    · obtain rfl := (Option.some.inj hs).symm
      exact sw_table B k
    · cases hs
  case lookupswitch dd ps =>
    have hs : pswi ((ps.toList.map (fun q => q.1)).zip ts) x i L st h = some σ := hs
    unfold pswi at hs
    split at hs
    · obtain rfl := (Option.some.inj hs).symm
      exact sw_lookup B k
    · cases hs
  case getfield n =>
    have hs : pgetf (pc, .getfield n, x, y, v, ts) i L st h = some σ := hs
    unfold pgetf at hs
    split at hs
    · split at hs
      · rename_i ho
        split at hs
        · rename_i hx1
          split at hs
          · rename_i hw
            obtain rfl := pnx_inv hs
            exact sw_getfield B ho hx1 hw k
          · cases hs
        · cases hs
      · cases hs
    · cases hs
  case putfield n =>
    have hs : pputf (pc, .putfield n, x, y, v, ts) i L st h = some σ := hs
    unfold pputf at hs
    split at hs
    · split at hs
      · rename_i ho
        split at hs
        · rename_i hx1
          split at hs
          · rename_i hf
            obtain rfl := pnx_inv hs
            exact sw_putfield B ho hx1 hf k
          · cases hs
        · cases hs
      · cases hs
    · cases hs
  case iaload =>
    have hs : piald E i L st h = some σ := hs
    unfold piald at hs
    split at hs
    · split at hs
      · rename_i ho
        split at hs
        · rename_i hj
          obtain rfl := pnx_inv hs
          exact sw_iaload B ho hj k
        · cases hs
      · cases hs
    · split at hs
      · rename_i ho
        split at hs
        · rename_i hj
          obtain rfl := pnx_inv hs
          exact sw_ialoadX B ho hj k
        · cases hs
      · cases hs
    · cases hs
  case iastore =>
    have hs : piast i L st h = some σ := hs
    unfold piast at hs
    split at hs
    · split at hs
      · rename_i ho
        split at hs
        · rename_i hj
          obtain rfl := pnx_inv hs
          exact sw_iastore B ho hj k
        · cases hs
      · cases hs
    · cases hs
  case aaload =>
    have hs : paald i L st h = some σ := hs
    unfold paald at hs
    split at hs
    · split at hs
      · rename_i ho
        split at hs
        · rename_i hj
          obtain rfl := pnx_inv hs
          exact sw_aaload B ho hj k
        · cases hs
      · cases hs
    · cases hs
  case aastore =>
    have hs : paast i L st h = some σ := hs
    unfold paast at hs
    split at hs
    · split at hs
      · rename_i ho hb
        split at hs
        · rename_i hx1
          split at hs
          · rename_i hj
            obtain rfl := pnx_inv hs
            exact sw_aastore B ho hb hx1 hj k
          · cases hs
        · cases hs
      · cases hs
    · cases hs
  case arraylength =>
    have hs : palen E i L st h = some σ := hs
    unfold palen at hs
    split at hs
    · split at hs
      · rename_i ho
        obtain rfl := pnx_inv hs
        exact sw_alenI B ho k
      · rename_i ho
        obtain rfl := pnx_inv hs
        exact sw_alenR B ho k
      · cases hs
    · split at hs
      · rename_i ho
        obtain rfl := pnx_inv hs
        exact sw_alenX B ho k
      · cases hs
    · cases hs
  case new n =>
    have hs : pnewc (pc, .new n, x, y, v, ts) i L st h = some σ := hs
    unfold pnewc at hs
    split at hs
    · rename_i hx1
      obtain rfl := (Option.some.inj hs).symm
      exact sw_new B hx1 hc hsl k
    · cases hs
  case newarray n =>
    have hs : pnewa i L st h = some σ := hs
    unfold pnewa at hs
    split at hs
    · split at hs
      · rename_i hj
        obtain rfl := (Option.some.inj hs).symm
        exact sw_newarray B hj hc hsl k
      · cases hs
    · cases hs
  case anewarray n =>
    have hs : pnewq (pc, .anewarray n, x, y, v, ts) i L st h = some σ := hs
    unfold pnewq at hs
    split at hs
    · split at hs
      · rename_i hj
        obtain rfl := (Option.some.inj hs).symm
        exact sw_anewarray B hj.1 hj.2 hc hsl k
      · cases hs
    · cases hs
  case invokestatic n =>
    have hq : pnats (pc, .invokestatic n, x, y, v, ts) i L st h = some σ := hs
    clear hs
    unfold pnats at hq
    split at hq
    · rename_i hx1
      obtain rfl : x = 99990 := hx1
      unfold pm2 at hq
      split at hq
      · split at hq
        · rename_i h8
          obtain rfl := pnx_inv hq
          exact sw_mmax B (hPm _ (by decide)) h8 hR1 hR2 hc hsl k
        · cases hq
      · cases hq
    · split at hq
      · rename_i hx1
        obtain rfl : x = 99991 := hx1
        unfold pm2 at hq
        split at hq
        · split at hq
          · rename_i h8
            obtain rfl := pnx_inv hq
            exact sw_mmin B (hPm _ (by decide)) h8 hR1 hR2 hc hsl k
          · cases hq
        · cases hq
      · split at hq
        · rename_i hx1
          obtain rfl : x = 99992 := hx1
          unfold pm1 at hq
          split at hq
          · split at hq
            · rename_i h8
              obtain rfl := pnx_inv hq
              exact sw_mabs B (hPm _ (by decide)) h8 hR1 hR2 hc hsl k
            · cases hq
          · cases hq
        · unfold pocopy at hq
          split at hq
          · split at hq
            · rename_i hx1
              split at hq
              · rename_i h0 h1
                split at hq
                · rename_i hz
                  obtain rfl := pnx_inv hq
                  exact sw_copy B (hPn _ hx1.1) hx1.1 hx1.2 hR1 hR2 h0 h1 hz k
                · cases hq
              · cases hq
            · cases hq
          · cases hq
  case invokespecial n =>
    have hs : poini (pc, .invokespecial n, x, y, v, ts) i L st h = some σ := hs
    unfold poini at hs
    split at hs
    · split at hs
      · rename_i hx1
        obtain rfl := pnx_inv hs
        exact sw_oini B (hPn _ hx1.1) hx1.2 hR1 hR2 k
      · cases hs
    · cases hs
  all_goals (have hs2 : (none : Option pS) = some σ := hs; cases hs2)
end PWD
