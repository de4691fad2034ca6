/-! ===== two calls of the same arguments, the class's ahead of the reference's: what both answer, what cells stay alike ===== -/
def drL (n : Nat) : List pE := (List.range n).map (fun j => (0, .iload_n 0, j + 2, 0, .null, []))
/-- it answers 1, if both answer the same -/
def drC (k1 k2 n : Nat) : List pE := (0, .aload_n 0, 0, 0, .null, []) :: (drL n ++ ((0, .invokevirtual 0, k1, n, .null, []) :: (0, .aload_n 1, 1, 0, .null, []) :: (drL n ++ [(0, .invokevirtual 0, k2, n, .null, []), (0, .if_icmp .eq 0, 2 * n + 7, 0, .null, []), (0, .iconst 0, 0, 0, .int 0, []), (0, .ireturn, 0, 0, .null, []), (0, .iconst 1, 0, 0, .int 1, []), (0, .ireturn, 0, 0, .null, [])])))
/-- what they answer is left aside -/
def drD (k1 k2 n : Nat) : List pE := (0, .aload_n 0, 0, 0, .null, []) :: (drL n ++ ((0, .invokevirtual 0, k1, n, .null, []) :: (0, .istore_n 0, n + 2, 0, .null, []) :: (0, .aload_n 1, 1, 0, .null, []) :: (drL n ++ [(0, .invokevirtual 0, k2, n, .null, []), (0, .istore_n 0, n + 2, 0, .null, []), (0, .iconst 1, 0, 0, .int 1, []), (0, .ireturn, 0, 0, .null, [])])))
def drM (k1 k2 n : Nat) : pM := (m_y mX7_tell, m_b mX7_tell, n + 2, some .int, 0, 7, drC k1 k2 n)
def drN (k1 k2 n : Nat) : pM := (m_y mX7_tell, m_b mX7_tell, n + 3, some .int, 0, 7, drD k1 k2 n)
section INV
variable {P : List pM} {E : pX} {V : pV} {d : Nat} {M N : pM} {i i' : Nat} {L L' : pL} {st st' : List Value} {h h' h2 : List pC} {r : Option Value} {res : pR}
theorem RA.ret_inv {t : pE} (he : (m_code M)[i]? = some t) (hr : pret M t st = some r) (hx : RA P E V (d + 1) M i L st h res) : res = (r, h, 0, 0) := by
  obtain ⟨f, hf⟩ := hx
  cases f with
  | zero => cases hf
  | succ f =>
    rw [pexec, he] at hf
    dsimp only at hf
    rw [hr] at hf
    cases hf
    rfl
theorem RA.steps_inv : ∀ (n : Nat) {i : Nat} {L : pL} {st : List Value} {h : List pC}, psteps P E M n i L st h = some (i', L', st', h') → RA P E V (d + 1) M i L st h res → RA P E V (d + 1) M i' L' st' h' res
  | 0, i, L, st, h, hs, k => by cases hs; exact k
  | n + 1, i, L, st, h, hs, k => by
    rw [psteps] at hs
    split at hs
    · rename_i t he
      split at hs
      · rename_i hr hc hps
        refine RA.steps_inv n hs ?_
        obtain ⟨f, hf⟩ := k
        cases f with
        | zero => cases hf
        | succ f =>
          rw [pexec, he] at hf
          dsimp only at hf
          rw [hr] at hf
          dsimp only at hf
          rw [hc] at hf
          dsimp only at hf
          rw [hps] at hf
          dsimp only at hf
          split at hf
          · rename_i h5
            cases hf
            rename_i r2 g2 k2 n2 _
            refine ⟨f, ?_⟩
            rw [h5, Nat.zero_add, Nat.zero_add]
          · cases hf
      · cases hs
    · cases hs
theorem RA.callv_inv {pc nn x y b : Nat} {v : Value} {ts : List Nat} {rest : List Value} (he : (m_code M)[i]? = some (pc, .invokevirtual nn, x, y, v, ts)) (hN : P[x]? = some N) (hc : m_code N ≠ []) (hd : st.drop y = .ref b :: rest) (hx : RA P E V (d + 1) M i L st h (r, h2, 0, 0)) :
    ∃ r1 h1, Run P E V d N (.ref b :: (st.take y).reverse) h (r1, h1, 0, 0) ∧ RA P E V (d + 1) M (i + 1) L (r1.toList ++ rest) h1 (r, h2, 0, 0) ∧ ∃ o, pobj h b = some o ∧ o.1 = m_c N := by
  obtain ⟨f, hf⟩ := hx
  cases f with
  | zero => cases hf
  | succ f =>
    rw [pexec, he] at hf
    dsimp only at hf
    rw [show pret M (pc, .invokevirtual nn, x, y, v, ts) st = none from rfl] at hf
    dsimp only at hf
    have hp : pcall P (pc, .invokevirtual nn, x, y, v, ts) st h = (match pobj h b with
      | some o => if m_k N = 1 ∧ o.1 = m_c N ∧ pcs rest ≤ 8 then some (N, .ref b :: (st.take y).reverse, rest) else none
      | none => none) := by
      unfold pcall
      dsimp only [e_in, e_x, e_y]
      rw [hN]
      dsimp only
      rw [hd]
      rfl
    have hn : ∀ w, (match pstep E (pc, .invokevirtual nn, x, y, v, ts) i L st h with
      | some (i', L', st', h', dk, dn) => match pexec P E V f (d + 1) M i' L' st' h' with
        | some (r2, h2, k2, n2) => some (r2, h2, dk + k2, dn + n2)
        | none => none
      | none => none) = some w → False := by
      intro w hw
      rw [show pstep E (pc, .invokevirtual nn, x, y, v, ts) i L st h = none from rfl] at hw
      cases hw
    cases ho : pobj h b with
    | none =>
      rw [hp, ho] at hf
      exact (hn _ hf).elim
    | some o =>
      rw [hp, ho] at hf
      dsimp only at hf
      by_cases hq : m_k N = 1 ∧ o.1 = m_c N ∧ pcs rest ≤ 8
      · rw [if_pos hq] at hf
        dsimp only at hf
        cases hcode : m_code N with
        | nil => exact absurd hcode hc
        | cons u us =>
          rw [hcode] at hf
          dsimp only at hf
          split at hf
          · rename_i hl
            cases h1 : pexec P E V f d N 0 (pent (m_l N) (.ref b :: (st.take y).reverse)) [] h with
            | none => rw [h1] at hf; cases hf
            | some w =>
              obtain ⟨r1, g1, k1, n1⟩ := w
              rw [h1] at hf
              dsimp only at hf
              cases h3 : pexec P E V f (d + 1) M (i + 1) L (r1.toList ++ rest) g1 with
              | none => rw [h3] at hf; cases hf
              | some w =>
                obtain ⟨r2, g2, k2, n2⟩ := w
                rw [h3] at hf
                dsimp only at hf
                have hf := Option.some.inj hf
                have e1 := (Prod.mk.inj hf).1
                have e2 := (Prod.mk.inj (Prod.mk.inj hf).2).1
                have e3 := (Prod.mk.inj (Prod.mk.inj (Prod.mk.inj hf).2).2).1
                have e4 := (Prod.mk.inj (Prod.mk.inj (Prod.mk.inj hf).2).2).2
                obtain ⟨rfl, rfl⟩ : k1 = 0 ∧ k2 = 0 := by omega
                obtain ⟨rfl, rfl⟩ : n1 = 0 ∧ n2 = 0 := by omega
                subst e1
                subst e2
                exact ⟨r1, g1, ⟨hl, ⟨u, us, hcode⟩, f, h1⟩, ⟨f, h3⟩, o, rfl, hq.2.1⟩
          · cases hf
      · rw [if_neg hq] at hf
        exact (hn _ hf).elim
theorem pif2_inv {k0 : ClassFile.Cond} {x : Nat} {w : pS} (hq : pif2 k0 x i L st h = some w) : ∃ (a b : Int32) (rest : List Value), st = .int b :: .int a :: rest := by
  unfold pif2 at hq
  split at hq
  · exact ⟨_, _, _, rfl⟩
  · cases hq
theorem pstI_inv {t : pE} {w : pS} (hq : psti t i L st h = some w) : ∃ (a : Int32) (rest : List Value), st = .int a :: rest := by
  unfold psti at hq
  split at hq
  · exact ⟨_, _, rfl⟩
  · cases hq
theorem RA.if2_inv {k0 : ClassFile.Cond} {z : Int} {pc x y : Nat} {v : Value} {ts : List Nat} (he : (m_code M)[i]? = some (pc, .if_icmp k0 z, x, y, v, ts)) (hx : RA P E V (d + 1) M i L st h res) : ∃ (a b : Int32) (rest : List Value), st = .int b :: .int a :: rest ∧ RA P E V (d + 1) M (cond (pc2 k0 a b) x (i + 1)) L rest h res := by
  have hs : ∃ (a b : Int32) (rest : List Value), st = .int b :: .int a :: rest := by
    obtain ⟨f, hf⟩ := hx
    cases f with
    | zero => cases hf
    | succ f =>
      rw [pexec, he] at hf
      dsimp only at hf
      rw [show pret M (pc, .if_icmp k0 z, x, y, v, ts) st = none from rfl] at hf
      dsimp only at hf
      rw [show pcall P (pc, .if_icmp k0 z, x, y, v, ts) st h = none from rfl] at hf
      dsimp only at hf
      rw [show pstep E (pc, .if_icmp k0 z, x, y, v, ts) i L st h = pif2 k0 x i L st h from rfl] at hf
      cases hq : pif2 k0 x i L st h with
      | none => rw [hq] at hf; cases hf
      | some w => exact pif2_inv hq
  obtain ⟨a, b, rest, rfl⟩ := hs
  refine ⟨a, b, rest, rfl, RA.steps_inv 1 ?_ hx⟩
  rw [psteps, he]
  rfl
theorem RA.isto_inv {pc x y : Nat} {nn : Fin 4} {v : Value} {ts : List Nat} (he : (m_code M)[i]? = some (pc, .istore_n nn, x, y, v, ts)) (hx : RA P E V (d + 1) M i L st h res) : ∃ (a : Int32) (rest : List Value), st = .int a :: rest ∧ ∀ L', pset L x (.int a) = some L' → RA P E V (d + 1) M (i + 1) L' rest h res := by
  have hs : ∃ (a : Int32) (rest : List Value), st = .int a :: rest := by
    obtain ⟨f, hf⟩ := hx
    cases f with
    | zero => cases hf
    | succ f =>
      rw [pexec, he] at hf
      dsimp only at hf
      rw [show pret M (pc, .istore_n nn, x, y, v, ts) st = none from rfl] at hf
      dsimp only at hf
      rw [show pcall P (pc, .istore_n nn, x, y, v, ts) st h = none from rfl] at hf
      dsimp only at hf
      rw [show pstep E (pc, .istore_n nn, x, y, v, ts) i L st h = psti (pc, .istore_n nn, x, y, v, ts) i L st h from rfl] at hf
      cases hq : psti (pc, .istore_n nn, x, y, v, ts) i L st h with
      | none => rw [hq] at hf; cases hf
      | some w => exact pstI_inv hq
  obtain ⟨a, rest, rfl⟩ := hs
  refine ⟨a, rest, rfl, fun L' hL => RA.steps_inv 1 ?_ hx⟩
  rw [psteps, he]
  dsimp only
  rw [show pstep E (pc, .istore_n nn, x, y, v, ts) i L (.int a :: rest) h = psto (pset L x (.int a)) i rest h from rfl, hL]
  rfl
end INV
/-! cells that are alike: kind, cell, place of the one and of the other, between which two -/
abbrev pq : Type := (Nat × Nat × Nat) × (Nat × Nat × Nat) × Int × Int
def pRel (R : List pq) (h : List pC) : Prop := ∀ q ∈ R, ri h q.1.2.1 q.1.2.2 = ri h q.2.1.2.1 q.2.1.2.2
def pTy (q : pq) : Bool := match elT HT q.1.1 q.1.2.1 q.1.2.2 q.1.2.2, elT HT q.2.1.1 q.2.1.2.1 q.2.1.2.2 q.2.1.2.2 with
  | some (.inl p1), some (.inl p2) => decide (q.2.2.1 ≤ max p1.1 p2.1) && decide (min p1.2 p2.2 ≤ q.2.2.2)
  | _, _ => false
def pTi (q : pq) : Bool := match elT HT q.1.1 q.1.2.1 q.1.2.2 q.1.2.2, elT HT q.2.1.1 q.2.1.2.1 q.2.1.2.2 q.2.1.2.2 with
  | some (.inl _), some (.inl _) => true
  | _, _ => false
/-- what the cells hold is between two -/
def pBd (R : List pq) (h : List pC) : Prop := ∀ q ∈ R, q.2.2.1 ≤ (ri h q.1.2.1 q.1.2.2).toInt ∧ (ri h q.1.2.1 q.1.2.2).toInt ≤ q.2.2.2
def bxG : List Int32 → List (Int × Int) → Prop
  | [], [] => True
  | x :: xs, b :: bs => (b.1 ≤ x.toInt ∧ x.toInt ≤ b.2) ∧ bxG xs bs
  | _, _ => False
def pσ (xs : List Int32) (R : List pq) (h : List pC) : Nat → Int := fun t => match t with
  | 0 => 77777
  | t + 1 => match xs[t]? with
    | some x => x.toInt
    | none => match R[t - xs.length]? with
      | some q => (ri h q.1.2.1 q.1.2.2).toInt
      | none => 0
/-- the first symbol is a sign for the walker -/
def gQ (bx : List (Int × Int)) (R : List pq) : aG := .inl (77777, 77777) :: (bx.map .inl ++ R.map (fun q => .inl (q.2.2.1, q.2.2.2)))
def cQ : Nat → List pq → aC
  | _, [] => []
  | j, q :: r => (rf5 q.1.2.1, cn (q.1.2.2 : Int), if q.2.2.1 = q.2.2.2 then cn q.2.2.1 else (1, 1, 0, j)) :: (rf5 q.2.1.2.1, cn (q.2.1.2.2 : Int), if q.2.2.1 = q.2.2.2 then cn q.2.2.1 else (1, 1, 0, j)) :: cQ (j + 1) r
def aQ : Nat → List (Int × Int) → List AV
  | _, [] => []
  | j, b :: r => (if b.1 = b.2 then cn b.1 else (1, 1, 0, j)) :: aQ (j + 1) r
/-- cells that are alike while another one is between two: that one, the two, the pair -/
abbrev cq : Type := (Nat × Nat × Nat) × Int × Int × pq
def cRel (R : List cq) (h : List pC) : Prop := ∀ c ∈ R, c.2.1 ≤ (ri h c.1.2.1 c.1.2.2).toInt → (ri h c.1.2.1 c.1.2.2).toInt ≤ c.2.2.1 → ri h c.2.2.2.1.2.1 c.2.2.2.1.2.2 = ri h c.2.2.2.2.1.2.1 c.2.2.2.2.1.2.2
def sameQ (z q : pq) : Bool := decide (z.1 = q.1) && decide (z.2.1 = q.2.1)
def knC (R' : List pq) (c : cq) : Bool := R'.any (fun z => decide (z.1 = c.1) && decide (c.2.1 ≤ z.2.2.1) && decide (z.2.2.2 ≤ c.2.2.1))
/-- what is known of the cells is out of what is alike -/
def knQ (R : List pq) (CR : List cq) (R' : List pq) : Bool := R'.all (fun q => R.any (fun z => sameQ z q) || CR.any (fun c => sameQ c.2.2.2 q && knC R' c))
section PQ
variable {h h' : List pC} {R R' : List pq} {xs : List Int32} {bx : List (Int × Int)} {W : aW}
theorem ri_ty {k a i : Nat} {p : Int × Int} (hh : HI HT h) (he : elT HT k a i i = some (.inl p)) : ct h a i = some (.int (ri h a i)) ∧ p.1 ≤ (ri h a i).toInt ∧ (ri h a i).toInt ≤ p.2 := by
  obtain ⟨c, w, -, -, hc, hw⟩ := elT_ok hh he (Int.le_refl _) (Int.le_refl _)
  obtain ⟨v, rfl, h1, h2⟩ := hw
  have e : ri h a i = v := by unfold ri; rw [hc]
  rw [e]
  exact ⟨hc, h1, h2⟩
theorem pq_ti {q : pq} (hh : HI HT h) (hr : ri h q.1.2.1 q.1.2.2 = ri h q.2.1.2.1 q.2.1.2.2) (ht : pTi q = true) : ct h q.1.2.1 q.1.2.2 = some (.int (ri h q.1.2.1 q.1.2.2)) ∧ ct h q.2.1.2.1 q.2.1.2.2 = some (.int (ri h q.1.2.1 q.1.2.2)) := by
  unfold pTi at ht
  split at ht
  · rename_i p1 p2 e1 e2
    obtain ⟨a1, -⟩ := ri_ty hh e1
    obtain ⟨b1, -⟩ := ri_ty hh e2
    rw [← hr] at b1
    exact ⟨a1, b1⟩
  · cases ht
theorem pBd_ty {R : List pq} (hh : HI HT h) (hR : pRel R h) (ht : R.all pTy = true) : pBd R h := fun q hq => by
  have h1 := List.all_eq_true.mp ht q hq
  have hr := hR q hq
  unfold pTy at h1
  split at h1
  · rename_i p1 p2 e1 e2
    rw [Bool.and_eq_true] at h1
    have t1 := of_decide_eq_true h1.1
    have t2 := of_decide_eq_true h1.2
    obtain ⟨-, a2, a3⟩ := ri_ty hh e1
    obtain ⟨-, b2, b3⟩ := ri_ty hh e2
    rw [← hr] at b2 b3
    exact ⟨Int.le_trans t1 (Int.max_le.mpr ⟨a2, b2⟩), Int.le_trans (Int.le_min.mpr ⟨a3, b3⟩) t2⟩
  · cases h1
theorem pBd.nl : pBd [] h := fun q hq => by cases hq
theorem pBd.cs {q : pq} {r : List pq} (h1 : q.2.2.1 ≤ (ri h q.1.2.1 q.1.2.2).toInt) (h2 : (ri h q.1.2.1 q.1.2.2).toInt ≤ q.2.2.2) (h3 : pBd r h) : pBd (q :: r) h := fun z hz => by
  rcases List.mem_cons.mp hz with rfl | hz
  · exact ⟨h1, h2⟩
  · exact h3 z hz
theorem bxG.len : ∀ {xs : List Int32} {bx : List (Int × Int)}, bxG xs bx → xs.length = bx.length
  | [], [], _ => rfl
  | _ :: _, _ :: _, h => by rw [List.length_cons, List.length_cons, bxG.len h.2]
  | [], _ :: _, h => h.elim
  | _ :: _, [], h => h.elim
theorem bxG.at : ∀ {xs : List Int32} {bx : List (Int × Int)} {k : Nat} {b : Int × Int}, bxG xs bx → bx[k]? = some b → ∃ x, xs[k]? = some x ∧ b.1 ≤ x.toInt ∧ x.toInt ≤ b.2
  | x :: _, _ :: _, 0, _, h, hk => by cases hk; exact ⟨x, rfl, h.1⟩
  | _ :: xs, _ :: bx, k + 1, _, h, hk => bxG.at (xs := xs) (bx := bx) (k := k) h.2 hk
  | [], [], _, _, _, hk => by simp at hk
  | [], _ :: _, _, _, h, _ => h.elim
  | _ :: _, [], _, _, h, _ => h.elim
theorem pσ_x {k : Nat} {x : Int32} (hk : xs[k]? = some x) : pσ xs R h (k + 1) = x.toInt := by
  unfold pσ
  dsimp only
  rw [hk]
theorem pσ_q {k : Nat} {q : pq} (hk : R[k]? = some q) : pσ xs R h (xs.length + k + 1) = (ri h q.1.2.1 q.1.2.2).toInt := by
  unfold pσ
  dsimp only
  rw [List.getElem?_eq_none (Nat.le_add_right _ _), Nat.add_sub_cancel_left, hk]
theorem gQ_len : (gQ bx R).length = bx.length + R.length + 1 := by
  unfold gQ
  rw [List.length_cons, List.length_append, List.length_map, List.length_map]
theorem gQ_ok (hB : pBd R h) (hb : bxG xs bx) : gok (pσ xs R h) (gQ bx R) := fun k e hk => by
  unfold gQ at hk
  cases k with
  | zero => cases hk; exact ⟨Int.le_refl 77777, Int.le_refl 77777⟩
  | succ k =>
    rw [List.getElem?_cons_succ] at hk
    by_cases hl : k < bx.length
    · rw [List.getElem?_append_left (by rw [List.length_map]; exact hl), List.getElem?_map] at hk
      obtain ⟨b, hb1, rfl⟩ := Option.map_eq_some_iff.mp hk
      obtain ⟨x, hx, h1, h2⟩ := hb.at hb1
      rw [pσ_x hx]
      exact ⟨h1, h2⟩
    · rw [List.getElem?_append_right (by rw [List.length_map]; omega), List.length_map, List.getElem?_map] at hk
      obtain ⟨q, hq, rfl⟩ := Option.map_eq_some_iff.mp hk
      have hm := List.mem_of_getElem? hq
      have e := pσ_q (xs := xs) (h := h) hq
      rw [hb.len, show bx.length + (k - bx.length) + 1 = k + 1 by omega] at e
      rw [e]
      exact hB q hm
theorem cQ_ok {n : Nat} {σ : Nat → Int} (hh : HI HT h) : ∀ (R : List pq) (j : Nat), pRel R h → R.all pTi = true → pBd R h → (∀ (m : Nat) (q : pq), R[m]? = some q → j + m < n ∧ σ (j + m) = (ri h q.1.2.1 q.1.2.2).toInt) → cok n σ h (cQ j R)
  | [], _, _, _, _, _ => fun e he => by cases he
  | q :: r, j, hR, hT, hB, hs => by
    rw [List.all_cons, Bool.and_eq_true] at hT
    obtain ⟨s1, s2⟩ := hs 0 q rfl
    obtain ⟨t1, t2⟩ := pq_ti hh (hR q List.mem_cons_self) hT.1
    have ih := cQ_ok hh r (j + 1) (fun z hz => hR z (List.mem_cons_of_mem _ hz)) hT.2 (fun z hz => hB z (List.mem_cons_of_mem _ hz)) (fun m z hz => by
      have := hs (m + 1) z hz
      rw [show j + 1 + m = j + (m + 1) by omega]
      exact this)
    have hv : vG n σ (.int (ri h q.1.2.1 q.1.2.2)) (if q.2.2.1 = q.2.2.2 then cn q.2.2.1 else (1, 1, 0, j)) := by
      split
      · rename_i e
        obtain ⟨b1, b2⟩ := hB q List.mem_cons_self
        refine ⟨Nat.zero_le 1, ?_⟩
        rw [show (ri h q.1.2.1 q.1.2.2).toInt = q.2.2.1 by omega]
        exact cnZ _
      · exact ⟨Nat.le_refl 1, zG.mk (by decide) (by rw [← s2, Nat.add_zero]; omega) s1⟩
    intro e he
    rw [cQ] at he
    rcases List.mem_cons.mp he with rfl | he
    · exact ⟨_, _, _, Or.inl ⟨rfl, rfl⟩, cnZ _, t1, hv⟩
    · rcases List.mem_cons.mp he with rfl | he
      · exact ⟨_, _, _, Or.inl ⟨rfl, rfl⟩, cnZ _, t2, hv⟩
      · exact ih e he
theorem aQ_ok {n : Nat} {σ : Nat → Int} {tl : pL} {ta : aL} : ∀ {xs : List Int32} {bx : List (Int × Int)} (j : Nat), bxG xs bx → (∀ (m : Nat) (x : Int32), xs[m]? = some x → j + m < n ∧ σ (j + m) = x.toInt) → LG n σ tl ta → LG n σ (xs.map (fun x => some (.int x)) ++ tl) (aQ j bx ++ ta)
  | [], [], _, _, _, ht => ht
  | x :: xs, b :: bx, j, hb, hs, ht => by
    obtain ⟨s1, s2⟩ := hs 0 x rfl
    have ih := aQ_ok (xs := xs) (bx := bx) (j + 1) hb.2 (fun m z hz => by
      have := hs (m + 1) z hz
      rw [show j + 1 + m = j + (m + 1) by omega]
      exact this) ht
    rw [aQ, List.map_cons, List.cons_append, List.cons_append]
    refine LG.cons (lG.of rfl ?_) ih
    split
    · rename_i e
      refine ⟨Nat.zero_le 1, ?_⟩
      have h1 := hb.1.1
      have h2 := hb.1.2
      rw [show x.toInt = b.1 by omega]
      exact cnZ _
    · exact ⟨Nat.le_refl 1, zG.mk (by decide) (by rw [← s2, Nat.add_zero]; omega) s1⟩
  | [], _ :: _, _, h, _, _ => h.elim
  | _ :: _, [], _, h, _, _ => h.elim
def unt (W : aW) (q : pq) : Bool := !inW W q.1.2.1 q.1.2.2 && !inW W q.2.1.2.1 q.2.1.2.2
def eqC (C : aC) (q : pq) : Bool := match cfind C (rf5 q.1.2.1) (cn (q.1.2.2 : Int)), cfind C (rf5 q.2.1.2.1) (cn (q.2.1.2.2 : Int)) with
  | some v, some w => decide (v = w) && det v && decide (v.1 ≤ 1)
  | _, _ => false
/-- behind the calls the cells are alike again -/
def ecR (R : List pq) (CR : List cq) (R' : List pq) (W : aW) (Γ : aG) (C : aC) : Bool := R.all (fun q => unt W q || eqC C q) && CR.all (fun c => (unt W c.2.2.2 && (!inW W c.1.2.1 c.1.2.2 || knC R' c)) || eqC C c.2.2.2 || (match cfind C (rf5 c.1.2.1) (cn (c.1.2.2 : Int)) with
  | some v => decide (v.1 ≤ 1) && (match ivl Γ v with
    | some p => decide (p.2 < c.2.1) || decide (c.2.2.1 < p.1)
    | none => false)
  | none => false))
theorem ck_ri {n a i : Nat} {σ : Nat → Int} {C : aC} {v : AV} (hC : cok n σ h C) (hc : cfind C (rf5 a) (cn (i : Int)) = some v) (h1 : v.1 ≤ 1) : zG n σ (ri h a i).toInt v := by
  obtain ⟨e, he, e1, e2, rfl⟩ := cfind_mem hc
  obtain ⟨a', i', w, k1, k2, k3, k4⟩ := hC e he
  rw [e1] at k1
  rw [e2] at k2
  obtain rfl : a' = a := ref_one k1 (n := n) (σ := σ) (x := rf5 a) (Or.inl ⟨rfl, rfl⟩)
  have : (i' : Int) = i := det_ok (by unfold det cn; simp) k2 (cnZ (i : Int))
  obtain rfl : i' = i := by omega
  obtain ⟨u, rfl, hz⟩ := k4.int h1
  unfold ri
  rw [k3]
  exact hz
theorem unt_ok {q : pq} (hf : Fr W h h') (h1 : unt W q = true) : ri h' q.1.2.1 q.1.2.2 = ri h q.1.2.1 q.1.2.2 ∧ ri h' q.2.1.2.1 q.2.1.2.2 = ri h q.2.1.2.1 q.2.1.2.2 := by
  unfold unt at h1
  rw [Bool.and_eq_true] at h1
  have n1 : inW W q.1.2.1 q.1.2.2 = false := by simpa using h1.1
  have n2 : inW W q.2.1.2.1 q.2.1.2.2 = false := by simpa using h1.2
  exact ⟨ri_fr hf n1, ri_fr hf n2⟩
theorem eqC_ok {n : Nat} {σ : Nat → Int} {C : aC} {q : pq} (hp : cok n σ h' C) (h1 : eqC C q = true) : ri h' q.1.2.1 q.1.2.2 = ri h' q.2.1.2.1 q.2.1.2.2 := by
  unfold eqC at h1
  split at h1
  · rename_i v w hv hw
    rw [Bool.and_eq_true, Bool.and_eq_true] at h1
    obtain ⟨⟨rfl, d1⟩, d2⟩ : (v = w ∧ det v = true) ∧ v.1 ≤ 1 := ⟨⟨of_decide_eq_true h1.1.1, h1.1.2⟩, of_decide_eq_true h1.2⟩
    exact Int32.toInt_inj.mp (det_ok d1 (ck_ri hp hv d2) (ck_ri hp hw d2))
  · cases h1
theorem knC_ok {c : cq} (hB : pBd R' h) (hk : knC R' c = true) : c.2.1 ≤ (ri h c.1.2.1 c.1.2.2).toInt ∧ (ri h c.1.2.1 c.1.2.2).toInt ≤ c.2.2.1 := by
  obtain ⟨z, hz, e2⟩ := List.any_eq_true.mp hk
  simp only [Bool.and_eq_true, decide_eq_true_eq] at e2
  obtain ⟨⟨e3, e4⟩, e5⟩ := e2
  have hb := hB z hz
  rw [e3] at hb
  exact ⟨Int.le_trans e4 hb.1, Int.le_trans hb.2 e5⟩
theorem ecR_ok {σ : Nat → Int} {Γ : aG} {C : aC} {CR : List cq} (hR : pRel R h) (hC : cRel CR h) (hB : pBd R' h) (hf : Fr W h h') (hg : gok σ Γ) (hp : cok Γ.length σ h' C) (he : ecR R CR R' W Γ C = true) : pRel R h' ∧ cRel CR h' := by
  unfold ecR at he
  rw [Bool.and_eq_true] at he
  refine ⟨fun q hq => ?_, fun c hc b1 b2 => ?_⟩
  · have h1 := List.all_eq_true.mp he.1 q hq
    rw [Bool.or_eq_true] at h1
    rcases h1 with h1 | h1
    · obtain ⟨e1, e2⟩ := unt_ok hf h1
      rw [e1, e2]
      exact hR q hq
    · exact eqC_ok hp h1
  · have h1 := List.all_eq_true.mp he.2 c hc
    rw [Bool.or_eq_true, Bool.or_eq_true] at h1
    rcases h1 with (h1 | h1) | h1
    · rw [Bool.and_eq_true, Bool.or_eq_true] at h1
      obtain ⟨e1, e2⟩ := unt_ok hf h1.1
      rw [e1, e2]
      rcases h1.2 with h2 | h2
      · have n1 : inW W c.1.2.1 c.1.2.2 = false := by simpa using h2
        rw [ri_fr hf n1] at b1 b2
        exact hC c hc b1 b2
      · obtain ⟨k1, k2⟩ := knC_ok hB h2
        exact hC c hc k1 k2
    · exact eqC_ok hp h1
    · split at h1
      · rename_i v hv
        rw [Bool.and_eq_true] at h1
        have hz := ck_ri hp hv (of_decide_eq_true h1.1)
        have h2 := h1.2
        split at h2
        · rename_i p hpv
          have hi := ivl_ok hg hz hpv
          simp only [Bool.or_eq_true, decide_eq_true_eq] at h2
          omega
        · cases h2
      · cases h1
/-- a call that does not write there -/
theorem pRel_fr (hR : pRel R h) (hf : Fr W h h') (he : R.all (unt W) = true) : pRel R h' := fun q hq => by
  obtain ⟨e1, e2⟩ := unt_ok hf (List.all_eq_true.mp he q hq)
  rw [e1, e2]
  exact hR q hq
theorem cRel_fr {CR : List cq} (hC : cRel CR h) (hf : Fr W h h') (he : CR.all (fun c => unt W c.2.2.2 && !inW W c.1.2.1 c.1.2.2) = true) : cRel CR h' := fun c hc b1 b2 => by
  have h1 := List.all_eq_true.mp he c hc
  rw [Bool.and_eq_true] at h1
  obtain ⟨e1, e2⟩ := unt_ok hf h1.1
  have n1 : inW W c.1.2.1 c.1.2.2 = false := by simpa using h1.2
  rw [ri_fr hf n1] at b1 b2
  rw [e1, e2]
  exact hC c hc b1 b2
/-- what is known of the way here can't be -/
def lnA (x : AV) : Int × Nat := if x.1 % 2 = 1 then (x.2.1, x.2.2.2) else (0, 0)
def lnC (x : AV) : Int := if x.1 % 2 = 1 then x.2.2.1 else x.2.1
abbrev lF : Type := Nat × (Int × Nat) × (Int × Nat) × Int
def mir (r : Nat) : Nat := match r with
  | 0 => 2
  | 1 => 3
  | 2 => 0
  | 3 => 1
  | r => r
def lnF (f : Nat × AV × AV × AV) : List lF := if f.1 < 6 ∧ det f.2.1 = true ∧ det f.2.2.1 = true then [(f.1, lnA f.2.1, lnA f.2.2.1, lnC f.2.1 - lnC f.2.2.1), (mir f.1, lnA f.2.2.1, lnA f.2.1, lnC f.2.2.1 - lnC f.2.1)] else []
def cn2 (f g : lF) : Bool := decide (f.2.1 = g.2.1) && decide (f.2.2.1 = g.2.2.1) && ((decide (f.1 = 0) || decide (f.1 = 1) || decide (f.1 = 4)) && (decide (g.1 = 2) || decide (g.1 = 3) || decide (g.1 = 4)) && decide (-f.2.2.2 - (if f.1 = 0 then 1 else 0) < -g.2.2.2 + (if g.1 = 2 then 1 else 0)) || (decide (f.1 = 4) && decide (g.1 = 5) && decide (f.2.2.2 = g.2.2.2)))
def relB (r : Nat) (c : Int) : Bool := match r with
  | 0 => decide (c < 0)
  | 1 => decide (c ≤ 0)
  | 2 => decide (0 < c)
  | 3 => decide (0 ≤ c)
  | 4 => decide (c = 0)
  | _ => decide (¬ c = 0)
def slf (f : lF) : Bool := decide (f.2.1 = f.2.2.1) && !relB f.1 f.2.2.2
def ctr (Δ : aD) : Bool := (Δ.flatMap lnF).any (fun f => slf f || (Δ.flatMap lnF).any (cn2 f))
def lnG (σ : Nat → Int) (f : lF) : Prop := rel f.1 (f.2.1.1 * σ f.2.1.2 - f.2.2.1.1 * σ f.2.2.1.2 + f.2.2.2) 0
theorem zG_ln {n : Nat} {σ : Nat → Int} {z : Int} {x : AV} (hd : det x = true) (hz : zG n σ z x) : z = (lnA x).1 * σ (lnA x).2 + lnC x := by
  unfold zG at hz
  unfold lnA lnC
  unfold det at hd
  simp only [Bool.or_eq_true, decide_eq_true_eq] at hd
  split at hz
  · rename_i h0
    rw [if_neg (by omega), if_neg (by omega)]
    show z = 0 * σ 0 + x.2.1
    omega
  · rename_i h0
    rw [if_pos (by omega), if_pos (by omega)]
    exact hz.1
theorem rel_mv {a b : Int} {c : Int} : ∀ r : Nat, rel r a b → a - b = c → rel r c 0
  | 0, h, e => by have h : a < b := h; show c < 0; omega
  | 1, h, e => by have h : a ≤ b := h; show c ≤ 0; omega
  | 2, h, e => by have h : b < a := h; show 0 < c; omega
  | 3, h, e => by have h : b ≤ a := h; show 0 ≤ c; omega
  | 4, h, e => by have h : a = b := h; show c = 0; omega
  | r + 5, h, e => by have h : ¬ a = b := h; show ¬ c = 0; omega
theorem rel_mir {a b : Int} : ∀ r : Nat, rel r a b → rel (mir r) b a
  | 0, h => by have h : a < b := h; show a < b; exact h
  | 1, h => by have h : a ≤ b := h; show a ≤ b; exact h
  | 2, h => by have h : b < a := h; show b < a; exact h
  | 3, h => by have h : b ≤ a := h; show b ≤ a; exact h
  | 4, h => by have h : a = b := h; show b = a; exact h.symm
  | r + 5, h => by have h : ¬ a = b := h; show ¬ b = a; exact fun e => h e.symm
theorem lnF_ok {n : Nat} {σ : Nat → Int} {Δ : aD} (hf : fok n σ Δ) : ∀ f ∈ Δ.flatMap lnF, lnG σ f := fun f hm => by
  obtain ⟨g, hg, h1⟩ := List.mem_flatMap.mp hm
  unfold lnF at h1
  split at h1
  · rename_i hc
    have h2 := hf g hg
    unfold fcG at h2
    rw [if_pos (by omega)] at h2
    obtain ⟨a, b, a1, a2, a3⟩ := h2
    have e1 := zG_ln hc.2.1 a1
    have e2 := zG_ln hc.2.2 a2
    rcases List.mem_cons.mp h1 with rfl | h1
    · exact rel_mv _ a3 (by dsimp only; omega)
    · obtain rfl := List.mem_singleton.mp h1
      exact rel_mv _ (rel_mir _ a3) (by dsimp only; omega)
  · cases h1
theorem cn2_no {σ : Nat → Int} {f g : lF} (hf : lnG σ f) (hg : lnG σ g) (hc : cn2 f g = true) : False := by
  obtain ⟨r1, k1, k2, c1⟩ := f
  obtain ⟨r2, l1, l2, c2⟩ := g
  unfold cn2 at hc
  unfold lnG at hf hg
  dsimp only at hc hf hg
  rw [Bool.and_eq_true, Bool.and_eq_true, Bool.or_eq_true] at hc
  obtain ⟨⟨e1, e2⟩, hc⟩ := hc
  obtain rfl := of_decide_eq_true e1
  obtain rfl := of_decide_eq_true e2
  generalize k1.1 * σ k1.2 - k2.1 * σ k2.2 = K at hf hg
  rcases hc with hc | hc
  · rw [Bool.and_eq_true, Bool.and_eq_true] at hc
    obtain ⟨⟨u1, u2⟩, u3⟩ := hc
    simp only [Bool.or_eq_true, decide_eq_true_eq] at u1 u2 u3
    have hu : K ≤ -c1 - (if r1 = 0 then 1 else 0) := by
      rcases u1 with (rfl | rfl) | rfl
      · have hf : K + c1 < 0 := hf
        rw [if_pos rfl]; omega
      · have hf : K + c1 ≤ 0 := hf
        rw [if_neg (by decide)]; omega
      · have hf : K + c1 = 0 := hf
        rw [if_neg (by decide)]; omega
    have hl : -c2 + (if r2 = 2 then 1 else 0) ≤ K := by
      rcases u2 with (rfl | rfl) | rfl
      · have hg : 0 < K + c2 := hg
        rw [if_pos rfl]; omega
      · have hg : 0 ≤ K + c2 := hg
        rw [if_neg (by decide)]; omega
      · have hg : K + c2 = 0 := hg
        rw [if_neg (by decide)]; omega
    omega
  · rw [Bool.and_eq_true, Bool.and_eq_true] at hc
    obtain ⟨⟨u1, u2⟩, u3⟩ := hc
    obtain rfl := of_decide_eq_true u1
    obtain rfl := of_decide_eq_true u2
    obtain rfl := of_decide_eq_true u3
    exact hg hf
theorem relB_ok {c : Int} : ∀ r : Nat, rel r c 0 → relB r c = true
  | 0, h => decide_eq_true (show c < 0 from h)
  | 1, h => decide_eq_true (show c ≤ 0 from h)
  | 2, h => decide_eq_true (show 0 < c from h)
  | 3, h => decide_eq_true (show 0 ≤ c from h)
  | 4, h => decide_eq_true (show c = 0 from h)
  | r + 5, h => decide_eq_true (show ¬ c = 0 from h)
theorem slf_no {σ : Nat → Int} {f : lF} (hf : lnG σ f) (hc : slf f = true) : False := by
  unfold slf at hc
  unfold lnG at hf
  rw [Bool.and_eq_true] at hc
  have e := of_decide_eq_true hc.1
  rw [e, show f.2.2.1.1 * σ f.2.2.1.2 - f.2.2.1.1 * σ f.2.2.1.2 + f.2.2.2 = f.2.2.2 by omega] at hf
  have h2 := hc.2
  rw [relB_ok _ hf] at h2
  cases h2
theorem ctr_no {n : Nat} {σ : Nat → Int} {Δ : aD} (hf : fok n σ Δ) (hc : ctr Δ = true) : False := by
  obtain ⟨f, hf1, h1⟩ := List.any_eq_true.mp hc
  rw [Bool.or_eq_true] at h1
  rcases h1 with h1 | h1
  · exact slf_no (lnF_ok hf f hf1) h1
  obtain ⟨g, hg1, h2⟩ := List.any_eq_true.mp h1
  exact cn2_no (lnF_ok hf f hf1) (lnF_ok hf g hg1) h2
/-- where the walk stops: behind both calls, they answer the same, and what ec says holds (or nobody comes here) -/
def prS (ic : Nat) (pop : Bool) (ec : aG → aC → Bool) : aSt := fun i S => decide (i = ic) && (ctr S.2.2.1 || (ec S.1 S.2.1 && (match pop, S.2.2.2.2 with
  | true, [] => true
  | false, [y, y'] => decide (y = y') && det y && decide (y.1 ≤ 1)
  | _, _ => false)))
def noC : aCh := fun _ _ _ _ => false
def prchk (R : List pq) (CR : List cq) (R' : List pq) (W : aW) (KC : List (Nat × aK)) (tbl : aTb) (f k1 k2 n : Nat) (bx : List (Int × Int)) (Δ0 : aD) : Bool := knQ R CR R' && R'.all pTi && jf W && aex prog HT W KC true tbl (prS (2 * n + 4) false (ecR R CR R' W)) noC f false 110 9999 (drM k1 k2 n) 0 (gQ bx R') (cQ (bx.length + 1) R') Δ0 (rf5 0 :: rf5 110 :: (aQ 1 bx ++ [])) [] [] []
def podchk (R : List pq) (CR : List cq) (R' : List pq) (W : aW) (KC : List (Nat × aK)) (tbl : aTb) (f k1 k2 n : Nat) (bx : List (Int × Int)) (Δ0 : aD) : Bool := knQ R CR R' && R'.all pTi && jf W && aex prog HT W KC true tbl (prS (2 * n + 6) true (ecR R CR R' W)) noC f false 110 9999 (drN k1 k2 n) 0 (gQ bx R') (cQ (bx.length + 1) R') Δ0 (rf5 0 :: rf5 110 :: (aQ 1 bx ++ [any7])) [] [] []
theorem sameQ_ok {z q : pq} (hs : sameQ z q = true) (hz : ri h z.1.2.1 z.1.2.2 = ri h z.2.1.2.1 z.2.1.2.2) : ri h q.1.2.1 q.1.2.2 = ri h q.2.1.2.1 q.2.1.2.2 := by
  unfold sameQ at hs
  rw [Bool.and_eq_true] at hs
  rw [← of_decide_eq_true hs.1, ← of_decide_eq_true hs.2]
  exact hz
theorem kn_rel {CR : List cq} (hR : pRel R h) (hC : cRel CR h) (hB : pBd R' h) (hs : knQ R CR R' = true) : pRel R' h := fun q hq => by
  have h1 := List.all_eq_true.mp hs q hq
  rw [Bool.or_eq_true] at h1
  rcases h1 with h1 | h1
  · obtain ⟨z, hz, e⟩ := List.any_eq_true.mp h1
    exact sameQ_ok e (hR z hz)
  · obtain ⟨c, hc, e⟩ := List.any_eq_true.mp h1
    rw [Bool.and_eq_true] at e
    obtain ⟨k1, k2⟩ := knC_ok hB e.2
    exact sameQ_ok e.1 (hC c hc k1 k2)
theorem sub_rel (hR : pRel R h) (hs : R'.all (fun q => R.any (fun z => sameQ z q)) = true) : pRel R' h := fun q hq => by
  obtain ⟨z, hz, e⟩ := List.any_eq_true.mp (List.all_eq_true.mp hs q hq)
  exact sameQ_ok e (hR z hz)
theorem gS0 {tl : pL} {ta : aL} {Δ0 : aD} (hh : HI HT h) (hR : pRel R' h) (hT : R'.all pTi = true) (hB : pBd R' h) (hb : bxG xs bx) (hD : fok (gQ bx R').length (pσ xs R' h) Δ0) (ht : LG (gQ bx R').length (pσ xs R' h) tl ta) : gS (gQ bx R').length (pσ xs R' h) HT W h (pσ xs R' h) (gQ bx R', cQ (bx.length + 1) R', Δ0, rf5 0 :: rf5 110 :: (aQ 1 bx ++ ta), []) (some (.ref 0) :: some (.ref 110) :: (xs.map (fun x => some (.int x)) ++ tl)) [] h := by
  have hl := hb.len
  refine ⟨⟨Nat.le_refl _, agr.rf _ _⟩, gQ_ok hB hb, cQ_ok hh R' _ hR hT hB (fun m q hm => ?_), hD, LG.cons (lG.of rfl (Or.inl ⟨rfl, rfl⟩)) (LG.cons (lG.of rfl (Or.inl ⟨rfl, rfl⟩)) (aQ_ok 1 hb (fun m x hm => ?_) ht)), trivial, hh, Fr.rf _ _⟩
  · rw [← hl, show xs.length + 1 + m = xs.length + m + 1 by omega, pσ_q hm, gQ_len]
    exact ⟨by have := (List.getElem?_eq_some_iff.mp hm).1; omega, rfl⟩
  · rw [show 1 + m = m + 1 by omega, pσ_x hm, gQ_len]
    exact ⟨by have := (List.getElem?_eq_some_iff.mp hm).1; omega, rfl⟩
/-- what is left behind -/
def PQo (Q : List pC → Prop) (W : aW) (h : List pC) : Option Value → List pC → Prop := fun r h' => r = some (.int 1) ∧ HI HT h' ∧ JT h' ∧ Q h' ∧ Fr W h h'
theorem pexp_ints : ∀ (xs : List Int32), pexp (xs.map Value.int) = xs.map (fun x => some (.int x))
  | [] => rfl
  | x :: xs => by
    show some (Value.int x) :: pexp (xs.map Value.int) = _
    rw [pexp_ints xs]
    rfl
theorem LG.nones {n : Nat} {σ : Nat → Int} : ∀ m : Nat, LG n σ (List.replicate m none) (List.replicate m any7)
  | 0 => ⟨rfl, fun k x hk => by simp at hk⟩
  | m + 1 => LG.cons (lG.any rfl) (LG.nones m)
/-- one call, from cells that are alike -/
def oS (a ml : Nat) (bx : List (Int × Int)) : aL := rf5 a :: (aQ 1 bx ++ List.replicate (ml - (bx.length + 1)) any7)
theorem gS1 {a ml : Nat} {Δ0 : aD} (hh : HI HT h) (hR : pRel R' h) (hT : R'.all pTi = true) (hB : pBd R' h) (hb : bxG xs bx) (hD : fok (gQ bx R').length (pσ xs R' h) Δ0) : gS (gQ bx R').length (pσ xs R' h) HT W h (pσ xs R' h) (gQ bx R', cQ (bx.length + 1) R', Δ0, oS a ml bx, []) (pent ml (.ref a :: xs.map Value.int)) [] h := by
  have hl := hb.len
  have e : pexp (.ref a :: xs.map Value.int) = some (.ref a) :: xs.map (fun x => some (.int x)) := by
    show some (Value.ref a) :: pexp (xs.map Value.int) = _
    rw [pexp_ints]
  have e2 : pent ml (.ref a :: xs.map Value.int) = some (.ref a) :: (xs.map (fun x => some (.int x)) ++ List.replicate (ml - (bx.length + 1)) none) := by
    unfold pent
    rw [e, List.length_cons, List.length_map, hl]
    rfl
  rw [e2]
  refine ⟨⟨Nat.le_refl _, agr.rf _ _⟩, gQ_ok hB hb, cQ_ok hh R' _ hR hT hB (fun m q hm => ?_), hD, LG.cons (lG.of rfl (Or.inl ⟨rfl, rfl⟩)) (aQ_ok 1 hb (fun m x hm => ?_) (LG.nones _)), trivial, hh, Fr.rf _ _⟩
  · rw [← hl, show xs.length + 1 + m = xs.length + m + 1 by omega, pσ_q hm, gQ_len]
    exact ⟨by have := (List.getElem?_eq_some_iff.mp hm).1; omega, rfl⟩
  · rw [show 1 + m = m + 1 by omega, pσ_x hm, gQ_len]
    exact ⟨by have := (List.getElem?_eq_some_iff.mp hm).1; omega, rfl⟩
def noS : aSt := fun _ _ => false
def oxC (ec : aG → aC → aD → Option AV → Bool) : aCh := fun Γ C Δ x => ctr Δ || ec Γ C Δ x
theorem oxH {E : pX} {k f d : Nat} {N : pM} {tb : aTb} {KC : List (Nat × aK)} {Γ0 : aG} {C0 : aC} {Δ0 : aD} {A0 : aL} {σ0 : Nat → Int} {as : List Value} {ec : aG → aC → aD → Option AV → Bool} {Q : Option Value → List pC → Prop} (hck : aex prog HT W KC true tb noS (oxC ec) f false 110 k N 0 Γ0 C0 Δ0 A0 [] [] [] = true) (hK : ∀ p ∈ KC, KGi E pV1 JT p.1 p.2) (hW : jf W = true) (hj : JT h) (hd : 110 ≤ d) (hc : ∃ u us, m_code N = u :: us) (hm : (pexp as).length ≤ m_l N) (g0 : gS Γ0.length σ0 HT W h σ0 (Γ0, C0, Δ0, A0, []) (pent (m_l N) as) [] h)
    (hQ : ∀ (σ : Nat → Int) (Γ : aG) (C : aC) (Δ : aD) (x : Option AV) (r : Option Value) (h' : List pC), ec Γ C Δ x = true → agr Γ0.length σ0 σ → gok σ Γ → cok Γ.length σ h' C → fok Γ.length σ Δ → rvG Γ.length σ r x → Q r h') : ∃ (r : Option Value) (h' : List pC), Run prog E pV1 d N as h (r, h', 0, 0) ∧ HI HT h' ∧ JT h' ∧ Fr W h h' ∧ Q r h' := by
  suffices g : Gl prog E pV1 (fun r h' => HI HT h' ∧ JT h' ∧ Fr W h h' ∧ Q r h') d N 0 (pent (m_l N) as) [] h [] by
    obtain ⟨r, h', q1, q2⟩ := g
    exact ⟨r, h', ⟨hm, hc, q1⟩, q2⟩
  exact aex_ok (n0 := Γ0.length) (σ0 := σ0) (E := E) (V := pV1) (h0 := h) (d0 := d) (M0 := N) (J := JT) (Post := fun r h' => HI HT h' ∧ JT h' ∧ Fr W h h' ∧ Q r h') (fun h' hf => JT_P _ _ _ hW hf hj) (fun k N c hk hP => hK (k, c) (lookup_mem hk) N hP) (fun σ Γ C Δ x r h' hk ha hgg hcC hf hv hH hF => by
    unfold oxC at hk
    rw [Bool.or_eq_true] at hk
    rcases hk with hk | hk
    · exact (ctr_no hf hk).elim
    · exact ⟨hH, JT_P _ _ _ hW hF hj, hF, hQ _ _ _ _ _ _ _ hk ha.2 hgg hcC hf hv⟩) (fun i σ S L' st' h' hs => by cases hs) f false 110 k N 0 _ _ _ _ [] [] [] hck _ _ [] h d [] g0 hd (by decide) (fun x hx => by cases hx) ⟨rfl, rfl⟩
theorem oxG {E : pX} {k f a : Nat} {N : pM} {tb : aTb} {KC : List (Nat × aK)} {Δ0 : aD} {ec : aG → aC → aD → Option AV → Bool} {Q : Option Value → List pC → Prop} (hck : aex prog HT W KC true tb noS (oxC ec) f false 110 k N 0 (gQ bx R') (cQ (bx.length + 1) R') Δ0 (oS a (m_l N) bx) [] [] [] = true) (hK : ∀ p ∈ KC, KGi E pV1 JT p.1 p.2) (hW : jf W = true) (hj : JT h) (hc : ∃ u us, m_code N = u :: us) (hm : bx.length + 1 ≤ m_l N) (hh : HI HT h) (hR : pRel R' h) (hT : R'.all pTi = true) (hB : pBd R' h) (hb : bxG xs bx) (hD : fok (gQ bx R').length (pσ xs R' h) Δ0)
    (hQ : ∀ (σ : Nat → Int) (Γ : aG) (C : aC) (Δ : aD) (x : Option AV) (r : Option Value) (h' : List pC), ec Γ C Δ x = true → agr (gQ bx R').length (pσ xs R' h) σ → gok σ Γ → cok Γ.length σ h' C → fok Γ.length σ Δ → rvG Γ.length σ r x → Q r h') : ∃ (r : Option Value) (h' : List pC), Run prog E pV1 120 N (.ref a :: xs.map Value.int) h (r, h', 0, 0) ∧ HI HT h' ∧ JT h' ∧ Fr W h h' ∧ Q r h' := by
  refine oxH hck hK hW hj (by decide) hc ?_ (gS1 hh hR hT hB hb hD) hQ
  show (some (Value.ref a) :: pexp (xs.map Value.int)).length ≤ _
  rw [pexp_ints, List.length_cons, List.length_map, hb.len]
  exact hm
def oxN : aCh := fun _ _ Δ _ => ctr Δ
/-- a part of a method, to a place of it, by a test of one's own -/
theorem hop {E : pX} {k i j f q d : Nat} {sk : Bool} {M : pM} {tb : aTb} {KC : List (Nat × aK)} {Γ0 : aG} {C0 : aC} {Δ0 : aD} {A0 : aL} {S0 : List AV} {σ0 : Nat → Int} {L : pL} {st : List Value} {ec : aS → Bool} {Post : Option Value → List pC → Prop} (hck : aex prog HT W KC true tb (fun i' S => decide (i' = j) && (ctr S.2.2.1 || ec S)) oxN f sk q k M i Γ0 C0 Δ0 A0 S0 [] [] = true) (hK : ∀ p ∈ KC, KGi E pV1 JT p.1 p.2) (hW : jf W = true) (hj : JT h) (hq : q ≤ d) (h1 : 1 ≤ q) (g0 : gS Γ0.length σ0 HT W h σ0 (Γ0, C0, Δ0, A0, S0) L st h)
    (hen : ∀ (σ : Nat → Int) (S : aS) (L' : pL) (st' : List Value) (h' : List pC), ec S = true → gS Γ0.length σ0 HT W h σ S L' st' h' → Gl prog E pV1 Post d M j L' st' h' []) : Gl prog E pV1 Post d M i L st h [] :=
  aex_ok (n0 := Γ0.length) (σ0 := σ0) (E := E) (V := pV1) (h0 := h) (d0 := d) (M0 := M) (J := JT) (Post := Post) (fun h' hf => JT_P _ _ _ hW hf hj) (fun k N c hk hP => hK (k, c) (lookup_mem hk) N hP) (fun σ Γ C Δ x r h' hk _ _ _ hf _ _ _ => (ctr_no hf hk).elim) (fun i' σ S L' st' h' hs g => by
    rw [Bool.and_eq_true, Bool.or_eq_true] at hs
    obtain ⟨z1, hs⟩ := hs
    obtain rfl := of_decide_eq_true z1
    rcases hs with hs | hs
    · exact (ctr_no g.2.2.2.1 hs).elim
    · exact hen σ S L' st' h' hs g) f sk q k M i _ _ _ _ _ [] [] hck σ0 L st h d [] g0 hq h1 (fun x hx => by cases hx) ⟨rfl, rfl⟩
def oxchk (R' : List pq) (W : aW) (KC : List (Nat × aK)) (tbl : aTb) (f k a : Nat) (bx : List (Int × Int)) (Δ0 : aD) (ec : aG → aC → aD → Option AV → Bool) : Bool := match prog[k]? with
  | some N => R'.all pTi && jf W && decide (bx.length + 1 ≤ m_l N) && !(m_code N).isEmpty && aex prog HT W KC true tbl noS (oxC ec) f false 110 k N 0 (gQ bx R') (cQ (bx.length + 1) R') Δ0 (oS a (m_l N) bx) [] [] []
  | none => false
theorem ox_ok {E : pX} {k f a : Nat} {N : pM} {tb : aTb} {KC : List (Nat × aK)} {Δ0 : aD} {ec : aG → aC → aD → Option AV → Bool} {Q : Option Value → List pC → Prop} (hck : oxchk R' W KC tb f k a bx Δ0 ec = true) (hN : prog[k]? = some N) (hK : ∀ p ∈ KC, KGi E pV1 JT p.1 p.2) (hj : JT h) (hh : HI HT h) (hR : pRel R' h) (hB : pBd R' h) (hb : bxG xs bx) (hD : fok (gQ bx R').length (pσ xs R' h) Δ0)
    (hQ : ∀ (σ : Nat → Int) (Γ : aG) (C : aC) (Δ : aD) (x : Option AV) (r : Option Value) (h' : List pC), ec Γ C Δ x = true → agr (gQ bx R').length (pσ xs R' h) σ → gok σ Γ → cok Γ.length σ h' C → fok Γ.length σ Δ → rvG Γ.length σ r x → Q r h') : ∃ (r : Option Value) (h' : List pC), Run prog E pV1 120 N (.ref a :: xs.map Value.int) h (r, h', 0, 0) ∧ HI HT h' ∧ JT h' ∧ Fr W h h' ∧ Q r h' := by
  unfold oxchk at hck
  rw [hN] at hck
  dsimp only at hck
  rw [Bool.and_eq_true, Bool.and_eq_true, Bool.and_eq_true, Bool.and_eq_true] at hck
  obtain ⟨⟨⟨⟨k1, k2⟩, k3⟩, k4⟩, k5⟩ := hck
  refine oxG k5 hK k2 hj ?_ (of_decide_eq_true k3) hh hR k1 hB hb hD hQ
  cases e : m_code N with
  | nil => rw [e] at k4; cases k4
  | cons u us => exact ⟨u, us, rfl⟩
/-- ends of one call: what cells hold, what is answered -/
def ecV (cs : List (Nat × Nat × AV)) (rv : Option AV) : aC → Option AV → Bool := fun C x => cs.all (fun c => decide (cfind C (rf5 c.1) (cn (c.2.1 : Int)) = some c.2.2) && decide (c.2.2.1 ≤ 1)) && (match x with
  | none => false
  | some v => decide (v.1 ≤ 1) && (match rv with
    | none => true
    | some v' => decide (v' = v)))
theorem ecV_ok {m : Nat} {σ : Nat → Int} {cs : List (Nat × Nat × AV)} {rv x : Option AV} {C : aC} {r : Option Value} (he : ecV cs rv C x = true) (hC : cok m σ h' C) (hr : rvG m σ r x) : (∀ c ∈ cs, zG m σ (ri h' c.1 c.2.1).toInt c.2.2) ∧ ∃ u : Int32, r = some (.int u) ∧ ∀ v, rv = some v → zG m σ u.toInt v := by
  unfold ecV at he
  rw [Bool.and_eq_true] at he
  refine ⟨fun c hc => ?_, ?_⟩
  · have h1 := List.all_eq_true.mp he.1 c hc
    rw [Bool.and_eq_true] at h1
    exact ck_ri hC (of_decide_eq_true h1.1) (of_decide_eq_true h1.2)
  · have h2 := he.2
    cases x with
    | none => cases h2
    | some v =>
      dsimp only at h2
      rw [Bool.and_eq_true] at h2
      cases r with
      | none => exact hr.elim
      | some w =>
        obtain ⟨u, rfl, hz⟩ := (show vG m σ w v from hr).int (of_decide_eq_true h2.1)
        refine ⟨u, rfl, fun v' hv => ?_⟩
        subst hv
        have h3 := h2.2
        dsimp only at h3
        rw [of_decide_eq_true h3]
        exact hz
theorem zsy {m k : Nat} {σ : Nat → Int} {z : Int} (hz : zG m σ z (1, 1, 0, k)) : z = σ k := by
  have := (hz.lin (show ¬ (1 : Nat) % 2 = 0 by decide)).1
  dsimp only at this
  omega
/-- what one call moved: from a cell that was known of to another -/
def mvB (R' : List pq) (cs : List (Nat × Nat × AV)) (n : Nat) (t : (Nat × Nat) × (Nat × Nat)) : Bool := cs.any (fun c => decide (c.1 = t.1.1) && decide (c.2.1 = t.1.2) && (List.range R'.length).any (fun k => match R'[k]? with
  | some q => decide (q.1.2.1 = t.2.1) && decide (q.1.2.2 = t.2.2) && decide (c.2.2 = (1, 1, 0, n + 1 + k))
  | none => false))
theorem mv_ok {m : Nat} {σ : Nat → Int} {cs : List (Nat × Nat × AV)} {t : (Nat × Nat) × (Nat × Nat)} (hck : mvB R' cs xs.length t = true) (hcs : ∀ c ∈ cs, zG m σ (ri h' c.1 c.2.1).toInt c.2.2) (ha : agr (gQ bx R').length (pσ xs R' h) σ) (hl : xs.length = bx.length) : ri h' t.1.1 t.1.2 = ri h t.2.1 t.2.2 := by
  obtain ⟨c, hc, h1⟩ := List.any_eq_true.mp hck
  rw [Bool.and_eq_true, Bool.and_eq_true] at h1
  obtain ⟨⟨e1, e2⟩, h2⟩ := h1
  obtain ⟨k, hk, h3⟩ := List.any_eq_true.mp h2
  split at h3
  · rename_i q hq
    rw [Bool.and_eq_true, Bool.and_eq_true] at h3
    obtain ⟨⟨e3, e4⟩, e5⟩ := h3
    have hz := hcs c hc
    rw [of_decide_eq_true e5, show xs.length + 1 + k = xs.length + k + 1 by omega] at hz
    have e6 := zsy hz
    have hlt := (List.getElem?_eq_some_iff.mp hq).1
    rw [ha (xs.length + k + 1) (by rw [gQ_len]; omega), pσ_q hq] at e6
    rw [← of_decide_eq_true e1, ← of_decide_eq_true e2, ← of_decide_eq_true e3, ← of_decide_eq_true e4]
    exact Int32.toInt_inj.mp e6
  · cases h3
theorem zcn {m : Nat} {σ : Nat → Int} {z a : Int} (hz : zG m σ z (cn a)) : z = a := det_ok (x := cn a) (by unfold det cn; simp) hz (cnZ a)
end PQ
section DRV
variable {E : pX} {V : pV} {d k1 k2 f : Nat} {N1 N2 : pM} {h h2 : List pC} {R R' : List pq} {CR : List cq} {W : aW} {KC : List (Nat × aK)} {tb : aTb} {bx : List (Int × Int)} {x1 x2 x3 x4 x5 : Int32}
theorem dr_inv0 (hN1 : prog[k1]? = some N1) (hN2 : prog[k2]? = some N2) (c1 : m_code N1 ≠ []) (c2 : m_code N2 ≠ []) (hr : RA prog E V (d + 1) (drM k1 k2 0) 0 [some (.ref 0), some (.ref 110)] [] h (some (.int 1), h2, 0, 0)) : ∃ (r : Int32) (h1 : List pC), Run prog E V d N1 [.ref 0] h (some (.int r), h1, 0, 0) ∧ Run prog E V d N2 [.ref 110] h1 (some (.int r), h2, 0, 0) ∧ ∃ o, pobj h1 110 = some o ∧ o.1 = m_c N2 := by
  have s1 := RA.steps_inv (i' := 1) (L' := [some (.ref 0), some (.ref 110)]) (st' := [.ref 0]) (h' := h) 1 rfl hr
  obtain ⟨r1, h1, q1, s2, -⟩ := RA.callv_inv (rest := []) rfl hN1 c1 rfl s1
  rw [List.append_nil] at s2
  generalize hQ : r1.toList = Q at s2
  have s3 := RA.steps_inv (i' := 3) (L' := [some (.ref 0), some (.ref 110)]) (st' := .ref 110 :: Q) (h' := h1) 1 rfl s2
  obtain ⟨r2, h3, q2, s4, q3⟩ := RA.callv_inv (rest := Q) rfl hN2 c2 rfl s3
  obtain ⟨a, b, rest, e, s5⟩ := RA.if2_inv rfl s4
  obtain ⟨e1, e2, rfl⟩ : r1 = some (.int a) ∧ r2 = some (.int b) ∧ rest = [] := by
    cases r1 with
    | none =>
      subst hQ
      cases r2 with
      | none => cases e
      | some w => cases e
    | some v =>
      subst hQ
      cases r2 with
      | none => cases e
      | some w => cases e; exact ⟨rfl, rfl, rfl⟩
  subst e1
  subst e2
  by_cases hab : a = b
  · subst hab
    rw [show pc2 .eq a a = true from decide_eq_true rfl] at s5
    have s6 := RA.steps_inv (i' := 8) (L' := [some (.ref 0), some (.ref 110)]) (st' := [.int 1]) (h' := h3) 1 rfl s5
    have s7 := RA.ret_inv rfl rfl s6
    have e3 : h2 = h3 := (Prod.mk.inj (Prod.mk.inj s7).2).1
    subst e3
    exact ⟨a, h1, q1, q2, q3⟩
  · rw [show pc2 .eq a b = false from decide_eq_false hab] at s5
    have s6 := RA.steps_inv (i' := 6) (L' := [some (.ref 0), some (.ref 110)]) (st' := [.int 0]) (h' := h3) 1 rfl s5
    have s7 := RA.ret_inv rfl rfl s6
    have e3 := Option.some.inj (Prod.mk.inj s7).1
    exact absurd e3 (by decide)
theorem dn_inv0 (hN1 : prog[k1]? = some N1) (hN2 : prog[k2]? = some N2) (c1 : m_code N1 ≠ []) (c2 : m_code N2 ≠ []) (hr : RA prog E V (d + 1) (drN k1 k2 0) 0 [some (.ref 0), some (.ref 110), none] [] h (some (.int 1), h2, 0, 0)) : ∃ (r1 r2 : Int32) (h1 : List pC), Run prog E V d N1 [.ref 0] h (some (.int r1), h1, 0, 0) ∧ Run prog E V d N2 [.ref 110] h1 (some (.int r2), h2, 0, 0) ∧ ∃ o, pobj h1 110 = some o ∧ o.1 = m_c N2 := by
  have s1 := RA.steps_inv (i' := 1) (L' := [some (.ref 0), some (.ref 110), none]) (st' := [.ref 0]) (h' := h) 1 rfl hr
  obtain ⟨r1, h1, q1, s2, -⟩ := RA.callv_inv (rest := []) rfl hN1 c1 rfl s1
  obtain ⟨a, rest, e, s3⟩ := RA.isto_inv rfl s2
  obtain ⟨rfl, rfl⟩ : r1 = some (.int a) ∧ rest = [] := by
    cases r1 with
    | none => cases e
    | some v => cases e; exact ⟨rfl, rfl⟩
  have s4 := s3 _ rfl
  have s5 := RA.steps_inv (i' := 4) (L' := [some (.ref 0), some (.ref 110), some (.int a)]) (st' := .ref 110 :: []) (h' := h1) 1 rfl s4
  obtain ⟨r2, h3, q2, s6, q3⟩ := RA.callv_inv (rest := []) rfl hN2 c2 rfl s5
  obtain ⟨b, rest, e, s7⟩ := RA.isto_inv rfl s6
  obtain ⟨rfl, rfl⟩ : r2 = some (.int b) ∧ rest = [] := by
    cases r2 with
    | none => cases e
    | some v => cases e; exact ⟨rfl, rfl⟩
  have s8 := s7 _ rfl
  have s9 := RA.steps_inv (i' := 7) (L' := [some (.ref 0), some (.ref 110), some (.int b)]) (st' := [.int 1]) (h' := h3) 1 rfl s8
  have s10 := RA.ret_inv rfl rfl s9
  have e3 : h2 = h3 := (Prod.mk.inj (Prod.mk.inj s10).2).1
  subst e3
  exact ⟨a, b, h1, q1, q2, q3⟩
theorem prG0 {Γ0 : aG} {C0 : aC} {Δ0 : aD} {A0 : aL} {σ0 : Nat → Int} {ec : aG → aC → Bool} {Q : List pC → Prop} (hck : aex prog HT W KC true tb (prS 4 false ec) noC f false 110 9999 (drM k1 k2 0) 0 Γ0 C0 Δ0 A0 [] [] [] = true) (hN1 : prog[k1]? = some N1) (hN2 : prog[k2]? = some N2) (c1 : m_code N1 ≠ []) (c2 : m_code N2 ≠ []) (hK : ∀ p ∈ KC, KGi E pV1 JT p.1 p.2) (hW : jf W = true) (hj : JT h) (g0 : gS Γ0.length σ0 HT W h σ0 (Γ0, C0, Δ0, A0, []) [some (.ref 0), some (.ref 110)] [] h) (hQ : ∀ (σ : Nat → Int) (Γ : aG) (C : aC) (h' : List pC), ec Γ C = true → gok σ Γ → cok Γ.length σ h' C → Fr W h h' → Q h') : ∃ (r : Int32) (h1 h2 : List pC), Run prog E pV1 120 N1 [.ref 0] h (some (.int r), h1, 0, 0) ∧ Run prog E pV1 120 N2 [.ref 110] h1 (some (.int r), h2, 0, 0) ∧ (∃ o, pobj h1 110 = some o ∧ o.1 = m_c N2) ∧ HI HT h2 ∧ JT h2 ∧ Q h2 ∧ Fr W h h2 := by
  suffices g : Gl prog E pV1 (PQo Q W h) 121 (drM k1 k2 0) 0 [some (.ref 0), some (.ref 110)] [] h [] by
    obtain ⟨r, h2, hra, rfl, p1, p2, p3, p4⟩ := g
    obtain ⟨r, h1, q1, q2, q3⟩ := dr_inv0 hN1 hN2 c1 c2 hra
    exact ⟨r, h1, h2, q1, q2, q3, p1, p2, p3, p4⟩
  refine aex_ok (n0 := Γ0.length) (σ0 := σ0) (E := E) (V := pV1) (h0 := h) (d0 := 121) (M0 := drM k1 k2 0) (J := JT) (Post := PQo Q W h) (fun h' hf => JT_P _ _ _ hW hf hj) (fun k N c hk hP => hK (k, c) (lookup_mem hk) N hP) (fun σ Γ C Δ x r h' hk => by cases hk) (fun i σ S L' st' h' hs g => ?_) f false 110 9999 _ 0 _ _ _ _ [] [] [] hck σ0 [some (.ref 0), some (.ref 110)] [] h 121 [] g0 (by decide) (by decide) (fun x hx => by cases hx) ⟨rfl, rfl⟩
  unfold prS at hs
  rw [Bool.and_eq_true, Bool.or_eq_true] at hs
  obtain ⟨z1, hs⟩ := hs
  obtain rfl := of_decide_eq_true z1
  rcases hs with hs | hs
  · exact (ctr_no g.2.2.2.1 hs).elim
  rw [Bool.and_eq_true] at hs
  obtain ⟨e1, e2⟩ := hs
  have hF := g.2.2.2.2.2.2.2
  have hq := hQ _ _ _ _ e1 g.2.1 g.2.2.1 hF
  have hs1 := g.2.2.2.2.2.1
  split at e2
  · rename_i hpp _
    cases hpp
  · rename_i y y' _ hst
    rw [hst] at hs1
    rw [Bool.and_eq_true, Bool.and_eq_true] at e2
    obtain ⟨⟨e2, e3⟩, e4⟩ := e2
    obtain rfl := of_decide_eq_true e2
    have e4 := of_decide_eq_true e4
    obtain ⟨w1, t1, rfl, v1, hs2⟩ := hs1.cons_inv
    obtain ⟨w2, t2, rfl, v2, hs3⟩ := hs2.cons_inv
    obtain rfl := hs3.nil_inv
    obtain ⟨u1, rfl, y1⟩ := v1.int e4
    obtain ⟨u2, rfl, y2⟩ := v2.int e4
    obtain rfl : u1 = u2 := Int32.toInt_inj.mp (det_ok e3 y1 y2)
    exact ⟨some (.int 1), h', RA.if2T (x := 7) rfl (decide_eq_true rfl) (RA.steps (i' := 8) (L' := L') (st' := [.int 1]) (h' := h') 1 rfl (RA.ret rfl rfl)), rfl, g.2.2.2.2.2.2.1, JT_P _ _ _ hW hF hj, hq, hF⟩
  · cases e2
theorem prH0 {Γ0 : aG} {C0 : aC} {Δ0 : aD} {A0 : aL} {σ0 : Nat → Int} {ec : aG → aC → Bool} {Q : List pC → Prop} (hck : aex prog HT W KC true tb (prS 6 true ec) noC f false 110 9999 (drN k1 k2 0) 0 Γ0 C0 Δ0 A0 [] [] [] = true) (hN1 : prog[k1]? = some N1) (hN2 : prog[k2]? = some N2) (c1 : m_code N1 ≠ []) (c2 : m_code N2 ≠ []) (hK : ∀ p ∈ KC, KGi E pV1 JT p.1 p.2) (hW : jf W = true) (hj : JT h) (g0 : gS Γ0.length σ0 HT W h σ0 (Γ0, C0, Δ0, A0, []) [some (.ref 0), some (.ref 110), none] [] h) (hQ : ∀ (σ : Nat → Int) (Γ : aG) (C : aC) (h' : List pC), ec Γ C = true → gok σ Γ → cok Γ.length σ h' C → Fr W h h' → Q h') : ∃ (r1 r2 : Int32) (h1 h2 : List pC), Run prog E pV1 120 N1 [.ref 0] h (some (.int r1), h1, 0, 0) ∧ Run prog E pV1 120 N2 [.ref 110] h1 (some (.int r2), h2, 0, 0) ∧ (∃ o, pobj h1 110 = some o ∧ o.1 = m_c N2) ∧ HI HT h2 ∧ JT h2 ∧ Q h2 ∧ Fr W h h2 := by
  suffices g : Gl prog E pV1 (PQo Q W h) 121 (drN k1 k2 0) 0 [some (.ref 0), some (.ref 110), none] [] h [] by
    obtain ⟨r, h2, hra, rfl, p1, p2, p3, p4⟩ := g
    obtain ⟨r1, r2, h1, q1, q2, q3⟩ := dn_inv0 hN1 hN2 c1 c2 hra
    exact ⟨r1, r2, h1, h2, q1, q2, q3, p1, p2, p3, p4⟩
  refine aex_ok (n0 := Γ0.length) (σ0 := σ0) (E := E) (V := pV1) (h0 := h) (d0 := 121) (M0 := drN k1 k2 0) (J := JT) (Post := PQo Q W h) (fun h' hf => JT_P _ _ _ hW hf hj) (fun k N c hk hP => hK (k, c) (lookup_mem hk) N hP) (fun σ Γ C Δ x r h' hk => by cases hk) (fun i σ S L' st' h' hs g => ?_) f false 110 9999 _ 0 _ _ _ _ [] [] [] hck σ0 [some (.ref 0), some (.ref 110), none] [] h 121 [] g0 (by decide) (by decide) (fun x hx => by cases hx) ⟨rfl, rfl⟩
  unfold prS at hs
  rw [Bool.and_eq_true, Bool.or_eq_true] at hs
  obtain ⟨z1, hs⟩ := hs
  obtain rfl := of_decide_eq_true z1
  rcases hs with hs | hs
  · exact (ctr_no g.2.2.2.1 hs).elim
  rw [Bool.and_eq_true] at hs
  obtain ⟨e1, e2⟩ := hs
  have hF := g.2.2.2.2.2.2.2
  have hq := hQ _ _ _ _ e1 g.2.1 g.2.2.1 hF
  have hs1 := g.2.2.2.2.2.1
  split at e2
  · rename_i _ hst
    rw [hst] at hs1
    obtain rfl := hs1.nil_inv
    exact ⟨some (.int 1), h', RA.steps (i' := 7) (L' := L') (st' := [.int 1]) (h' := h') 1 rfl (RA.ret rfl rfl), rfl, g.2.2.2.2.2.2.1, JT_P _ _ _ hW hF hj, hq, hF⟩
  · rename_i hpp _
    cases hpp
  · cases e2
theorem pr_ok0 {Δ0 : aD} (hck : prchk R CR R' W KC tb f k1 k2 0 bx Δ0 = true) (hN1 : prog[k1]? = some N1) (hN2 : prog[k2]? = some N2) (c1 : m_code N1 ≠ []) (c2 : m_code N2 ≠ []) (hK : ∀ p ∈ KC, KGi E pV1 JT p.1 p.2) (hh : HI HT h) (hj : JT h) (hR : pRel R h) (hC : cRel CR h) (hb : bxG [] bx) (hB : pBd R' h) (hD : fok (gQ bx R').length (pσ [] R' h) Δ0) : ∃ (r : Int32) (h1 h2 : List pC), Run prog E pV1 120 N1 [.ref 0] h (some (.int r), h1, 0, 0) ∧ Run prog E pV1 120 N2 [.ref 110] h1 (some (.int r), h2, 0, 0) ∧ (∃ o, pobj h1 110 = some o ∧ o.1 = m_c N2) ∧ HI HT h2 ∧ JT h2 ∧ (pRel R h2 ∧ cRel CR h2) ∧ Fr W h h2 := by
  unfold prchk at hck
  rw [Bool.and_eq_true, Bool.and_eq_true, Bool.and_eq_true] at hck
  obtain ⟨⟨⟨k1', k2'⟩, k3⟩, k5⟩ := hck
  exact prG0 k5 hN1 hN2 c1 c2 hK k3 hj (gS0 (tl := []) (ta := []) hh (kn_rel hR hC hB k1') k2' hB hb hD ⟨rfl, fun k x hk => by simp at hk⟩) (fun σ Γ C h' e1 e2 e3 e4 => ecR_ok hR hC hB e4 e2 e3 e1)
theorem po_ok0 {Δ0 : aD} (hck : podchk R CR R' W KC tb f k1 k2 0 bx Δ0 = true) (hN1 : prog[k1]? = some N1) (hN2 : prog[k2]? = some N2) (c1 : m_code N1 ≠ []) (c2 : m_code N2 ≠ []) (hK : ∀ p ∈ KC, KGi E pV1 JT p.1 p.2) (hh : HI HT h) (hj : JT h) (hR : pRel R h) (hC : cRel CR h) (hb : bxG [] bx) (hB : pBd R' h) (hD : fok (gQ bx R').length (pσ [] R' h) Δ0) : ∃ (r1 r2 : Int32) (h1 h2 : List pC), Run prog E pV1 120 N1 [.ref 0] h (some (.int r1), h1, 0, 0) ∧ Run prog E pV1 120 N2 [.ref 110] h1 (some (.int r2), h2, 0, 0) ∧ (∃ o, pobj h1 110 = some o ∧ o.1 = m_c N2) ∧ HI HT h2 ∧ JT h2 ∧ (pRel R h2 ∧ cRel CR h2) ∧ Fr W h h2 := by
  unfold podchk at hck
  rw [Bool.and_eq_true, Bool.and_eq_true, Bool.and_eq_true] at hck
  obtain ⟨⟨⟨k1', k2'⟩, k3⟩, k5⟩ := hck
  exact prH0 k5 hN1 hN2 c1 c2 hK k3 hj (gS0 (tl := [none]) (ta := [any7]) hh (kn_rel hR hC hB k1') k2' hB hb hD (LG.cons (lG.any rfl) ⟨rfl, fun k x hk => by simp at hk⟩)) (fun σ Γ C h' e1 e2 e3 e4 => ecR_ok hR hC hB e4 e2 e3 e1)
theorem dr_inv1 (hN1 : prog[k1]? = some N1) (hN2 : prog[k2]? = some N2) (c1 : m_code N1 ≠ []) (c2 : m_code N2 ≠ []) (hr : RA prog E V (d + 1) (drM k1 k2 1) 0 [some (.ref 0), some (.ref 110), some (.int x1)] [] h (some (.int 1), h2, 0, 0)) : ∃ (r : Int32) (h1 : List pC), Run prog E V d N1 [.ref 0, .int x1] h (some (.int r), h1, 0, 0) ∧ Run prog E V d N2 [.ref 110, .int x1] h1 (some (.int r), h2, 0, 0) ∧ ∃ o, pobj h1 110 = some o ∧ o.1 = m_c N2 := by
  have s1 := RA.steps_inv (i' := 2) (L' := [some (.ref 0), some (.ref 110), some (.int x1)]) (st' := [.int x1, .ref 0]) (h' := h) 2 rfl hr
  obtain ⟨r1, h1, q1, s2, -⟩ := RA.callv_inv (rest := []) rfl hN1 c1 rfl s1
  rw [List.append_nil] at s2
  generalize hQ : r1.toList = Q at s2
  have s3 := RA.steps_inv (i' := 5) (L' := [some (.ref 0), some (.ref 110), some (.int x1)]) (st' := .int x1 :: .ref 110 :: Q) (h' := h1) 2 rfl s2
  obtain ⟨r2, h3, q2, s4, q3⟩ := RA.callv_inv (rest := Q) rfl hN2 c2 rfl s3
  obtain ⟨a, b, rest, e, s5⟩ := RA.if2_inv rfl s4
  obtain ⟨e1, e2, rfl⟩ : r1 = some (.int a) ∧ r2 = some (.int b) ∧ rest = [] := by
    cases r1 with
    | none =>
      subst hQ
      cases r2 with
      | none => cases e
      | some w => cases e
    | some v =>
      subst hQ
      cases r2 with
      | none => cases e
      | some w => cases e; exact ⟨rfl, rfl, rfl⟩
  subst e1
  subst e2
  by_cases hab : a = b
  · subst hab
    rw [show pc2 .eq a a = true from decide_eq_true rfl] at s5
    have s6 := RA.steps_inv (i' := 10) (L' := [some (.ref 0), some (.ref 110), some (.int x1)]) (st' := [.int 1]) (h' := h3) 1 rfl s5
    have s7 := RA.ret_inv rfl rfl s6
    have e3 : h2 = h3 := (Prod.mk.inj (Prod.mk.inj s7).2).1
    subst e3
    exact ⟨a, h1, q1, q2, q3⟩
  · rw [show pc2 .eq a b = false from decide_eq_false hab] at s5
    have s6 := RA.steps_inv (i' := 8) (L' := [some (.ref 0), some (.ref 110), some (.int x1)]) (st' := [.int 0]) (h' := h3) 1 rfl s5
    have s7 := RA.ret_inv rfl rfl s6
    have e3 := Option.some.inj (Prod.mk.inj s7).1
    exact absurd e3 (by decide)
theorem dn_inv1 (hN1 : prog[k1]? = some N1) (hN2 : prog[k2]? = some N2) (c1 : m_code N1 ≠ []) (c2 : m_code N2 ≠ []) (hr : RA prog E V (d + 1) (drN k1 k2 1) 0 [some (.ref 0), some (.ref 110), some (.int x1), none] [] h (some (.int 1), h2, 0, 0)) : ∃ (r1 r2 : Int32) (h1 : List pC), Run prog E V d N1 [.ref 0, .int x1] h (some (.int r1), h1, 0, 0) ∧ Run prog E V d N2 [.ref 110, .int x1] h1 (some (.int r2), h2, 0, 0) ∧ ∃ o, pobj h1 110 = some o ∧ o.1 = m_c N2 := by
  have s1 := RA.steps_inv (i' := 2) (L' := [some (.ref 0), some (.ref 110), some (.int x1), none]) (st' := [.int x1, .ref 0]) (h' := h) 2 rfl hr
  obtain ⟨r1, h1, q1, s2, -⟩ := RA.callv_inv (rest := []) rfl hN1 c1 rfl s1
  obtain ⟨a, rest, e, s3⟩ := RA.isto_inv rfl s2
  obtain ⟨rfl, rfl⟩ : r1 = some (.int a) ∧ rest = [] := by
    cases r1 with
    | none => cases e
    | some v => cases e; exact ⟨rfl, rfl⟩
  have s4 := s3 _ rfl
  have s5 := RA.steps_inv (i' := 6) (L' := [some (.ref 0), some (.ref 110), some (.int x1), some (.int a)]) (st' := .int x1 :: .ref 110 :: []) (h' := h1) 2 rfl s4
  obtain ⟨r2, h3, q2, s6, q3⟩ := RA.callv_inv (rest := []) rfl hN2 c2 rfl s5
  obtain ⟨b, rest, e, s7⟩ := RA.isto_inv rfl s6
  obtain ⟨rfl, rfl⟩ : r2 = some (.int b) ∧ rest = [] := by
    cases r2 with
    | none => cases e
    | some v => cases e; exact ⟨rfl, rfl⟩
  have s8 := s7 _ rfl
  have s9 := RA.steps_inv (i' := 9) (L' := [some (.ref 0), some (.ref 110), some (.int x1), some (.int b)]) (st' := [.int 1]) (h' := h3) 1 rfl s8
  have s10 := RA.ret_inv rfl rfl s9
  have e3 : h2 = h3 := (Prod.mk.inj (Prod.mk.inj s10).2).1
  subst e3
  exact ⟨a, b, h1, q1, q2, q3⟩
theorem prG1 {Γ0 : aG} {C0 : aC} {Δ0 : aD} {A0 : aL} {σ0 : Nat → Int} {ec : aG → aC → Bool} {Q : List pC → Prop} (hck : aex prog HT W KC true tb (prS 6 false ec) noC f false 110 9999 (drM k1 k2 1) 0 Γ0 C0 Δ0 A0 [] [] [] = true) (hN1 : prog[k1]? = some N1) (hN2 : prog[k2]? = some N2) (c1 : m_code N1 ≠ []) (c2 : m_code N2 ≠ []) (hK : ∀ p ∈ KC, KGi E pV1 JT p.1 p.2) (hW : jf W = true) (hj : JT h) (g0 : gS Γ0.length σ0 HT W h σ0 (Γ0, C0, Δ0, A0, []) [some (.ref 0), some (.ref 110), some (.int x1)] [] h) (hQ : ∀ (σ : Nat → Int) (Γ : aG) (C : aC) (h' : List pC), ec Γ C = true → gok σ Γ → cok Γ.length σ h' C → Fr W h h' → Q h') : ∃ (r : Int32) (h1 h2 : List pC), Run prog E pV1 120 N1 [.ref 0, .int x1] h (some (.int r), h1, 0, 0) ∧ Run prog E pV1 120 N2 [.ref 110, .int x1] h1 (some (.int r), h2, 0, 0) ∧ (∃ o, pobj h1 110 = some o ∧ o.1 = m_c N2) ∧ HI HT h2 ∧ JT h2 ∧ Q h2 ∧ Fr W h h2 := by
  suffices g : Gl prog E pV1 (PQo Q W h) 121 (drM k1 k2 1) 0 [some (.ref 0), some (.ref 110), some (.int x1)] [] h [] by
    obtain ⟨r, h2, hra, rfl, p1, p2, p3, p4⟩ := g
    obtain ⟨r, h1, q1, q2, q3⟩ := dr_inv1 hN1 hN2 c1 c2 hra
    exact ⟨r, h1, h2, q1, q2, q3, p1, p2, p3, p4⟩
  refine aex_ok (n0 := Γ0.length) (σ0 := σ0) (E := E) (V := pV1) (h0 := h) (d0 := 121) (M0 := drM k1 k2 1) (J := JT) (Post := PQo Q W h) (fun h' hf => JT_P _ _ _ hW hf hj) (fun k N c hk hP => hK (k, c) (lookup_mem hk) N hP) (fun σ Γ C Δ x r h' hk => by cases hk) (fun i σ S L' st' h' hs g => ?_) f false 110 9999 _ 0 _ _ _ _ [] [] [] hck σ0 [some (.ref 0), some (.ref 110), some (.int x1)] [] h 121 [] g0 (by decide) (by decide) (fun x hx => by cases hx) ⟨rfl, rfl⟩
  unfold prS at hs
  rw [Bool.and_eq_true, Bool.or_eq_true] at hs
  obtain ⟨z1, hs⟩ := hs
  obtain rfl := of_decide_eq_true z1
  rcases hs with hs | hs
  · exact (ctr_no g.2.2.2.1 hs).elim
  rw [Bool.and_eq_true] at hs
  obtain ⟨e1, e2⟩ := hs
  have hF := g.2.2.2.2.2.2.2
  have hq := hQ _ _ _ _ e1 g.2.1 g.2.2.1 hF
  have hs1 := g.2.2.2.2.2.1
  split at e2
  · rename_i hpp _
    cases hpp
  · rename_i y y' _ hst
    rw [hst] at hs1
    rw [Bool.and_eq_true, Bool.and_eq_true] at e2
    obtain ⟨⟨e2, e3⟩, e4⟩ := e2
    obtain rfl := of_decide_eq_true e2
    have e4 := of_decide_eq_true e4
    obtain ⟨w1, t1, rfl, v1, hs2⟩ := hs1.cons_inv
    obtain ⟨w2, t2, rfl, v2, hs3⟩ := hs2.cons_inv
    obtain rfl := hs3.nil_inv
    obtain ⟨u1, rfl, y1⟩ := v1.int e4
    obtain ⟨u2, rfl, y2⟩ := v2.int e4
    obtain rfl : u1 = u2 := Int32.toInt_inj.mp (det_ok e3 y1 y2)
    exact ⟨some (.int 1), h', RA.if2T (x := 9) rfl (decide_eq_true rfl) (RA.steps (i' := 10) (L' := L') (st' := [.int 1]) (h' := h') 1 rfl (RA.ret rfl rfl)), rfl, g.2.2.2.2.2.2.1, JT_P _ _ _ hW hF hj, hq, hF⟩
  · cases e2
theorem prH1 {Γ0 : aG} {C0 : aC} {Δ0 : aD} {A0 : aL} {σ0 : Nat → Int} {ec : aG → aC → Bool} {Q : List pC → Prop} (hck : aex prog HT W KC true tb (prS 8 true ec) noC f false 110 9999 (drN k1 k2 1) 0 Γ0 C0 Δ0 A0 [] [] [] = true) (hN1 : prog[k1]? = some N1) (hN2 : prog[k2]? = some N2) (c1 : m_code N1 ≠ []) (c2 : m_code N2 ≠ []) (hK : ∀ p ∈ KC, KGi E pV1 JT p.1 p.2) (hW : jf W = true) (hj : JT h) (g0 : gS Γ0.length σ0 HT W h σ0 (Γ0, C0, Δ0, A0, []) [some (.ref 0), some (.ref 110), some (.int x1), none] [] h) (hQ : ∀ (σ : Nat → Int) (Γ : aG) (C : aC) (h' : List pC), ec Γ C = true → gok σ Γ → cok Γ.length σ h' C → Fr W h h' → Q h') : ∃ (r1 r2 : Int32) (h1 h2 : List pC), Run prog E pV1 120 N1 [.ref 0, .int x1] h (some (.int r1), h1, 0, 0) ∧ Run prog E pV1 120 N2 [.ref 110, .int x1] h1 (some (.int r2), h2, 0, 0) ∧ (∃ o, pobj h1 110 = some o ∧ o.1 = m_c N2) ∧ HI HT h2 ∧ JT h2 ∧ Q h2 ∧ Fr W h h2 := by
  suffices g : Gl prog E pV1 (PQo Q W h) 121 (drN k1 k2 1) 0 [some (.ref 0), some (.ref 110), some (.int x1), none] [] h [] by
    obtain ⟨r, h2, hra, rfl, p1, p2, p3, p4⟩ := g
    obtain ⟨r1, r2, h1, q1, q2, q3⟩ := dn_inv1 hN1 hN2 c1 c2 hra
    exact ⟨r1, r2, h1, h2, q1, q2, q3, p1, p2, p3, p4⟩
  refine aex_ok (n0 := Γ0.length) (σ0 := σ0) (E := E) (V := pV1) (h0 := h) (d0 := 121) (M0 := drN k1 k2 1) (J := JT) (Post := PQo Q W h) (fun h' hf => JT_P _ _ _ hW hf hj) (fun k N c hk hP => hK (k, c) (lookup_mem hk) N hP) (fun σ Γ C Δ x r h' hk => by cases hk) (fun i σ S L' st' h' hs g => ?_) f false 110 9999 _ 0 _ _ _ _ [] [] [] hck σ0 [some (.ref 0), some (.ref 110), some (.int x1), none] [] h 121 [] g0 (by decide) (by decide) (fun x hx => by cases hx) ⟨rfl, rfl⟩
  unfold prS at hs
  rw [Bool.and_eq_true, Bool.or_eq_true] at hs
  obtain ⟨z1, hs⟩ := hs
  obtain rfl := of_decide_eq_true z1
  rcases hs with hs | hs
  · exact (ctr_no g.2.2.2.1 hs).elim
  rw [Bool.and_eq_true] at hs
  obtain ⟨e1, e2⟩ := hs
  have hF := g.2.2.2.2.2.2.2
  have hq := hQ _ _ _ _ e1 g.2.1 g.2.2.1 hF
  have hs1 := g.2.2.2.2.2.1
  split at e2
  · rename_i _ hst
    rw [hst] at hs1
    obtain rfl := hs1.nil_inv
    exact ⟨some (.int 1), h', RA.steps (i' := 9) (L' := L') (st' := [.int 1]) (h' := h') 1 rfl (RA.ret rfl rfl), rfl, g.2.2.2.2.2.2.1, JT_P _ _ _ hW hF hj, hq, hF⟩
  · rename_i hpp _
    cases hpp
  · cases e2
theorem pr_ok1 {Δ0 : aD} (hck : prchk R CR R' W KC tb f k1 k2 1 bx Δ0 = true) (hN1 : prog[k1]? = some N1) (hN2 : prog[k2]? = some N2) (c1 : m_code N1 ≠ []) (c2 : m_code N2 ≠ []) (hK : ∀ p ∈ KC, KGi E pV1 JT p.1 p.2) (hh : HI HT h) (hj : JT h) (hR : pRel R h) (hC : cRel CR h) (hb : bxG [x1] bx) (hB : pBd R' h) (hD : fok (gQ bx R').length (pσ [x1] R' h) Δ0) : ∃ (r : Int32) (h1 h2 : List pC), Run prog E pV1 120 N1 [.ref 0, .int x1] h (some (.int r), h1, 0, 0) ∧ Run prog E pV1 120 N2 [.ref 110, .int x1] h1 (some (.int r), h2, 0, 0) ∧ (∃ o, pobj h1 110 = some o ∧ o.1 = m_c N2) ∧ HI HT h2 ∧ JT h2 ∧ (pRel R h2 ∧ cRel CR h2) ∧ Fr W h h2 := by
  unfold prchk at hck
  rw [Bool.and_eq_true, Bool.and_eq_true, Bool.and_eq_true] at hck
  obtain ⟨⟨⟨k1', k2'⟩, k3⟩, k5⟩ := hck
  exact prG1 k5 hN1 hN2 c1 c2 hK k3 hj (gS0 (tl := []) (ta := []) hh (kn_rel hR hC hB k1') k2' hB hb hD ⟨rfl, fun k x hk => by simp at hk⟩) (fun σ Γ C h' e1 e2 e3 e4 => ecR_ok hR hC hB e4 e2 e3 e1)
theorem po_ok1 {Δ0 : aD} (hck : podchk R CR R' W KC tb f k1 k2 1 bx Δ0 = true) (hN1 : prog[k1]? = some N1) (hN2 : prog[k2]? = some N2) (c1 : m_code N1 ≠ []) (c2 : m_code N2 ≠ []) (hK : ∀ p ∈ KC, KGi E pV1 JT p.1 p.2) (hh : HI HT h) (hj : JT h) (hR : pRel R h) (hC : cRel CR h) (hb : bxG [x1] bx) (hB : pBd R' h) (hD : fok (gQ bx R').length (pσ [x1] R' h) Δ0) : ∃ (r1 r2 : Int32) (h1 h2 : List pC), Run prog E pV1 120 N1 [.ref 0, .int x1] h (some (.int r1), h1, 0, 0) ∧ Run prog E pV1 120 N2 [.ref 110, .int x1] h1 (some (.int r2), h2, 0, 0) ∧ (∃ o, pobj h1 110 = some o ∧ o.1 = m_c N2) ∧ HI HT h2 ∧ JT h2 ∧ (pRel R h2 ∧ cRel CR h2) ∧ Fr W h h2 := by
  unfold podchk at hck
  rw [Bool.and_eq_true, Bool.and_eq_true, Bool.and_eq_true] at hck
  obtain ⟨⟨⟨k1', k2'⟩, k3⟩, k5⟩ := hck
  exact prH1 k5 hN1 hN2 c1 c2 hK k3 hj (gS0 (tl := [none]) (ta := [any7]) hh (kn_rel hR hC hB k1') k2' hB hb hD (LG.cons (lG.any rfl) ⟨rfl, fun k x hk => by simp at hk⟩)) (fun σ Γ C h' e1 e2 e3 e4 => ecR_ok hR hC hB e4 e2 e3 e1)
theorem dr_inv2 (hN1 : prog[k1]? = some N1) (hN2 : prog[k2]? = some N2) (c1 : m_code N1 ≠ []) (c2 : m_code N2 ≠ []) (hr : RA prog E V (d + 1) (drM k1 k2 2) 0 [some (.ref 0), some (.ref 110), some (.int x1), some (.int x2)] [] h (some (.int 1), h2, 0, 0)) : ∃ (r : Int32) (h1 : List pC), Run prog E V d N1 [.ref 0, .int x1, .int x2] h (some (.int r), h1, 0, 0) ∧ Run prog E V d N2 [.ref 110, .int x1, .int x2] h1 (some (.int r), h2, 0, 0) ∧ ∃ o, pobj h1 110 = some o ∧ o.1 = m_c N2 := by
  have s1 := RA.steps_inv (i' := 3) (L' := [some (.ref 0), some (.ref 110), some (.int x1), some (.int x2)]) (st' := [.int x2, .int x1, .ref 0]) (h' := h) 3 rfl hr
  obtain ⟨r1, h1, q1, s2, -⟩ := RA.callv_inv (rest := []) rfl hN1 c1 rfl s1
  rw [List.append_nil] at s2
  generalize hQ : r1.toList = Q at s2
  have s3 := RA.steps_inv (i' := 7) (L' := [some (.ref 0), some (.ref 110), some (.int x1), some (.int x2)]) (st' := .int x2 :: .int x1 :: .ref 110 :: Q) (h' := h1) 3 rfl s2
  obtain ⟨r2, h3, q2, s4, q3⟩ := RA.callv_inv (rest := Q) rfl hN2 c2 rfl s3
  obtain ⟨a, b, rest, e, s5⟩ := RA.if2_inv rfl s4
  obtain ⟨e1, e2, rfl⟩ : r1 = some (.int a) ∧ r2 = some (.int b) ∧ rest = [] := by
    cases r1 with
    | none =>
      subst hQ
      cases r2 with
      | none => cases e
      | some w => cases e
    | some v =>
      subst hQ
      cases r2 with
      | none => cases e
      | some w => cases e; exact ⟨rfl, rfl, rfl⟩
  subst e1
  subst e2
  by_cases hab : a = b
  · subst hab
    rw [show pc2 .eq a a = true from decide_eq_true rfl] at s5
    have s6 := RA.steps_inv (i' := 12) (L' := [some (.ref 0), some (.ref 110), some (.int x1), some (.int x2)]) (st' := [.int 1]) (h' := h3) 1 rfl s5
    have s7 := RA.ret_inv rfl rfl s6
    have e3 : h2 = h3 := (Prod.mk.inj (Prod.mk.inj s7).2).1
    subst e3
    exact ⟨a, h1, q1, q2, q3⟩
  · rw [show pc2 .eq a b = false from decide_eq_false hab] at s5
    have s6 := RA.steps_inv (i' := 10) (L' := [some (.ref 0), some (.ref 110), some (.int x1), some (.int x2)]) (st' := [.int 0]) (h' := h3) 1 rfl s5
    have s7 := RA.ret_inv rfl rfl s6
    have e3 := Option.some.inj (Prod.mk.inj s7).1
    exact absurd e3 (by decide)
theorem dn_inv2 (hN1 : prog[k1]? = some N1) (hN2 : prog[k2]? = some N2) (c1 : m_code N1 ≠ []) (c2 : m_code N2 ≠ []) (hr : RA prog E V (d + 1) (drN k1 k2 2) 0 [some (.ref 0), some (.ref 110), some (.int x1), some (.int x2), none] [] h (some (.int 1), h2, 0, 0)) : ∃ (r1 r2 : Int32) (h1 : List pC), Run prog E V d N1 [.ref 0, .int x1, .int x2] h (some (.int r1), h1, 0, 0) ∧ Run prog E V d N2 [.ref 110, .int x1, .int x2] h1 (some (.int r2), h2, 0, 0) ∧ ∃ o, pobj h1 110 = some o ∧ o.1 = m_c N2 := by
  have s1 := RA.steps_inv (i' := 3) (L' := [some (.ref 0), some (.ref 110), some (.int x1), some (.int x2), none]) (st' := [.int x2, .int x1, .ref 0]) (h' := h) 3 rfl hr
  obtain ⟨r1, h1, q1, s2, -⟩ := RA.callv_inv (rest := []) rfl hN1 c1 rfl s1
  obtain ⟨a, rest, e, s3⟩ := RA.isto_inv rfl s2
  obtain ⟨rfl, rfl⟩ : r1 = some (.int a) ∧ rest = [] := by
    cases r1 with
    | none => cases e
    | some v => cases e; exact ⟨rfl, rfl⟩
  have s4 := s3 _ rfl
  have s5 := RA.steps_inv (i' := 8) (L' := [some (.ref 0), some (.ref 110), some (.int x1), some (.int x2), some (.int a)]) (st' := .int x2 :: .int x1 :: .ref 110 :: []) (h' := h1) 3 rfl s4
  obtain ⟨r2, h3, q2, s6, q3⟩ := RA.callv_inv (rest := []) rfl hN2 c2 rfl s5
  obtain ⟨b, rest, e, s7⟩ := RA.isto_inv rfl s6
  obtain ⟨rfl, rfl⟩ : r2 = some (.int b) ∧ rest = [] := by
    cases r2 with
    | none => cases e
    | some v => cases e; exact ⟨rfl, rfl⟩
  have s8 := s7 _ rfl
  have s9 := RA.steps_inv (i' := 11) (L' := [some (.ref 0), some (.ref 110), some (.int x1), some (.int x2), some (.int b)]) (st' := [.int 1]) (h' := h3) 1 rfl s8
  have s10 := RA.ret_inv rfl rfl s9
  have e3 : h2 = h3 := (Prod.mk.inj (Prod.mk.inj s10).2).1
  subst e3
  exact ⟨a, b, h1, q1, q2, q3⟩
theorem prG2 {Γ0 : aG} {C0 : aC} {Δ0 : aD} {A0 : aL} {σ0 : Nat → Int} {ec : aG → aC → Bool} {Q : List pC → Prop} (hck : aex prog HT W KC true tb (prS 8 false ec) noC f false 110 9999 (drM k1 k2 2) 0 Γ0 C0 Δ0 A0 [] [] [] = true) (hN1 : prog[k1]? = some N1) (hN2 : prog[k2]? = some N2) (c1 : m_code N1 ≠ []) (c2 : m_code N2 ≠ []) (hK : ∀ p ∈ KC, KGi E pV1 JT p.1 p.2) (hW : jf W = true) (hj : JT h) (g0 : gS Γ0.length σ0 HT W h σ0 (Γ0, C0, Δ0, A0, []) [some (.ref 0), some (.ref 110), some (.int x1), some (.int x2)] [] h) (hQ : ∀ (σ : Nat → Int) (Γ : aG) (C : aC) (h' : List pC), ec Γ C = true → gok σ Γ → cok Γ.length σ h' C → Fr W h h' → Q h') : ∃ (r : Int32) (h1 h2 : List pC), Run prog E pV1 120 N1 [.ref 0, .int x1, .int x2] h (some (.int r), h1, 0, 0) ∧ Run prog E pV1 120 N2 [.ref 110, .int x1, .int x2] h1 (some (.int r), h2, 0, 0) ∧ (∃ o, pobj h1 110 = some o ∧ o.1 = m_c N2) ∧ HI HT h2 ∧ JT h2 ∧ Q h2 ∧ Fr W h h2 := by
  suffices g : Gl prog E pV1 (PQo Q W h) 121 (drM k1 k2 2) 0 [some (.ref 0), some (.ref 110), some (.int x1), some (.int x2)] [] h [] by
    obtain ⟨r, h2, hra, rfl, p1, p2, p3, p4⟩ := g
    obtain ⟨r, h1, q1, q2, q3⟩ := dr_inv2 hN1 hN2 c1 c2 hra
    exact ⟨r, h1, h2, q1, q2, q3, p1, p2, p3, p4⟩
  refine aex_ok (n0 := Γ0.length) (σ0 := σ0) (E := E) (V := pV1) (h0 := h) (d0 := 121) (M0 := drM k1 k2 2) (J := JT) (Post := PQo Q W h) (fun h' hf => JT_P _ _ _ hW hf hj) (fun k N c hk hP => hK (k, c) (lookup_mem hk) N hP) (fun σ Γ C Δ x r h' hk => by cases hk) (fun i σ S L' st' h' hs g => ?_) f false 110 9999 _ 0 _ _ _ _ [] [] [] hck σ0 [some (.ref 0), some (.ref 110), some (.int x1), some (.int x2)] [] h 121 [] g0 (by decide) (by decide) (fun x hx => by cases hx) ⟨rfl, rfl⟩
  unfold prS at hs
  rw [Bool.and_eq_true, Bool.or_eq_true] at hs
  obtain ⟨z1, hs⟩ := hs
  obtain rfl := of_decide_eq_true z1
  rcases hs with hs | hs
  · exact (ctr_no g.2.2.2.1 hs).elim
  rw [Bool.and_eq_true] at hs
  obtain ⟨e1, e2⟩ := hs
  have hF := g.2.2.2.2.2.2.2
  have hq := hQ _ _ _ _ e1 g.2.1 g.2.2.1 hF
  have hs1 := g.2.2.2.2.2.1
  split at e2
  · rename_i hpp _
    cases hpp
  · rename_i y y' _ hst
    rw [hst] at hs1
    rw [Bool.and_eq_true, Bool.and_eq_true] at e2
    obtain ⟨⟨e2, e3⟩, e4⟩ := e2
    obtain rfl := of_decide_eq_true e2
    have e4 := of_decide_eq_true e4
    obtain ⟨w1, t1, rfl, v1, hs2⟩ := hs1.cons_inv
    obtain ⟨w2, t2, rfl, v2, hs3⟩ := hs2.cons_inv
    obtain rfl := hs3.nil_inv
    obtain ⟨u1, rfl, y1⟩ := v1.int e4
    obtain ⟨u2, rfl, y2⟩ := v2.int e4
    obtain rfl : u1 = u2 := Int32.toInt_inj.mp (det_ok e3 y1 y2)
    exact ⟨some (.int 1), h', RA.if2T (x := 11) rfl (decide_eq_true rfl) (RA.steps (i' := 12) (L' := L') (st' := [.int 1]) (h' := h') 1 rfl (RA.ret rfl rfl)), rfl, g.2.2.2.2.2.2.1, JT_P _ _ _ hW hF hj, hq, hF⟩
  · cases e2
theorem prH2 {Γ0 : aG} {C0 : aC} {Δ0 : aD} {A0 : aL} {σ0 : Nat → Int} {ec : aG → aC → Bool} {Q : List pC → Prop} (hck : aex prog HT W KC true tb (prS 10 true ec) noC f false 110 9999 (drN k1 k2 2) 0 Γ0 C0 Δ0 A0 [] [] [] = true) (hN1 : prog[k1]? = some N1) (hN2 : prog[k2]? = some N2) (c1 : m_code N1 ≠ []) (c2 : m_code N2 ≠ []) (hK : ∀ p ∈ KC, KGi E pV1 JT p.1 p.2) (hW : jf W = true) (hj : JT h) (g0 : gS Γ0.length σ0 HT W h σ0 (Γ0, C0, Δ0, A0, []) [some (.ref 0), some (.ref 110), some (.int x1), some (.int x2), none] [] h) (hQ : ∀ (σ : Nat → Int) (Γ : aG) (C : aC) (h' : List pC), ec Γ C = true → gok σ Γ → cok Γ.length σ h' C → Fr W h h' → Q h') : ∃ (r1 r2 : Int32) (h1 h2 : List pC), Run prog E pV1 120 N1 [.ref 0, .int x1, .int x2] h (some (.int r1), h1, 0, 0) ∧ Run prog E pV1 120 N2 [.ref 110, .int x1, .int x2] h1 (some (.int r2), h2, 0, 0) ∧ (∃ o, pobj h1 110 = some o ∧ o.1 = m_c N2) ∧ HI HT h2 ∧ JT h2 ∧ Q h2 ∧ Fr W h h2 := by
  suffices g : Gl prog E pV1 (PQo Q W h) 121 (drN k1 k2 2) 0 [some (.ref 0), some (.ref 110), some (.int x1), some (.int x2), none] [] h [] by
    obtain ⟨r, h2, hra, rfl, p1, p2, p3, p4⟩ := g
    obtain ⟨r1, r2, h1, q1, q2, q3⟩ := dn_inv2 hN1 hN2 c1 c2 hra
    exact ⟨r1, r2, h1, h2, q1, q2, q3, p1, p2, p3, p4⟩
  refine aex_ok (n0 := Γ0.length) (σ0 := σ0) (E := E) (V := pV1) (h0 := h) (d0 := 121) (M0 := drN k1 k2 2) (J := JT) (Post := PQo Q W h) (fun h' hf => JT_P _ _ _ hW hf hj) (fun k N c hk hP => hK (k, c) (lookup_mem hk) N hP) (fun σ Γ C Δ x r h' hk => by cases hk) (fun i σ S L' st' h' hs g => ?_) f false 110 9999 _ 0 _ _ _ _ [] [] [] hck σ0 [some (.ref 0), some (.ref 110), some (.int x1), some (.int x2), none] [] h 121 [] g0 (by decide) (by decide) (fun x hx => by cases hx) ⟨rfl, rfl⟩
  unfold prS at hs
  rw [Bool.and_eq_true, Bool.or_eq_true] at hs
  obtain ⟨z1, hs⟩ := hs
  obtain rfl := of_decide_eq_true z1
  rcases hs with hs | hs
  · exact (ctr_no g.2.2.2.1 hs).elim
  rw [Bool.and_eq_true] at hs
  obtain ⟨e1, e2⟩ := hs
  have hF := g.2.2.2.2.2.2.2
  have hq := hQ _ _ _ _ e1 g.2.1 g.2.2.1 hF
  have hs1 := g.2.2.2.2.2.1
  split at e2
  · rename_i _ hst
    rw [hst] at hs1
    obtain rfl := hs1.nil_inv
    exact ⟨some (.int 1), h', RA.steps (i' := 11) (L' := L') (st' := [.int 1]) (h' := h') 1 rfl (RA.ret rfl rfl), rfl, g.2.2.2.2.2.2.1, JT_P _ _ _ hW hF hj, hq, hF⟩
  · rename_i hpp _
    cases hpp
  · cases e2
theorem pr_ok2 {Δ0 : aD} (hck : prchk R CR R' W KC tb f k1 k2 2 bx Δ0 = true) (hN1 : prog[k1]? = some N1) (hN2 : prog[k2]? = some N2) (c1 : m_code N1 ≠ []) (c2 : m_code N2 ≠ []) (hK : ∀ p ∈ KC, KGi E pV1 JT p.1 p.2) (hh : HI HT h) (hj : JT h) (hR : pRel R h) (hC : cRel CR h) (hb : bxG [x1, x2] bx) (hB : pBd R' h) (hD : fok (gQ bx R').length (pσ [x1, x2] R' h) Δ0) : ∃ (r : Int32) (h1 h2 : List pC), Run prog E pV1 120 N1 [.ref 0, .int x1, .int x2] h (some (.int r), h1, 0, 0) ∧ Run prog E pV1 120 N2 [.ref 110, .int x1, .int x2] h1 (some (.int r), h2, 0, 0) ∧ (∃ o, pobj h1 110 = some o ∧ o.1 = m_c N2) ∧ HI HT h2 ∧ JT h2 ∧ (pRel R h2 ∧ cRel CR h2) ∧ Fr W h h2 := by
  unfold prchk at hck
  rw [Bool.and_eq_true, Bool.and_eq_true, Bool.and_eq_true] at hck
  obtain ⟨⟨⟨k1', k2'⟩, k3⟩, k5⟩ := hck
  exact prG2 k5 hN1 hN2 c1 c2 hK k3 hj (gS0 (tl := []) (ta := []) hh (kn_rel hR hC hB k1') k2' hB hb hD ⟨rfl, fun k x hk => by simp at hk⟩) (fun σ Γ C h' e1 e2 e3 e4 => ecR_ok hR hC hB e4 e2 e3 e1)
theorem po_ok2 {Δ0 : aD} (hck : podchk R CR R' W KC tb f k1 k2 2 bx Δ0 = true) (hN1 : prog[k1]? = some N1) (hN2 : prog[k2]? = some N2) (c1 : m_code N1 ≠ []) (c2 : m_code N2 ≠ []) (hK : ∀ p ∈ KC, KGi E pV1 JT p.1 p.2) (hh : HI HT h) (hj : JT h) (hR : pRel R h) (hC : cRel CR h) (hb : bxG [x1, x2] bx) (hB : pBd R' h) (hD : fok (gQ bx R').length (pσ [x1, x2] R' h) Δ0) : ∃ (r1 r2 : Int32) (h1 h2 : List pC), Run prog E pV1 120 N1 [.ref 0, .int x1, .int x2] h (some (.int r1), h1, 0, 0) ∧ Run prog E pV1 120 N2 [.ref 110, .int x1, .int x2] h1 (some (.int r2), h2, 0, 0) ∧ (∃ o, pobj h1 110 = some o ∧ o.1 = m_c N2) ∧ HI HT h2 ∧ JT h2 ∧ (pRel R h2 ∧ cRel CR h2) ∧ Fr W h h2 := by
  unfold podchk at hck
  rw [Bool.and_eq_true, Bool.and_eq_true, Bool.and_eq_true] at hck
  obtain ⟨⟨⟨k1', k2'⟩, k3⟩, k5⟩ := hck
  exact prH2 k5 hN1 hN2 c1 c2 hK k3 hj (gS0 (tl := [none]) (ta := [any7]) hh (kn_rel hR hC hB k1') k2' hB hb hD (LG.cons (lG.any rfl) ⟨rfl, fun k x hk => by simp at hk⟩)) (fun σ Γ C h' e1 e2 e3 e4 => ecR_ok hR hC hB e4 e2 e3 e1)
theorem dr_inv3 (hN1 : prog[k1]? = some N1) (hN2 : prog[k2]? = some N2) (c1 : m_code N1 ≠ []) (c2 : m_code N2 ≠ []) (hr : RA prog E V (d + 1) (drM k1 k2 3) 0 [some (.ref 0), some (.ref 110), some (.int x1), some (.int x2), some (.int x3)] [] h (some (.int 1), h2, 0, 0)) : ∃ (r : Int32) (h1 : List pC), Run prog E V d N1 [.ref 0, .int x1, .int x2, .int x3] h (some (.int r), h1, 0, 0) ∧ Run prog E V d N2 [.ref 110, .int x1, .int x2, .int x3] h1 (some (.int r), h2, 0, 0) ∧ ∃ o, pobj h1 110 = some o ∧ o.1 = m_c N2 := by
  have s1 := RA.steps_inv (i' := 4) (L' := [some (.ref 0), some (.ref 110), some (.int x1), some (.int x2), some (.int x3)]) (st' := [.int x3, .int x2, .int x1, .ref 0]) (h' := h) 4 rfl hr
  obtain ⟨r1, h1, q1, s2, -⟩ := RA.callv_inv (rest := []) rfl hN1 c1 rfl s1
  rw [List.append_nil] at s2
  generalize hQ : r1.toList = Q at s2
  have s3 := RA.steps_inv (i' := 9) (L' := [some (.ref 0), some (.ref 110), some (.int x1), some (.int x2), some (.int x3)]) (st' := .int x3 :: .int x2 :: .int x1 :: .ref 110 :: Q) (h' := h1) 4 rfl s2
  obtain ⟨r2, h3, q2, s4, q3⟩ := RA.callv_inv (rest := Q) rfl hN2 c2 rfl s3
  obtain ⟨a, b, rest, e, s5⟩ := RA.if2_inv rfl s4
  obtain ⟨e1, e2, rfl⟩ : r1 = some (.int a) ∧ r2 = some (.int b) ∧ rest = [] := by
    cases r1 with
    | none =>
      subst hQ
      cases r2 with
      | none => cases e
      | some w => cases e
    | some v =>
      subst hQ
      cases r2 with
      | none => cases e
      | some w => cases e; exact ⟨rfl, rfl, rfl⟩
  subst e1
  subst e2
  by_cases hab : a = b
  · subst hab
    rw [show pc2 .eq a a = true from decide_eq_true rfl] at s5
    have s6 := RA.steps_inv (i' := 14) (L' := [some (.ref 0), some (.ref 110), some (.int x1), some (.int x2), some (.int x3)]) (st' := [.int 1]) (h' := h3) 1 rfl s5
    have s7 := RA.ret_inv rfl rfl s6
    have e3 : h2 = h3 := (Prod.mk.inj (Prod.mk.inj s7).2).1
    subst e3
    exact ⟨a, h1, q1, q2, q3⟩
  · rw [show pc2 .eq a b = false from decide_eq_false hab] at s5
    have s6 := RA.steps_inv (i' := 12) (L' := [some (.ref 0), some (.ref 110), some (.int x1), some (.int x2), some (.int x3)]) (st' := [.int 0]) (h' := h3) 1 rfl s5
    have s7 := RA.ret_inv rfl rfl s6
    have e3 := Option.some.inj (Prod.mk.inj s7).1
    exact absurd e3 (by decide)
theorem dn_inv3 (hN1 : prog[k1]? = some N1) (hN2 : prog[k2]? = some N2) (c1 : m_code N1 ≠ []) (c2 : m_code N2 ≠ []) (hr : RA prog E V (d + 1) (drN k1 k2 3) 0 [some (.ref 0), some (.ref 110), some (.int x1), some (.int x2), some (.int x3), none] [] h (some (.int 1), h2, 0, 0)) : ∃ (r1 r2 : Int32) (h1 : List pC), Run prog E V d N1 [.ref 0, .int x1, .int x2, .int x3] h (some (.int r1), h1, 0, 0) ∧ Run prog E V d N2 [.ref 110, .int x1, .int x2, .int x3] h1 (some (.int r2), h2, 0, 0) ∧ ∃ o, pobj h1 110 = some o ∧ o.1 = m_c N2 := by
  have s1 := RA.steps_inv (i' := 4) (L' := [some (.ref 0), some (.ref 110), some (.int x1), some (.int x2), some (.int x3), none]) (st' := [.int x3, .int x2, .int x1, .ref 0]) (h' := h) 4 rfl hr
  obtain ⟨r1, h1, q1, s2, -⟩ := RA.callv_inv (rest := []) rfl hN1 c1 rfl s1
  obtain ⟨a, rest, e, s3⟩ := RA.isto_inv rfl s2
  obtain ⟨rfl, rfl⟩ : r1 = some (.int a) ∧ rest = [] := by
    cases r1 with
    | none => cases e
    | some v => cases e; exact ⟨rfl, rfl⟩
  have s4 := s3 _ rfl
  have s5 := RA.steps_inv (i' := 10) (L' := [some (.ref 0), some (.ref 110), some (.int x1), some (.int x2), some (.int x3), some (.int a)]) (st' := .int x3 :: .int x2 :: .int x1 :: .ref 110 :: []) (h' := h1) 4 rfl s4
  obtain ⟨r2, h3, q2, s6, q3⟩ := RA.callv_inv (rest := []) rfl hN2 c2 rfl s5
  obtain ⟨b, rest, e, s7⟩ := RA.isto_inv rfl s6
  obtain ⟨rfl, rfl⟩ : r2 = some (.int b) ∧ rest = [] := by
    cases r2 with
    | none => cases e
    | some v => cases e; exact ⟨rfl, rfl⟩
  have s8 := s7 _ rfl
  have s9 := RA.steps_inv (i' := 13) (L' := [some (.ref 0), some (.ref 110), some (.int x1), some (.int x2), some (.int x3), some (.int b)]) (st' := [.int 1]) (h' := h3) 1 rfl s8
  have s10 := RA.ret_inv rfl rfl s9
  have e3 : h2 = h3 := (Prod.mk.inj (Prod.mk.inj s10).2).1
  subst e3
  exact ⟨a, b, h1, q1, q2, q3⟩
theorem prG3 {Γ0 : aG} {C0 : aC} {Δ0 : aD} {A0 : aL} {σ0 : Nat → Int} {ec : aG → aC → Bool} {Q : List pC → Prop} (hck : aex prog HT W KC true tb (prS 10 false ec) noC f false 110 9999 (drM k1 k2 3) 0 Γ0 C0 Δ0 A0 [] [] [] = true) (hN1 : prog[k1]? = some N1) (hN2 : prog[k2]? = some N2) (c1 : m_code N1 ≠ []) (c2 : m_code N2 ≠ []) (hK : ∀ p ∈ KC, KGi E pV1 JT p.1 p.2) (hW : jf W = true) (hj : JT h) (g0 : gS Γ0.length σ0 HT W h σ0 (Γ0, C0, Δ0, A0, []) [some (.ref 0), some (.ref 110), some (.int x1), some (.int x2), some (.int x3)] [] h) (hQ : ∀ (σ : Nat → Int) (Γ : aG) (C : aC) (h' : List pC), ec Γ C = true → gok σ Γ → cok Γ.length σ h' C → Fr W h h' → Q h') : ∃ (r : Int32) (h1 h2 : List pC), Run prog E pV1 120 N1 [.ref 0, .int x1, .int x2, .int x3] h (some (.int r), h1, 0, 0) ∧ Run prog E pV1 120 N2 [.ref 110, .int x1, .int x2, .int x3] h1 (some (.int r), h2, 0, 0) ∧ (∃ o, pobj h1 110 = some o ∧ o.1 = m_c N2) ∧ HI HT h2 ∧ JT h2 ∧ Q h2 ∧ Fr W h h2 := by
  suffices g : Gl prog E pV1 (PQo Q W h) 121 (drM k1 k2 3) 0 [some (.ref 0), some (.ref 110), some (.int x1), some (.int x2), some (.int x3)] [] h [] by
    obtain ⟨r, h2, hra, rfl, p1, p2, p3, p4⟩ := g
    obtain ⟨r, h1, q1, q2, q3⟩ := dr_inv3 hN1 hN2 c1 c2 hra
    exact ⟨r, h1, h2, q1, q2, q3, p1, p2, p3, p4⟩
  refine aex_ok (n0 := Γ0.length) (σ0 := σ0) (E := E) (V := pV1) (h0 := h) (d0 := 121) (M0 := drM k1 k2 3) (J := JT) (Post := PQo Q W h) (fun h' hf => JT_P _ _ _ hW hf hj) (fun k N c hk hP => hK (k, c) (lookup_mem hk) N hP) (fun σ Γ C Δ x r h' hk => by cases hk) (fun i σ S L' st' h' hs g => ?_) f false 110 9999 _ 0 _ _ _ _ [] [] [] hck σ0 [some (.ref 0), some (.ref 110), some (.int x1), some (.int x2), some (.int x3)] [] h 121 [] g0 (by decide) (by decide) (fun x hx => by cases hx) ⟨rfl, rfl⟩
  unfold prS at hs
  rw [Bool.and_eq_true, Bool.or_eq_true] at hs
  obtain ⟨z1, hs⟩ := hs
  obtain rfl := of_decide_eq_true z1
  rcases hs with hs | hs
  · exact (ctr_no g.2.2.2.1 hs).elim
  rw [Bool.and_eq_true] at hs
  obtain ⟨e1, e2⟩ := hs
  have hF := g.2.2.2.2.2.2.2
  have hq := hQ _ _ _ _ e1 g.2.1 g.2.2.1 hF
  have hs1 := g.2.2.2.2.2.1
  split at e2
  · rename_i hpp _
    cases hpp
  · rename_i y y' _ hst
    rw [hst] at hs1
    rw [Bool.and_eq_true, Bool.and_eq_true] at e2
    obtain ⟨⟨e2, e3⟩, e4⟩ := e2
    obtain rfl := of_decide_eq_true e2
    have e4 := of_decide_eq_true e4
    obtain ⟨w1, t1, rfl, v1, hs2⟩ := hs1.cons_inv
    obtain ⟨w2, t2, rfl, v2, hs3⟩ := hs2.cons_inv
    obtain rfl := hs3.nil_inv
    obtain ⟨u1, rfl, y1⟩ := v1.int e4
    obtain ⟨u2, rfl, y2⟩ := v2.int e4
    obtain rfl : u1 = u2 := Int32.toInt_inj.mp (det_ok e3 y1 y2)
    exact ⟨some (.int 1), h', RA.if2T (x := 13) rfl (decide_eq_true rfl) (RA.steps (i' := 14) (L' := L') (st' := [.int 1]) (h' := h') 1 rfl (RA.ret rfl rfl)), rfl, g.2.2.2.2.2.2.1, JT_P _ _ _ hW hF hj, hq, hF⟩
  · cases e2
theorem prH3 {Γ0 : aG} {C0 : aC} {Δ0 : aD} {A0 : aL} {σ0 : Nat → Int} {ec : aG → aC → Bool} {Q : List pC → Prop} (hck : aex prog HT W KC true tb (prS 12 true ec) noC f false 110 9999 (drN k1 k2 3) 0 Γ0 C0 Δ0 A0 [] [] [] = true) (hN1 : prog[k1]? = some N1) (hN2 : prog[k2]? = some N2) (c1 : m_code N1 ≠ []) (c2 : m_code N2 ≠ []) (hK : ∀ p ∈ KC, KGi E pV1 JT p.1 p.2) (hW : jf W = true) (hj : JT h) (g0 : gS Γ0.length σ0 HT W h σ0 (Γ0, C0, Δ0, A0, []) [some (.ref 0), some (.ref 110), some (.int x1), some (.int x2), some (.int x3), none] [] h) (hQ : ∀ (σ : Nat → Int) (Γ : aG) (C : aC) (h' : List pC), ec Γ C = true → gok σ Γ → cok Γ.length σ h' C → Fr W h h' → Q h') : ∃ (r1 r2 : Int32) (h1 h2 : List pC), Run prog E pV1 120 N1 [.ref 0, .int x1, .int x2, .int x3] h (some (.int r1), h1, 0, 0) ∧ Run prog E pV1 120 N2 [.ref 110, .int x1, .int x2, .int x3] h1 (some (.int r2), h2, 0, 0) ∧ (∃ o, pobj h1 110 = some o ∧ o.1 = m_c N2) ∧ HI HT h2 ∧ JT h2 ∧ Q h2 ∧ Fr W h h2 := by
  suffices g : Gl prog E pV1 (PQo Q W h) 121 (drN k1 k2 3) 0 [some (.ref 0), some (.ref 110), some (.int x1), some (.int x2), some (.int x3), none] [] h [] by
    obtain ⟨r, h2, hra, rfl, p1, p2, p3, p4⟩ := g
    obtain ⟨r1, r2, h1, q1, q2, q3⟩ := dn_inv3 hN1 hN2 c1 c2 hra
    exact ⟨r1, r2, h1, h2, q1, q2, q3, p1, p2, p3, p4⟩
  refine aex_ok (n0 := Γ0.length) (σ0 := σ0) (E := E) (V := pV1) (h0 := h) (d0 := 121) (M0 := drN k1 k2 3) (J := JT) (Post := PQo Q W h) (fun h' hf => JT_P _ _ _ hW hf hj) (fun k N c hk hP => hK (k, c) (lookup_mem hk) N hP) (fun σ Γ C Δ x r h' hk => by cases hk) (fun i σ S L' st' h' hs g => ?_) f false 110 9999 _ 0 _ _ _ _ [] [] [] hck σ0 [some (.ref 0), some (.ref 110), some (.int x1), some (.int x2), some (.int x3), none] [] h 121 [] g0 (by decide) (by decide) (fun x hx => by cases hx) ⟨rfl, rfl⟩
  unfold prS at hs
  rw [Bool.and_eq_true, Bool.or_eq_true] at hs
  obtain ⟨z1, hs⟩ := hs
  obtain rfl := of_decide_eq_true z1
  rcases hs with hs | hs
  · exact (ctr_no g.2.2.2.1 hs).elim
  rw [Bool.and_eq_true] at hs
  obtain ⟨e1, e2⟩ := hs
  have hF := g.2.2.2.2.2.2.2
  have hq := hQ _ _ _ _ e1 g.2.1 g.2.2.1 hF
  have hs1 := g.2.2.2.2.2.1
  split at e2
  · rename_i _ hst
    rw [hst] at hs1
    obtain rfl := hs1.nil_inv
    exact ⟨some (.int 1), h', RA.steps (i' := 13) (L' := L') (st' := [.int 1]) (h' := h') 1 rfl (RA.ret rfl rfl), rfl, g.2.2.2.2.2.2.1, JT_P _ _ _ hW hF hj, hq, hF⟩
  · rename_i hpp _
    cases hpp
  · cases e2
theorem pr_ok3 {Δ0 : aD} (hck : prchk R CR R' W KC tb f k1 k2 3 bx Δ0 = true) (hN1 : prog[k1]? = some N1) (hN2 : prog[k2]? = some N2) (c1 : m_code N1 ≠ []) (c2 : m_code N2 ≠ []) (hK : ∀ p ∈ KC, KGi E pV1 JT p.1 p.2) (hh : HI HT h) (hj : JT h) (hR : pRel R h) (hC : cRel CR h) (hb : bxG [x1, x2, x3] bx) (hB : pBd R' h) (hD : fok (gQ bx R').length (pσ [x1, x2, x3] R' h) Δ0) : ∃ (r : Int32) (h1 h2 : List pC), Run prog E pV1 120 N1 [.ref 0, .int x1, .int x2, .int x3] h (some (.int r), h1, 0, 0) ∧ Run prog E pV1 120 N2 [.ref 110, .int x1, .int x2, .int x3] h1 (some (.int r), h2, 0, 0) ∧ (∃ o, pobj h1 110 = some o ∧ o.1 = m_c N2) ∧ HI HT h2 ∧ JT h2 ∧ (pRel R h2 ∧ cRel CR h2) ∧ Fr W h h2 := by
  unfold prchk at hck
  rw [Bool.and_eq_true, Bool.and_eq_true, Bool.and_eq_true] at hck
  obtain ⟨⟨⟨k1', k2'⟩, k3⟩, k5⟩ := hck
  exact prG3 k5 hN1 hN2 c1 c2 hK k3 hj (gS0 (tl := []) (ta := []) hh (kn_rel hR hC hB k1') k2' hB hb hD ⟨rfl, fun k x hk => by simp at hk⟩) (fun σ Γ C h' e1 e2 e3 e4 => ecR_ok hR hC hB e4 e2 e3 e1)
theorem po_ok3 {Δ0 : aD} (hck : podchk R CR R' W KC tb f k1 k2 3 bx Δ0 = true) (hN1 : prog[k1]? = some N1) (hN2 : prog[k2]? = some N2) (c1 : m_code N1 ≠ []) (c2 : m_code N2 ≠ []) (hK : ∀ p ∈ KC, KGi E pV1 JT p.1 p.2) (hh : HI HT h) (hj : JT h) (hR : pRel R h) (hC : cRel CR h) (hb : bxG [x1, x2, x3] bx) (hB : pBd R' h) (hD : fok (gQ bx R').length (pσ [x1, x2, x3] R' h) Δ0) : ∃ (r1 r2 : Int32) (h1 h2 : List pC), Run prog E pV1 120 N1 [.ref 0, .int x1, .int x2, .int x3] h (some (.int r1), h1, 0, 0) ∧ Run prog E pV1 120 N2 [.ref 110, .int x1, .int x2, .int x3] h1 (some (.int r2), h2, 0, 0) ∧ (∃ o, pobj h1 110 = some o ∧ o.1 = m_c N2) ∧ HI HT h2 ∧ JT h2 ∧ (pRel R h2 ∧ cRel CR h2) ∧ Fr W h h2 := by
  unfold podchk at hck
  rw [Bool.and_eq_true, Bool.and_eq_true, Bool.and_eq_true] at hck
  obtain ⟨⟨⟨k1', k2'⟩, k3⟩, k5⟩ := hck
  exact prH3 k5 hN1 hN2 c1 c2 hK k3 hj (gS0 (tl := [none]) (ta := [any7]) hh (kn_rel hR hC hB k1') k2' hB hb hD (LG.cons (lG.any rfl) ⟨rfl, fun k x hk => by simp at hk⟩)) (fun σ Γ C h' e1 e2 e3 e4 => ecR_ok hR hC hB e4 e2 e3 e1)
theorem dr_inv4 (hN1 : prog[k1]? = some N1) (hN2 : prog[k2]? = some N2) (c1 : m_code N1 ≠ []) (c2 : m_code N2 ≠ []) (hr : RA prog E V (d + 1) (drM k1 k2 4) 0 [some (.ref 0), some (.ref 110), some (.int x1), some (.int x2), some (.int x3), some (.int x4)] [] h (some (.int 1), h2, 0, 0)) : ∃ (r : Int32) (h1 : List pC), Run prog E V d N1 [.ref 0, .int x1, .int x2, .int x3, .int x4] h (some (.int r), h1, 0, 0) ∧ Run prog E V d N2 [.ref 110, .int x1, .int x2, .int x3, .int x4] h1 (some (.int r), h2, 0, 0) ∧ ∃ o, pobj h1 110 = some o ∧ o.1 = m_c N2 := by
  have s1 := RA.steps_inv (i' := 5) (L' := [some (.ref 0), some (.ref 110), some (.int x1), some (.int x2), some (.int x3), some (.int x4)]) (st' := [.int x4, .int x3, .int x2, .int x1, .ref 0]) (h' := h) 5 rfl hr
  obtain ⟨r1, h1, q1, s2, -⟩ := RA.callv_inv (rest := []) rfl hN1 c1 rfl s1
  rw [List.append_nil] at s2
  generalize hQ : r1.toList = Q at s2
  have s3 := RA.steps_inv (i' := 11) (L' := [some (.ref 0), some (.ref 110), some (.int x1), some (.int x2), some (.int x3), some (.int x4)]) (st' := .int x4 :: .int x3 :: .int x2 :: .int x1 :: .ref 110 :: Q) (h' := h1) 5 rfl s2
  obtain ⟨r2, h3, q2, s4, q3⟩ := RA.callv_inv (rest := Q) rfl hN2 c2 rfl s3
  obtain ⟨a, b, rest, e, s5⟩ := RA.if2_inv rfl s4
  obtain ⟨e1, e2, rfl⟩ : r1 = some (.int a) ∧ r2 = some (.int b) ∧ rest = [] := by
    cases r1 with
    | none =>
      subst hQ
      cases r2 with
      | none => cases e
      | some w => cases e
    | some v =>
      subst hQ
      cases r2 with
      | none => cases e
      | some w => cases e; exact ⟨rfl, rfl, rfl⟩
  subst e1
  subst e2
  by_cases hab : a = b
  · subst hab
    rw [show pc2 .eq a a = true from decide_eq_true rfl] at s5
    have s6 := RA.steps_inv (i' := 16) (L' := [some (.ref 0), some (.ref 110), some (.int x1), some (.int x2), some (.int x3), some (.int x4)]) (st' := [.int 1]) (h' := h3) 1 rfl s5
    have s7 := RA.ret_inv rfl rfl s6
    have e3 : h2 = h3 := (Prod.mk.inj (Prod.mk.inj s7).2).1
    subst e3
    exact ⟨a, h1, q1, q2, q3⟩
  · rw [show pc2 .eq a b = false from decide_eq_false hab] at s5
    have s6 := RA.steps_inv (i' := 14) (L' := [some (.ref 0), some (.ref 110), some (.int x1), some (.int x2), some (.int x3), some (.int x4)]) (st' := [.int 0]) (h' := h3) 1 rfl s5
    have s7 := RA.ret_inv rfl rfl s6
    have e3 := Option.some.inj (Prod.mk.inj s7).1
    exact absurd e3 (by decide)
theorem dn_inv4 (hN1 : prog[k1]? = some N1) (hN2 : prog[k2]? = some N2) (c1 : m_code N1 ≠ []) (c2 : m_code N2 ≠ []) (hr : RA prog E V (d + 1) (drN k1 k2 4) 0 [some (.ref 0), some (.ref 110), some (.int x1), some (.int x2), some (.int x3), some (.int x4), none] [] h (some (.int 1), h2, 0, 0)) : ∃ (r1 r2 : Int32) (h1 : List pC), Run prog E V d N1 [.ref 0, .int x1, .int x2, .int x3, .int x4] h (some (.int r1), h1, 0, 0) ∧ Run prog E V d N2 [.ref 110, .int x1, .int x2, .int x3, .int x4] h1 (some (.int r2), h2, 0, 0) ∧ ∃ o, pobj h1 110 = some o ∧ o.1 = m_c N2 := by
  have s1 := RA.steps_inv (i' := 5) (L' := [some (.ref 0), some (.ref 110), some (.int x1), some (.int x2), some (.int x3), some (.int x4), none]) (st' := [.int x4, .int x3, .int x2, .int x1, .ref 0]) (h' := h) 5 rfl hr
  obtain ⟨r1, h1, q1, s2, -⟩ := RA.callv_inv (rest := []) rfl hN1 c1 rfl s1
  obtain ⟨a, rest, e, s3⟩ := RA.isto_inv rfl s2
  obtain ⟨rfl, rfl⟩ : r1 = some (.int a) ∧ rest = [] := by
    cases r1 with
    | none => cases e
    | some v => cases e; exact ⟨rfl, rfl⟩
  have s4 := s3 _ rfl
  have s5 := RA.steps_inv (i' := 12) (L' := [some (.ref 0), some (.ref 110), some (.int x1), some (.int x2), some (.int x3), some (.int x4), some (.int a)]) (st' := .int x4 :: .int x3 :: .int x2 :: .int x1 :: .ref 110 :: []) (h' := h1) 5 rfl s4
  obtain ⟨r2, h3, q2, s6, q3⟩ := RA.callv_inv (rest := []) rfl hN2 c2 rfl s5
  obtain ⟨b, rest, e, s7⟩ := RA.isto_inv rfl s6
  obtain ⟨rfl, rfl⟩ : r2 = some (.int b) ∧ rest = [] := by
    cases r2 with
    | none => cases e
    | some v => cases e; exact ⟨rfl, rfl⟩
  have s8 := s7 _ rfl
  have s9 := RA.steps_inv (i' := 15) (L' := [some (.ref 0), some (.ref 110), some (.int x1), some (.int x2), some (.int x3), some (.int x4), some (.int b)]) (st' := [.int 1]) (h' := h3) 1 rfl s8
  have s10 := RA.ret_inv rfl rfl s9
  have e3 : h2 = h3 := (Prod.mk.inj (Prod.mk.inj s10).2).1
  subst e3
  exact ⟨a, b, h1, q1, q2, q3⟩
theorem prG4 {Γ0 : aG} {C0 : aC} {Δ0 : aD} {A0 : aL} {σ0 : Nat → Int} {ec : aG → aC → Bool} {Q : List pC → Prop} (hck : aex prog HT W KC true tb (prS 12 false ec) noC f false 110 9999 (drM k1 k2 4) 0 Γ0 C0 Δ0 A0 [] [] [] = true) (hN1 : prog[k1]? = some N1) (hN2 : prog[k2]? = some N2) (c1 : m_code N1 ≠ []) (c2 : m_code N2 ≠ []) (hK : ∀ p ∈ KC, KGi E pV1 JT p.1 p.2) (hW : jf W = true) (hj : JT h) (g0 : gS Γ0.length σ0 HT W h σ0 (Γ0, C0, Δ0, A0, []) [some (.ref 0), some (.ref 110), some (.int x1), some (.int x2), some (.int x3), some (.int x4)] [] h) (hQ : ∀ (σ : Nat → Int) (Γ : aG) (C : aC) (h' : List pC), ec Γ C = true → gok σ Γ → cok Γ.length σ h' C → Fr W h h' → Q h') : ∃ (r : Int32) (h1 h2 : List pC), Run prog E pV1 120 N1 [.ref 0, .int x1, .int x2, .int x3, .int x4] h (some (.int r), h1, 0, 0) ∧ Run prog E pV1 120 N2 [.ref 110, .int x1, .int x2, .int x3, .int x4] h1 (some (.int r), h2, 0, 0) ∧ (∃ o, pobj h1 110 = some o ∧ o.1 = m_c N2) ∧ HI HT h2 ∧ JT h2 ∧ Q h2 ∧ Fr W h h2 := by
  suffices g : Gl prog E pV1 (PQo Q W h) 121 (drM k1 k2 4) 0 [some (.ref 0), some (.ref 110), some (.int x1), some (.int x2), some (.int x3), some (.int x4)] [] h [] by
    obtain ⟨r, h2, hra, rfl, p1, p2, p3, p4⟩ := g
    obtain ⟨r, h1, q1, q2, q3⟩ := dr_inv4 hN1 hN2 c1 c2 hra
    exact ⟨r, h1, h2, q1, q2, q3, p1, p2, p3, p4⟩
  refine aex_ok (n0 := Γ0.length) (σ0 := σ0) (E := E) (V := pV1) (h0 := h) (d0 := 121) (M0 := drM k1 k2 4) (J := JT) (Post := PQo Q W h) (fun h' hf => JT_P _ _ _ hW hf hj) (fun k N c hk hP => hK (k, c) (lookup_mem hk) N hP) (fun σ Γ C Δ x r h' hk => by cases hk) (fun i σ S L' st' h' hs g => ?_) f false 110 9999 _ 0 _ _ _ _ [] [] [] hck σ0 [some (.ref 0), some (.ref 110), some (.int x1), some (.int x2), some (.int x3), some (.int x4)] [] h 121 [] g0 (by decide) (by decide) (fun x hx => by cases hx) ⟨rfl, rfl⟩
  unfold prS at hs
  rw [Bool.and_eq_true, Bool.or_eq_true] at hs
  obtain ⟨z1, hs⟩ := hs
  obtain rfl := of_decide_eq_true z1
  rcases hs with hs | hs
  · exact (ctr_no g.2.2.2.1 hs).elim
  rw [Bool.and_eq_true] at hs
  obtain ⟨e1, e2⟩ := hs
  have hF := g.2.2.2.2.2.2.2
  have hq := hQ _ _ _ _ e1 g.2.1 g.2.2.1 hF
  have hs1 := g.2.2.2.2.2.1
  split at e2
  · rename_i hpp _
    cases hpp
  · rename_i y y' _ hst
    rw [hst] at hs1
    rw [Bool.and_eq_true, Bool.and_eq_true] at e2
    obtain ⟨⟨e2, e3⟩, e4⟩ := e2
    obtain rfl := of_decide_eq_true e2
    have e4 := of_decide_eq_true e4
    obtain ⟨w1, t1, rfl, v1, hs2⟩ := hs1.cons_inv
    obtain ⟨w2, t2, rfl, v2, hs3⟩ := hs2.cons_inv
    obtain rfl := hs3.nil_inv
    obtain ⟨u1, rfl, y1⟩ := v1.int e4
    obtain ⟨u2, rfl, y2⟩ := v2.int e4
    obtain rfl : u1 = u2 := Int32.toInt_inj.mp (det_ok e3 y1 y2)
    exact ⟨some (.int 1), h', RA.if2T (x := 15) rfl (decide_eq_true rfl) (RA.steps (i' := 16) (L' := L') (st' := [.int 1]) (h' := h') 1 rfl (RA.ret rfl rfl)), rfl, g.2.2.2.2.2.2.1, JT_P _ _ _ hW hF hj, hq, hF⟩
  · cases e2
theorem prH4 {Γ0 : aG} {C0 : aC} {Δ0 : aD} {A0 : aL} {σ0 : Nat → Int} {ec : aG → aC → Bool} {Q : List pC → Prop} (hck : aex prog HT W KC true tb (prS 14 true ec) noC f false 110 9999 (drN k1 k2 4) 0 Γ0 C0 Δ0 A0 [] [] [] = true) (hN1 : prog[k1]? = some N1) (hN2 : prog[k2]? = some N2) (c1 : m_code N1 ≠ []) (c2 : m_code N2 ≠ []) (hK : ∀ p ∈ KC, KGi E pV1 JT p.1 p.2) (hW : jf W = true) (hj : JT h) (g0 : gS Γ0.length σ0 HT W h σ0 (Γ0, C0, Δ0, A0, []) [some (.ref 0), some (.ref 110), some (.int x1), some (.int x2), some (.int x3), some (.int x4), none] [] h) (hQ : ∀ (σ : Nat → Int) (Γ : aG) (C : aC) (h' : List pC), ec Γ C = true → gok σ Γ → cok Γ.length σ h' C → Fr W h h' → Q h') : ∃ (r1 r2 : Int32) (h1 h2 : List pC), Run prog E pV1 120 N1 [.ref 0, .int x1, .int x2, .int x3, .int x4] h (some (.int r1), h1, 0, 0) ∧ Run prog E pV1 120 N2 [.ref 110, .int x1, .int x2, .int x3, .int x4] h1 (some (.int r2), h2, 0, 0) ∧ (∃ o, pobj h1 110 = some o ∧ o.1 = m_c N2) ∧ HI HT h2 ∧ JT h2 ∧ Q h2 ∧ Fr W h h2 := by
  suffices g : Gl prog E pV1 (PQo Q W h) 121 (drN k1 k2 4) 0 [some (.ref 0), some (.ref 110), some (.int x1), some (.int x2), some (.int x3), some (.int x4), none] [] h [] by
    obtain ⟨r, h2, hra, rfl, p1, p2, p3, p4⟩ := g
    obtain ⟨r1, r2, h1, q1, q2, q3⟩ := dn_inv4 hN1 hN2 c1 c2 hra
    exact ⟨r1, r2, h1, h2, q1, q2, q3, p1, p2, p3, p4⟩
  refine aex_ok (n0 := Γ0.length) (σ0 := σ0) (E := E) (V := pV1) (h0 := h) (d0 := 121) (M0 := drN k1 k2 4) (J := JT) (Post := PQo Q W h) (fun h' hf => JT_P _ _ _ hW hf hj) (fun k N c hk hP => hK (k, c) (lookup_mem hk) N hP) (fun σ Γ C Δ x r h' hk => by cases hk) (fun i σ S L' st' h' hs g => ?_) f false 110 9999 _ 0 _ _ _ _ [] [] [] hck σ0 [some (.ref 0), some (.ref 110), some (.int x1), some (.int x2), some (.int x3), some (.int x4), none] [] h 121 [] g0 (by decide) (by decide) (fun x hx => by cases hx) ⟨rfl, rfl⟩
  unfold prS at hs
  rw [Bool.and_eq_true, Bool.or_eq_true] at hs
  obtain ⟨z1, hs⟩ := hs
  obtain rfl := of_decide_eq_true z1
  rcases hs with hs | hs
  · exact (ctr_no g.2.2.2.1 hs).elim
  rw [Bool.and_eq_true] at hs
  obtain ⟨e1, e2⟩ := hs
  have hF := g.2.2.2.2.2.2.2
  have hq := hQ _ _ _ _ e1 g.2.1 g.2.2.1 hF
  have hs1 := g.2.2.2.2.2.1
  split at e2
  · rename_i _ hst
    rw [hst] at hs1
    obtain rfl := hs1.nil_inv
    exact ⟨some (.int 1), h', RA.steps (i' := 15) (L' := L') (st' := [.int 1]) (h' := h') 1 rfl (RA.ret rfl rfl), rfl, g.2.2.2.2.2.2.1, JT_P _ _ _ hW hF hj, hq, hF⟩
  · rename_i hpp _
    cases hpp
  · cases e2
theorem pr_ok4 {Δ0 : aD} (hck : prchk R CR R' W KC tb f k1 k2 4 bx Δ0 = true) (hN1 : prog[k1]? = some N1) (hN2 : prog[k2]? = some N2) (c1 : m_code N1 ≠ []) (c2 : m_code N2 ≠ []) (hK : ∀ p ∈ KC, KGi E pV1 JT p.1 p.2) (hh : HI HT h) (hj : JT h) (hR : pRel R h) (hC : cRel CR h) (hb : bxG [x1, x2, x3, x4] bx) (hB : pBd R' h) (hD : fok (gQ bx R').length (pσ [x1, x2, x3, x4] R' h) Δ0) : ∃ (r : Int32) (h1 h2 : List pC), Run prog E pV1 120 N1 [.ref 0, .int x1, .int x2, .int x3, .int x4] h (some (.int r), h1, 0, 0) ∧ Run prog E pV1 120 N2 [.ref 110, .int x1, .int x2, .int x3, .int x4] h1 (some (.int r), h2, 0, 0) ∧ (∃ o, pobj h1 110 = some o ∧ o.1 = m_c N2) ∧ HI HT h2 ∧ JT h2 ∧ (pRel R h2 ∧ cRel CR h2) ∧ Fr W h h2 := by
  unfold prchk at hck
  rw [Bool.and_eq_true, Bool.and_eq_true, Bool.and_eq_true] at hck
  obtain ⟨⟨⟨k1', k2'⟩, k3⟩, k5⟩ := hck
  exact prG4 k5 hN1 hN2 c1 c2 hK k3 hj (gS0 (tl := []) (ta := []) hh (kn_rel hR hC hB k1') k2' hB hb hD ⟨rfl, fun k x hk => by simp at hk⟩) (fun σ Γ C h' e1 e2 e3 e4 => ecR_ok hR hC hB e4 e2 e3 e1)
theorem po_ok4 {Δ0 : aD} (hck : podchk R CR R' W KC tb f k1 k2 4 bx Δ0 = true) (hN1 : prog[k1]? = some N1) (hN2 : prog[k2]? = some N2) (c1 : m_code N1 ≠ []) (c2 : m_code N2 ≠ []) (hK : ∀ p ∈ KC, KGi E pV1 JT p.1 p.2) (hh : HI HT h) (hj : JT h) (hR : pRel R h) (hC : cRel CR h) (hb : bxG [x1, x2, x3, x4] bx) (hB : pBd R' h) (hD : fok (gQ bx R').length (pσ [x1, x2, x3, x4] R' h) Δ0) : ∃ (r1 r2 : Int32) (h1 h2 : List pC), Run prog E pV1 120 N1 [.ref 0, .int x1, .int x2, .int x3, .int x4] h (some (.int r1), h1, 0, 0) ∧ Run prog E pV1 120 N2 [.ref 110, .int x1, .int x2, .int x3, .int x4] h1 (some (.int r2), h2, 0, 0) ∧ (∃ o, pobj h1 110 = some o ∧ o.1 = m_c N2) ∧ HI HT h2 ∧ JT h2 ∧ (pRel R h2 ∧ cRel CR h2) ∧ Fr W h h2 := by
  unfold podchk at hck
  rw [Bool.and_eq_true, Bool.and_eq_true, Bool.and_eq_true] at hck
  obtain ⟨⟨⟨k1', k2'⟩, k3⟩, k5⟩ := hck
  exact prH4 k5 hN1 hN2 c1 c2 hK k3 hj (gS0 (tl := [none]) (ta := [any7]) hh (kn_rel hR hC hB k1') k2' hB hb hD (LG.cons (lG.any rfl) ⟨rfl, fun k x hk => by simp at hk⟩)) (fun σ Γ C h' e1 e2 e3 e4 => ecR_ok hR hC hB e4 e2 e3 e1)
theorem dr_inv5 (hN1 : prog[k1]? = some N1) (hN2 : prog[k2]? = some N2) (c1 : m_code N1 ≠ []) (c2 : m_code N2 ≠ []) (hr : RA prog E V (d + 1) (drM k1 k2 5) 0 [some (.ref 0), some (.ref 110), some (.int x1), some (.int x2), some (.int x3), some (.int x4), some (.int x5)] [] h (some (.int 1), h2, 0, 0)) : ∃ (r : Int32) (h1 : List pC), Run prog E V d N1 [.ref 0, .int x1, .int x2, .int x3, .int x4, .int x5] h (some (.int r), h1, 0, 0) ∧ Run prog E V d N2 [.ref 110, .int x1, .int x2, .int x3, .int x4, .int x5] h1 (some (.int r), h2, 0, 0) ∧ ∃ o, pobj h1 110 = some o ∧ o.1 = m_c N2 := by
  have s1 := RA.steps_inv (i' := 6) (L' := [some (.ref 0), some (.ref 110), some (.int x1), some (.int x2), some (.int x3), some (.int x4), some (.int x5)]) (st' := [.int x5, .int x4, .int x3, .int x2, .int x1, .ref 0]) (h' := h) 6 rfl hr
  obtain ⟨r1, h1, q1, s2, -⟩ := RA.callv_inv (rest := []) rfl hN1 c1 rfl s1
  rw [List.append_nil] at s2
  generalize hQ : r1.toList = Q at s2
  have s3 := RA.steps_inv (i' := 13) (L' := [some (.ref 0), some (.ref 110), some (.int x1), some (.int x2), some (.int x3), some (.int x4), some (.int x5)]) (st' := .int x5 :: .int x4 :: .int x3 :: .int x2 :: .int x1 :: .ref 110 :: Q) (h' := h1) 6 rfl s2
  obtain ⟨r2, h3, q2, s4, q3⟩ := RA.callv_inv (rest := Q) rfl hN2 c2 rfl s3
  obtain ⟨a, b, rest, e, s5⟩ := RA.if2_inv rfl s4
  obtain ⟨e1, e2, rfl⟩ : r1 = some (.int a) ∧ r2 = some (.int b) ∧ rest = [] := by
    cases r1 with
    | none =>
      subst hQ
      cases r2 with
      | none => cases e
      | some w => cases e
    | some v =>
      subst hQ
      cases r2 with
      | none => cases e
      | some w => cases e; exact ⟨rfl, rfl, rfl⟩
  subst e1
  subst e2
  by_cases hab : a = b
  · subst hab
    rw [show pc2 .eq a a = true from decide_eq_true rfl] at s5
    have s6 := RA.steps_inv (i' := 18) (L' := [some (.ref 0), some (.ref 110), some (.int x1), some (.int x2), some (.int x3), some (.int x4), some (.int x5)]) (st' := [.int 1]) (h' := h3) 1 rfl s5
    have s7 := RA.ret_inv rfl rfl s6
    have e3 : h2 = h3 := (Prod.mk.inj (Prod.mk.inj s7).2).1
    subst e3
    exact ⟨a, h1, q1, q2, q3⟩
  · rw [show pc2 .eq a b = false from decide_eq_false hab] at s5
    have s6 := RA.steps_inv (i' := 16) (L' := [some (.ref 0), some (.ref 110), some (.int x1), some (.int x2), some (.int x3), some (.int x4), some (.int x5)]) (st' := [.int 0]) (h' := h3) 1 rfl s5
    have s7 := RA.ret_inv rfl rfl s6
    have e3 := Option.some.inj (Prod.mk.inj s7).1
    exact absurd e3 (by decide)
theorem dn_inv5 (hN1 : prog[k1]? = some N1) (hN2 : prog[k2]? = some N2) (c1 : m_code N1 ≠ []) (c2 : m_code N2 ≠ []) (hr : RA prog E V (d + 1) (drN k1 k2 5) 0 [some (.ref 0), some (.ref 110), some (.int x1), some (.int x2), some (.int x3), some (.int x4), some (.int x5), none] [] h (some (.int 1), h2, 0, 0)) : ∃ (r1 r2 : Int32) (h1 : List pC), Run prog E V d N1 [.ref 0, .int x1, .int x2, .int x3, .int x4, .int x5] h (some (.int r1), h1, 0, 0) ∧ Run prog E V d N2 [.ref 110, .int x1, .int x2, .int x3, .int x4, .int x5] h1 (some (.int r2), h2, 0, 0) ∧ ∃ o, pobj h1 110 = some o ∧ o.1 = m_c N2 := by
  have s1 := RA.steps_inv (i' := 6) (L' := [some (.ref 0), some (.ref 110), some (.int x1), some (.int x2), some (.int x3), some (.int x4), some (.int x5), none]) (st' := [.int x5, .int x4, .int x3, .int x2, .int x1, .ref 0]) (h' := h) 6 rfl hr
  obtain ⟨r1, h1, q1, s2, -⟩ := RA.callv_inv (rest := []) rfl hN1 c1 rfl s1
  obtain ⟨a, rest, e, s3⟩ := RA.isto_inv rfl s2
  obtain ⟨rfl, rfl⟩ : r1 = some (.int a) ∧ rest = [] := by
    cases r1 with
    | none => cases e
    | some v => cases e; exact ⟨rfl, rfl⟩
  have s4 := s3 _ rfl
  have s5 := RA.steps_inv (i' := 14) (L' := [some (.ref 0), some (.ref 110), some (.int x1), some (.int x2), some (.int x3), some (.int x4), some (.int x5), some (.int a)]) (st' := .int x5 :: .int x4 :: .int x3 :: .int x2 :: .int x1 :: .ref 110 :: []) (h' := h1) 6 rfl s4
  obtain ⟨r2, h3, q2, s6, q3⟩ := RA.callv_inv (rest := []) rfl hN2 c2 rfl s5
  obtain ⟨b, rest, e, s7⟩ := RA.isto_inv rfl s6
  obtain ⟨rfl, rfl⟩ : r2 = some (.int b) ∧ rest = [] := by
    cases r2 with
    | none => cases e
    | some v => cases e; exact ⟨rfl, rfl⟩
  have s8 := s7 _ rfl
  have s9 := RA.steps_inv (i' := 17) (L' := [some (.ref 0), some (.ref 110), some (.int x1), some (.int x2), some (.int x3), some (.int x4), some (.int x5), some (.int b)]) (st' := [.int 1]) (h' := h3) 1 rfl s8
  have s10 := RA.ret_inv rfl rfl s9
  have e3 : h2 = h3 := (Prod.mk.inj (Prod.mk.inj s10).2).1
  subst e3
  exact ⟨a, b, h1, q1, q2, q3⟩
theorem prG5 {Γ0 : aG} {C0 : aC} {Δ0 : aD} {A0 : aL} {σ0 : Nat → Int} {ec : aG → aC → Bool} {Q : List pC → Prop} (hck : aex prog HT W KC true tb (prS 14 false ec) noC f false 110 9999 (drM k1 k2 5) 0 Γ0 C0 Δ0 A0 [] [] [] = true) (hN1 : prog[k1]? = some N1) (hN2 : prog[k2]? = some N2) (c1 : m_code N1 ≠ []) (c2 : m_code N2 ≠ []) (hK : ∀ p ∈ KC, KGi E pV1 JT p.1 p.2) (hW : jf W = true) (hj : JT h) (g0 : gS Γ0.length σ0 HT W h σ0 (Γ0, C0, Δ0, A0, []) [some (.ref 0), some (.ref 110), some (.int x1), some (.int x2), some (.int x3), some (.int x4), some (.int x5)] [] h) (hQ : ∀ (σ : Nat → Int) (Γ : aG) (C : aC) (h' : List pC), ec Γ C = true → gok σ Γ → cok Γ.length σ h' C → Fr W h h' → Q h') : ∃ (r : Int32) (h1 h2 : List pC), Run prog E pV1 120 N1 [.ref 0, .int x1, .int x2, .int x3, .int x4, .int x5] h (some (.int r), h1, 0, 0) ∧ Run prog E pV1 120 N2 [.ref 110, .int x1, .int x2, .int x3, .int x4, .int x5] h1 (some (.int r), h2, 0, 0) ∧ (∃ o, pobj h1 110 = some o ∧ o.1 = m_c N2) ∧ HI HT h2 ∧ JT h2 ∧ Q h2 ∧ Fr W h h2 := by
  suffices g : Gl prog E pV1 (PQo Q W h) 121 (drM k1 k2 5) 0 [some (.ref 0), some (.ref 110), some (.int x1), some (.int x2), some (.int x3), some (.int x4), some (.int x5)] [] h [] by
    obtain ⟨r, h2, hra, rfl, p1, p2, p3, p4⟩ := g
    obtain ⟨r, h1, q1, q2, q3⟩ := dr_inv5 hN1 hN2 c1 c2 hra
    exact ⟨r, h1, h2, q1, q2, q3, p1, p2, p3, p4⟩
  refine aex_ok (n0 := Γ0.length) (σ0 := σ0) (E := E) (V := pV1) (h0 := h) (d0 := 121) (M0 := drM k1 k2 5) (J := JT) (Post := PQo Q W h) (fun h' hf => JT_P _ _ _ hW hf hj) (fun k N c hk hP => hK (k, c) (lookup_mem hk) N hP) (fun σ Γ C Δ x r h' hk => by cases hk) (fun i σ S L' st' h' hs g => ?_) f false 110 9999 _ 0 _ _ _ _ [] [] [] hck σ0 [some (.ref 0), some (.ref 110), some (.int x1), some (.int x2), some (.int x3), some (.int x4), some (.int x5)] [] h 121 [] g0 (by decide) (by decide) (fun x hx => by cases hx) ⟨rfl, rfl⟩
  unfold prS at hs
  rw [Bool.and_eq_true, Bool.or_eq_true] at hs
  obtain ⟨z1, hs⟩ := hs
  obtain rfl := of_decide_eq_true z1
  rcases hs with hs | hs
  · exact (ctr_no g.2.2.2.1 hs).elim
  rw [Bool.and_eq_true] at hs
  obtain ⟨e1, e2⟩ := hs
  have hF := g.2.2.2.2.2.2.2
  have hq := hQ _ _ _ _ e1 g.2.1 g.2.2.1 hF
  have hs1 := g.2.2.2.2.2.1
  split at e2
  · rename_i hpp _
    cases hpp
  · rename_i y y' _ hst
    rw [hst] at hs1
    rw [Bool.and_eq_true, Bool.and_eq_true] at e2
    obtain ⟨⟨e2, e3⟩, e4⟩ := e2
    obtain rfl := of_decide_eq_true e2
    have e4 := of_decide_eq_true e4
    obtain ⟨w1, t1, rfl, v1, hs2⟩ := hs1.cons_inv
    obtain ⟨w2, t2, rfl, v2, hs3⟩ := hs2.cons_inv
    obtain rfl := hs3.nil_inv
    obtain ⟨u1, rfl, y1⟩ := v1.int e4
    obtain ⟨u2, rfl, y2⟩ := v2.int e4
    obtain rfl : u1 = u2 := Int32.toInt_inj.mp (det_ok e3 y1 y2)
    exact ⟨some (.int 1), h', RA.if2T (x := 17) rfl (decide_eq_true rfl) (RA.steps (i' := 18) (L' := L') (st' := [.int 1]) (h' := h') 1 rfl (RA.ret rfl rfl)), rfl, g.2.2.2.2.2.2.1, JT_P _ _ _ hW hF hj, hq, hF⟩
  · cases e2
theorem prH5 {Γ0 : aG} {C0 : aC} {Δ0 : aD} {A0 : aL} {σ0 : Nat → Int} {ec : aG → aC → Bool} {Q : List pC → Prop} (hck : aex prog HT W KC true tb (prS 16 true ec) noC f false 110 9999 (drN k1 k2 5) 0 Γ0 C0 Δ0 A0 [] [] [] = true) (hN1 : prog[k1]? = some N1) (hN2 : prog[k2]? = some N2) (c1 : m_code N1 ≠ []) (c2 : m_code N2 ≠ []) (hK : ∀ p ∈ KC, KGi E pV1 JT p.1 p.2) (hW : jf W = true) (hj : JT h) (g0 : gS Γ0.length σ0 HT W h σ0 (Γ0, C0, Δ0, A0, []) [some (.ref 0), some (.ref 110), some (.int x1), some (.int x2), some (.int x3), some (.int x4), some (.int x5), none] [] h) (hQ : ∀ (σ : Nat → Int) (Γ : aG) (C : aC) (h' : List pC), ec Γ C = true → gok σ Γ → cok Γ.length σ h' C → Fr W h h' → Q h') : ∃ (r1 r2 : Int32) (h1 h2 : List pC), Run prog E pV1 120 N1 [.ref 0, .int x1, .int x2, .int x3, .int x4, .int x5] h (some (.int r1), h1, 0, 0) ∧ Run prog E pV1 120 N2 [.ref 110, .int x1, .int x2, .int x3, .int x4, .int x5] h1 (some (.int r2), h2, 0, 0) ∧ (∃ o, pobj h1 110 = some o ∧ o.1 = m_c N2) ∧ HI HT h2 ∧ JT h2 ∧ Q h2 ∧ Fr W h h2 := by
  suffices g : Gl prog E pV1 (PQo Q W h) 121 (drN k1 k2 5) 0 [some (.ref 0), some (.ref 110), some (.int x1), some (.int x2), some (.int x3), some (.int x4), some (.int x5), none] [] h [] by
    obtain ⟨r, h2, hra, rfl, p1, p2, p3, p4⟩ := g
    obtain ⟨r1, r2, h1, q1, q2, q3⟩ := dn_inv5 hN1 hN2 c1 c2 hra
    exact ⟨r1, r2, h1, h2, q1, q2, q3, p1, p2, p3, p4⟩
  refine aex_ok (n0 := Γ0.length) (σ0 := σ0) (E := E) (V := pV1) (h0 := h) (d0 := 121) (M0 := drN k1 k2 5) (J := JT) (Post := PQo Q W h) (fun h' hf => JT_P _ _ _ hW hf hj) (fun k N c hk hP => hK (k, c) (lookup_mem hk) N hP) (fun σ Γ C Δ x r h' hk => by cases hk) (fun i σ S L' st' h' hs g => ?_) f false 110 9999 _ 0 _ _ _ _ [] [] [] hck σ0 [some (.ref 0), some (.ref 110), some (.int x1), some (.int x2), some (.int x3), some (.int x4), some (.int x5), none] [] h 121 [] g0 (by decide) (by decide) (fun x hx => by cases hx) ⟨rfl, rfl⟩
  unfold prS at hs
  rw [Bool.and_eq_true, Bool.or_eq_true] at hs
  obtain ⟨z1, hs⟩ := hs
  obtain rfl := of_decide_eq_true z1
  rcases hs with hs | hs
  · exact (ctr_no g.2.2.2.1 hs).elim
  rw [Bool.and_eq_true] at hs
  obtain ⟨e1, e2⟩ := hs
  have hF := g.2.2.2.2.2.2.2
  have hq := hQ _ _ _ _ e1 g.2.1 g.2.2.1 hF
  have hs1 := g.2.2.2.2.2.1
  split at e2
  · rename_i _ hst
    rw [hst] at hs1
    obtain rfl := hs1.nil_inv
    exact ⟨some (.int 1), h', RA.steps (i' := 17) (L' := L') (st' := [.int 1]) (h' := h') 1 rfl (RA.ret rfl rfl), rfl, g.2.2.2.2.2.2.1, JT_P _ _ _ hW hF hj, hq, hF⟩
  · rename_i hpp _
    cases hpp
  · cases e2
theorem pr_ok5 {Δ0 : aD} (hck : prchk R CR R' W KC tb f k1 k2 5 bx Δ0 = true) (hN1 : prog[k1]? = some N1) (hN2 : prog[k2]? = some N2) (c1 : m_code N1 ≠ []) (c2 : m_code N2 ≠ []) (hK : ∀ p ∈ KC, KGi E pV1 JT p.1 p.2) (hh : HI HT h) (hj : JT h) (hR : pRel R h) (hC : cRel CR h) (hb : bxG [x1, x2, x3, x4, x5] bx) (hB : pBd R' h) (hD : fok (gQ bx R').length (pσ [x1, x2, x3, x4, x5] R' h) Δ0) : ∃ (r : Int32) (h1 h2 : List pC), Run prog E pV1 120 N1 [.ref 0, .int x1, .int x2, .int x3, .int x4, .int x5] h (some (.int r), h1, 0, 0) ∧ Run prog E pV1 120 N2 [.ref 110, .int x1, .int x2, .int x3, .int x4, .int x5] h1 (some (.int r), h2, 0, 0) ∧ (∃ o, pobj h1 110 = some o ∧ o.1 = m_c N2) ∧ HI HT h2 ∧ JT h2 ∧ (pRel R h2 ∧ cRel CR h2) ∧ Fr W h h2 := by
  unfold prchk at hck
  rw [Bool.and_eq_true, Bool.and_eq_true, Bool.and_eq_true] at hck
  obtain ⟨⟨⟨k1', k2'⟩, k3⟩, k5⟩ := hck
  exact prG5 k5 hN1 hN2 c1 c2 hK k3 hj (gS0 (tl := []) (ta := []) hh (kn_rel hR hC hB k1') k2' hB hb hD ⟨rfl, fun k x hk => by simp at hk⟩) (fun σ Γ C h' e1 e2 e3 e4 => ecR_ok hR hC hB e4 e2 e3 e1)
theorem po_ok5 {Δ0 : aD} (hck : podchk R CR R' W KC tb f k1 k2 5 bx Δ0 = true) (hN1 : prog[k1]? = some N1) (hN2 : prog[k2]? = some N2) (c1 : m_code N1 ≠ []) (c2 : m_code N2 ≠ []) (hK : ∀ p ∈ KC, KGi E pV1 JT p.1 p.2) (hh : HI HT h) (hj : JT h) (hR : pRel R h) (hC : cRel CR h) (hb : bxG [x1, x2, x3, x4, x5] bx) (hB : pBd R' h) (hD : fok (gQ bx R').length (pσ [x1, x2, x3, x4, x5] R' h) Δ0) : ∃ (r1 r2 : Int32) (h1 h2 : List pC), Run prog E pV1 120 N1 [.ref 0, .int x1, .int x2, .int x3, .int x4, .int x5] h (some (.int r1), h1, 0, 0) ∧ Run prog E pV1 120 N2 [.ref 110, .int x1, .int x2, .int x3, .int x4, .int x5] h1 (some (.int r2), h2, 0, 0) ∧ (∃ o, pobj h1 110 = some o ∧ o.1 = m_c N2) ∧ HI HT h2 ∧ JT h2 ∧ (pRel R h2 ∧ cRel CR h2) ∧ Fr W h h2 := by
  unfold podchk at hck
  rw [Bool.and_eq_true, Bool.and_eq_true, Bool.and_eq_true] at hck
  obtain ⟨⟨⟨k1', k2'⟩, k3⟩, k5⟩ := hck
  exact prH5 k5 hN1 hN2 c1 c2 hK k3 hj (gS0 (tl := [none]) (ta := [any7]) hh (kn_rel hR hC hB k1') k2' hB hb hD (LG.cons (lG.any rfl) ⟨rfl, fun k x hk => by simp at hk⟩)) (fun σ Γ C h' e1 e2 e3 e4 => ecR_ok hR hC hB e4 e2 e3 e1)
end DRV
