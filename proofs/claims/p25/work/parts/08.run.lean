/-! ===== runs of the pure machine, fuel left out ===== -/
section RAS
variable {P : List pM} {E : pX} {V : pV}
theorem pexec_up (f : Nat) : ∀ (d : Nat) (M : pM) (i : Nat) (L : pL) (st : List Value) (h : List pC) (res : pR), pexec P E V f d M i L st h = some res → pexec P E V (f + 1) d M i L st h = some res := by
  induction f with
  | zero =>
    intro d M i L st h res hx
    cases hx
  | succ f ih =>
    intro d M i L st h res hx
    cases d with
    | zero => cases hx
    | succ d =>
      rw [pexec] at hx ⊢
      cases he : (m_code M)[i]? with
      | none => rw [he] at hx; cases hx
      | some t =>
        rw [he] at hx
        dsimp only at hx ⊢
        cases hpr : pret M t st with
        | some rr => rw [hpr] at hx; exact hx
        | none =>
          rw [hpr] at hx
          dsimp only at hx ⊢
          cases hpc : pcall P t st h with
          | some w =>
            obtain ⟨N, as, rest⟩ := w
            rw [hpc] at hx
            dsimp only at hx ⊢
            cases hcode : m_code N with
            | nil =>
              rw [hcode] at hx
              dsimp only at hx ⊢
              split at hx
              · rename_i h6
                rw [if_pos h6]
                cases hv : V N as h with
                | none => rw [hv] at hx; cases hx
                | some r1 =>
                  rw [hv] at hx
                  exact ih _ _ _ _ _ _ _ hx
              · cases hx
            | cons u us =>
              rw [hcode] at hx
              dsimp only at hx ⊢
              split at hx
              · rename_i h6
                rw [if_pos h6]
                cases h1 : pexec P E V f d N 0 (pent (m_l N) as) [] h with
                | none => rw [h1] at hx; cases hx
                | some w =>
                  rw [ih _ _ _ _ _ _ _ h1]
                  rw [h1] at hx
                  obtain ⟨r1, g1, k1, n1⟩ := w
                  dsimp only at hx ⊢
                  cases h2 : pexec P E V f (d + 1) M (i + 1) L (r1.toList ++ rest) g1 with
                  | none => rw [h2] at hx; cases hx
                  | some w =>
                    rw [ih _ _ _ _ _ _ _ h2]
                    rw [h2] at hx
                    exact hx
              · cases hx
          | none =>
            rw [hpc] at hx
            dsimp only at hx ⊢
            cases hps : pstep E t i L st h with
            | none => rw [hps] at hx; cases hx
            | some w =>
              obtain ⟨i1, L1, st1, g1, dk, dn⟩ := w
              rw [hps] at hx
              dsimp only at hx ⊢
              cases h2 : pexec P E V f (d + 1) M i1 L1 st1 g1 with
              | none => rw [h2] at hx; cases hx
              | some w =>
                rw [ih _ _ _ _ _ _ _ h2]
                rw [h2] at hx
                exact hx
theorem pexec_le {f g : Nat} (hfg : f ≤ g) {d : Nat} {M : pM} {i : Nat} {L : pL} {st : List Value} {h : List pC} {res : pR} (hx : pexec P E V f d M i L st h = some res) : pexec P E V g d M i L st h = some res := by
  induction hfg with
  | refl => exact hx
  | step _ ih => exact pexec_up _ _ _ _ _ _ _ _ ih
def RA (P : List pM) (E : pX) (V : pV) (d : Nat) (M : pM) (i : Nat) (L : pL) (st : List Value) (h : List pC) (res : pR) : Prop := ∃ f, pexec P E V f d M i L st h = some res
def Run (P : List pM) (E : pX) (V : pV) (d : Nat) (N : pM) (as : List Value) (h : List pC) (res : pR) : Prop := (pexp as).length ≤ m_l N ∧ (∃ u us, m_code N = u :: us) ∧ RA P E V d N 0 (pent (m_l N) as) [] h res
variable {d : Nat} {M N : pM} {i i' : Nat} {L L' : pL} {st st' : List Value} {h h' h1 h2 : List pC} {t : pE} {r r1 r2 : Option Value} {k1 n1 k2 n2 : Nat} {res : pR}
theorem RA.ret (he : (m_code M)[i]? = some t) (hr : pret M t st = some r) : RA P E V (d + 1) M i L st h (r, h, 0, 0) := ⟨1, by rw [pexec, he]; dsimp only; rw [hr]⟩
theorem RA.step {dk dn : Nat} (he : (m_code M)[i]? = some t) (hr : pret M t st = none) (hc : pcall P t st h = none) (hs : pstep E t i L st h = some (i', L', st', h', dk, dn)) (k : RA P E V (d + 1) M i' L' st' h' (r, h2, k2, n2)) : RA P E V (d + 1) M i L st h (r, h2, dk + k2, dn + n2) := by
  obtain ⟨f, hf⟩ := k
  refine ⟨f + 1, ?_⟩
  rw [pexec, he]
  dsimp only
  rw [hr]
  dsimp only
  rw [hc]
  dsimp only
  rw [hs]
  dsimp only
  rw [hf]
theorem RA.step0 (he : (m_code M)[i]? = some t) (hr : pret M t st = none) (hc : pcall P t st h = none) (hs : pstep E t i L st h = some (i', L', st', h', 0, 0)) (k : RA P E V (d + 1) M i' L' st' h' res) : RA P E V (d + 1) M i L st h res := by
  obtain ⟨r, h2, k2, n2⟩ := res
  have q := RA.step he hr hc hs k
  rw [Nat.zero_add, Nat.zero_add] at q
  exact q
theorem RA.call {as rest : List Value} (he : (m_code M)[i]? = some t) (hr : pret M t st = none) (hc : pcall P t st h = some (N, as, rest)) (h0 : Run P E V d N as h (r1, h1, k1, n1)) (k : RA P E V (d + 1) M (i + 1) L (r1.toList ++ rest) h1 (r2, h2, k2, n2)) : RA P E V (d + 1) M i L st h (r2, h2, k1 + k2, n1 + n2) := by
  obtain ⟨hlen, ⟨u, us, hcode⟩, f, hf⟩ := h0
  obtain ⟨g, hg⟩ := k
  refine ⟨f + g + 1, ?_⟩
  rw [pexec, he]
  dsimp only
  rw [hr]
  dsimp only
  rw [hc]
  dsimp only
  rw [hcode]
  dsimp only
  rw [if_pos hlen, pexec_le (Nat.le_add_right f g) hf]
  dsimp only
  rw [pexec_le (Nat.le_add_left g f) hg]
theorem RA.call0 {as rest : List Value} (he : (m_code M)[i]? = some t) (hr : pret M t st = none) (hc : pcall P t st h = some (N, as, rest)) (h0 : Run P E V d N as h (r1, h1, 0, 0)) (k : RA P E V (d + 1) M (i + 1) L (r1.toList ++ rest) h1 res) : RA P E V (d + 1) M i L st h res := by
  obtain ⟨r, h2, k2, n2⟩ := res
  have q := RA.call he hr hc h0 k
  rw [Nat.zero_add, Nat.zero_add] at q
  exact q
theorem RA.prim {as rest : List Value} (he : (m_code M)[i]? = some t) (hr : pret M t st = none) (hc : pcall P t st h = some (N, as, rest)) (hcode : m_code N = []) (h6 : 6 ≤ d) (hv : V N as h = some r1) (k : RA P E V (d + 1) M (i + 1) L (r1.toList ++ rest) h res) : RA P E V (d + 1) M i L st h res := by
  obtain ⟨g, hg⟩ := k
  refine ⟨g + 1, ?_⟩
  rw [pexec, he]
  dsimp only
  rw [hr]
  dsimp only
  rw [hc]
  dsimp only
  rw [hcode]
  dsimp only
  rw [if_pos h6, hv]
  exact hg
def psteps (P : List pM) (E : pX) (M : pM) : Nat → Nat → pL → List Value → List pC → Option (Nat × pL × List Value × List pC)
  | 0, i, L, st, h => some (i, L, st, h)
  | n + 1, i, L, st, h => match (m_code M)[i]? with
    | some t => match pret M t st, pcall P t st h, pstep E t i L st h with
      | none, none, some (i', L', st', h', 0, 0) => psteps P E M n i' L' st' h'
      | _, _, _ => none
    | none => none
theorem RA.steps : ∀ (n : Nat) {i : Nat} {L : pL} {st : List Value} {h : List pC}, psteps P E M n i L st h = some (i', L', st', h') → RA P E V (d + 1) M i' L' st' h' res → RA P E V (d + 1) M i L st h res
  | 0, i, L, st, h, hs, k => by cases hs; exact k
  | n + 1, i, L, st, h, hs, k => by
    rw [psteps] at hs
    split at hs
    · rename_i t he
      split at hs
      · rename_i hr hc hps
        exact RA.step0 he hr hc hps (RA.steps n hs k)
      · cases hs
    · cases hs
theorem RA.if1 {k0 : ClassFile.Cond} {z : Int} {a : Int32} {pc x y : Nat} {v : Value} {ts : List Nat} {rest : List Value} (he : (m_code M)[i]? = some (pc, .ifCond k0 z, x, y, v, ts)) (kt : pc1 k0 a = true → RA P E V (d + 1) M x L rest h res) (kf : pc1 k0 a = false → RA P E V (d + 1) M (i + 1) L rest h res) : RA P E V (d + 1) M i L (.int a :: rest) h res := by
  cases hb : pc1 k0 a with
  | true => exact RA.step0 he rfl rfl (by show some (cond (pc1 k0 a) x (i + 1), L, rest, h, 0, 0) = _; rw [hb]; rfl) (kt hb)
  | false => exact RA.step0 he rfl rfl (by show some (cond (pc1 k0 a) x (i + 1), L, rest, h, 0, 0) = _; rw [hb]; rfl) (kf hb)
theorem RA.if2 {k0 : ClassFile.Cond} {z : Int} {a b : Int32} {pc x y : Nat} {v : Value} {ts : List Nat} {rest : List Value} (he : (m_code M)[i]? = some (pc, .if_icmp k0 z, x, y, v, ts)) (kt : pc2 k0 a b = true → RA P E V (d + 1) M x L rest h res) (kf : pc2 k0 a b = false → RA P E V (d + 1) M (i + 1) L rest h res) : RA P E V (d + 1) M i L (.int b :: .int a :: rest) h res := by
  cases hb : pc2 k0 a b with
  | true => exact RA.step0 he rfl rfl (by show some (cond (pc2 k0 a b) x (i + 1), L, rest, h, 0, 0) = _; rw [hb]; rfl) (kt hb)
  | false => exact RA.step0 he rfl rfl (by show some (cond (pc2 k0 a b) x (i + 1), L, rest, h, 0, 0) = _; rw [hb]; rfl) (kf hb)
theorem RA.to {res' : pR} (k : RA P E V d M i L st h res) (hq : res = res') : RA P E V d M i L st h res' := hq ▸ k
end RAS
