/-! ===== parts of methods: from one place to others, by types of what lies in locals and on the stack ===== -/
abbrev lTy : Type := List (Option aA)
def ltG (L : pL) (ts : lTy) : Prop := L.length = ts.length ∧ ∀ (k : Nat) (p : Option aA), ts[k]? = some p → match p with
  | some q => ∃ w, pget L k = some w ∧ argG w q
  | none => pcat2 (pget L k) = false
def ltA : lTy → aG → aG × aL
  | [], Γ => (Γ, [])
  | none :: r, Γ => ((ltA r Γ).1, any7 :: (ltA r Γ).2)
  | some p :: r, Γ => ((ltA r (Γ ++ (argA p Γ.length).1)).1, (argA p Γ.length).2 :: (ltA r (Γ ++ (argA p Γ.length).1)).2)
def ltN (p : Option aA) : Bool := match p with
  | some q => noNull q
  | none => true
def ltB1 (Γ : aG) (x : AV) (p : Option aA) : Bool := match p with
  | some q => decide (x.1 ≠ 7) && argB Γ x q
  | none => !isL x
def ltB (Γ : aG) : aL → lTy → Bool
  | [], [] => true
  | x :: xs, p :: ps => ltB1 Γ x p && ltB Γ xs ps
  | _, _ => false
section SEG
variable {n0 : Nat} {σ0 : Nat → Int} {P : List pM} {E : pX} {V : pV} {T : List aT} {J : List pC → Prop} {W : aW} {KC : List (Nat × aK)} {tbl : aTb} {Post : Option Value → List pC → Prop} {h0 : List pC}
theorem vG.notL {n : Nat} {σ : Nat → Int} {w : Value} {p : aA} (h : argG w p) : pcat2 (some w) = false := by
  cases p with
  | inl q => obtain ⟨v, rfl, -⟩ := h; rfl
  | inr q => rcases h with h | ⟨a, -, rfl⟩
             · rw [h.2]; rfl
             · rfl
theorem ltA_le : ∀ (ts : lTy) (Γ : aG), Γ.length ≤ (ltA ts Γ).1.length
  | [], _ => Nat.le_refl _
  | none :: r, Γ => ltA_le r Γ
  | some p :: r, Γ => by
    have := ltA_le r (Γ ++ (argA p Γ.length).1)
    rw [List.length_append] at this
    rw [ltA]
    dsimp only
    omega
theorem ltG.tl {o : Option Value} {L : pL} {p : Option aA} {ts : lTy} (h : ltG (o :: L) (p :: ts)) : ltG L ts := ⟨Nat.succ.inj h.1, fun k q hk => by
  have := h.2 (k + 1) q hk
  rw [pget_consS] at this
  exact this⟩
theorem LG.cons {n : Nat} {σ : Nat → Int} {o : Option Value} {L : pL} {x : AV} {A : aL} (h1 : lG n σ o x) (h2 : LG n σ L A) : LG n σ (o :: L) (x :: A) := ⟨by rw [List.length_cons, List.length_cons, h2.1], fun k y hk => by
  match k, hk with
  | 0, hk => cases hk; exact h1
  | k + 1, hk =>
    rw [pget_consS]
    exact h2.2 k y hk⟩
theorem ltA_ok : ∀ {ts : lTy} {L : pL} {σ : Nat → Int} {Γ : aG}, gok σ Γ → ts.all ltN = true → ltG L ts → ∃ σ', agr Γ.length σ σ' ∧ gok σ' (ltA ts Γ).1 ∧ LG (ltA ts Γ).1.length σ' L (ltA ts Γ).2
  | [], [], σ, Γ, hg, _, _ => ⟨σ, agr.rf _ _, hg, rfl, fun k x hk => by simp [ltA] at hk⟩
  | [], _ :: _, _, _, _, _, h => by have := h.1; simp at this
  | _ :: _, [], _, _, _, _, h => by have := h.1; simp at this
  | none :: r, o :: L, σ, Γ, hg, hn, h => by
    rw [List.all_cons, Bool.and_eq_true] at hn
    obtain ⟨σ', a1, a2, a3⟩ := ltA_ok hg hn.2 h.tl
    exact ⟨σ', a1, a2, LG.cons (lG.any (h.2 0 none rfl)) a3⟩
  | some p :: r, o :: L, σ, Γ, hg, hn, h => by
    rw [List.all_cons, Bool.and_eq_true] at hn
    obtain ⟨w, hw, ha⟩ : ∃ w, pget (o :: L) 0 = some w ∧ argG w p := h.2 0 (some p) rfl
    obtain ⟨σ1, s1, s2, s3⟩ := argA_ok hg hn.1 ha
    obtain ⟨σ2, t1, t2, t3⟩ := ltA_ok s2 hn.2 h.tl
    have hle : Γ.length ≤ (Γ ++ (argA p Γ.length).1).length := by rw [List.length_append]; omega
    exact ⟨σ2, s1.tr (t1.le hle), t2, LG.cons (lG.of hw (s3.up (ltA_le r _) t1)) t3⟩
theorem ltB_ok {σ : Nat → Int} {Γ : aG} (hg : gok σ Γ) : ∀ {ts : lTy} {A : aL} {L : pL}, LG Γ.length σ L A → ltB Γ A ts = true → ltG L ts
  | [], [], L, h, _ => ⟨h.1, fun k p hk => by simp at hk⟩
  | p :: ts, x :: A, [], h, _ => by have := h.1; simp at this
  | p :: ts, x :: A, o :: L, h, hb => by
    rw [ltB, Bool.and_eq_true] at hb
    have ht : LG Γ.length σ L A := ⟨Nat.succ.inj h.1, fun k y hk => by
      have := h.2 (k + 1) y hk
      rw [pget_consS] at this
      exact this⟩
    have ih := ltB_ok hg ht hb.2
    refine ⟨by rw [List.length_cons, List.length_cons, ih.1], fun k q hk => ?_⟩
    match k, hk with
    | 0, hk =>
      cases hk
      cases p with
      | none =>
        have h1 : isL x = false := by
          have := hb.1
          unfold ltB1 at this
          simpa using this
        exact h.cat2 (k := 0) (x := x) rfl (of_decide_eq_false h1)
      | some q =>
        have h1 := hb.1
        unfold ltB1 at h1
        dsimp only at h1
        rw [Bool.and_eq_true] at h1
        obtain ⟨w, hw, hv⟩ := h.at (k := 0) (x := x) rfl (of_decide_eq_true h1.1)
        exact ⟨w, hw, argB_ok hg hv h1.2⟩
    | k + 1, hk =>
      have := ih.2 k q hk
      rw [pget_consS]
      exact this
  | [], _ :: _, _, _, hb => by cases hb
  | _ :: _, [], _, _, hb => by cases hb
/-- where a part may end: the place, what lies in the locals, on the stack -/
abbrev aEn : Type := Nat × lTy × List aA
def enB (ens : List aEn) : aSt := fun i S => ens.any (fun z => decide (z.1 = i) && ltB S.1 S.2.2.2.1 z.2.1 && argsB S.1 S.2.2.2.2 z.2.2)
def segchk (P : List pM) (T : List aT) (W : aW) (KC : List (Nat × aK)) (tbl : aTb) (f q k i : Nat) (sk : Bool) (lt : lTy) (st : List aA) (ens : List aEn) (ro : Option (Int × Int)) : Bool := match P[k]? with
  | some M => lt.all ltN && st.all noNull && decide (1 ≤ q) && aex P T W KC true tbl (enB ens) (chkR ro) f sk q k M i (ltA lt (argsA st []).1).1 [] [] (ltA lt (argsA st []).1).2 (argsA st []).2 [] []
  | none => false
theorem seg_ok {f q k i d : Nat} {sk : Bool} {lt : lTy} {sts : List aA} {ens : List aEn} {ro : Option (Int × Int)} {N : pM} {L : pL} {st : List Value} (hc : segchk P T W KC tbl f q k i sk lt sts ens ro = true) (hN : P[k]? = some N) (hK : ∀ k N c, KC.lookup k = some c → P[k]? = some N → KG P E V T J N c) (hJ : ∀ h, Fr W h0 h → J h) (hq : q ≤ d) (hL : ltG L lt) (hst : argsG st sts) (hh : HI T h0)
    (hret : ∀ r h', retG r ro → HI T h' → Fr W h0 h' → Post r h')
    (hen : ∀ z ∈ ens, ∀ (L' : pL) (st' : List Value) (h' : List pC), ltG L' z.2.1 → argsG st' z.2.2 → HI T h' → Fr W h0 h' → Gl P E V Post d N z.1 L' st' h' []) : Gl P E V Post d N i L st h0 [] := by
  unfold segchk at hc
  rw [hN] at hc
  dsimp only at hc
  rw [Bool.and_eq_true, Bool.and_eq_true, Bool.and_eq_true] at hc
  obtain ⟨⟨⟨c1, c2⟩, c3⟩, c4⟩ := hc
  obtain ⟨σ1, s1, s2, s3⟩ := argsA_ok (σ := fun _ => 0) (Γ := []) (fun k e hk => by simp at hk) c2 hst
  obtain ⟨σ2, t1, t2, t3⟩ := ltA_ok s2 c1 hL
  exact aex_ok (n0 := 0) (σ0 := fun _ => 0) (E := E) (V := V) (h0 := h0) (d0 := d) (M0 := N) (stp := enB ens) (chk := chkR ro) (J := J) (Post := Post) hJ hK
    (fun σ Γ C Δ x r h' hk _ hg _ _ hv hH hF => hret r h' (chkR_ok hk hg hv) hH hF)
    (fun i σ S L' st' h' hs g => by
      obtain ⟨z, hz, hz2⟩ := List.any_eq_true.mp hs
      rw [Bool.and_eq_true, Bool.and_eq_true] at hz2
      obtain ⟨⟨z1, z2⟩, z3⟩ := hz2
      obtain rfl := of_decide_eq_true z1
      exact hen z hz L' st' h' (ltB_ok g.2.1 g.2.2.2.2.1 z2) (argsB_ok g.2.1 g.2.2.2.2.2.1 z3) g.2.2.2.2.2.2.1 g.2.2.2.2.2.2.2) f sk q k N i _ [] [] _ _ [] [] c4 σ2 L st h0 d [] ⟨⟨Nat.zero_le _, fun k hk => absurd hk (Nat.not_lt_zero _)⟩, t2, (fun e he => by cases he), (fun e he => by cases he), t3, s3.up (ltA_le _ _) t1, hh, Fr.rf _ _⟩ hq (of_decide_eq_true c3) (fun x hx => by cases hx) ⟨rfl, rfl⟩
end SEG
