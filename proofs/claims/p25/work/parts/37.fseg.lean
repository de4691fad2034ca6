/-! ===== parts of methods, told exactly: by the symbols of their beginning ===== -/
/-- an end: what is answered, what cells hold, what is known of the symbols -/
abbrev aPt : Type := aC × aD × List (Nat × Int × Int)
def ptB (n0 : Nat) (Γ : aG) (C : aC) (Δ : aD) (p : aPt) : Bool :=
  p.1.all (fun e => oldS n0 e.1 && oldS n0 e.2.1 && isI e.2.1 && oldS n0 e.2.2 && decide (cfind C e.1 e.2.1 = some e.2.2)) &&
  p.2.1.all (fun f => oldS n0 f.2.1 && oldS n0 f.2.2.1 && isI f.2.1 && isI f.2.2.1 && decide (f.1 < 6) && Δ.any (fun g => decide (g = f))) &&
  p.2.2.all (fun z => decide (z.1 < n0) && (match Γ[z.1]? with
    | some (.inl q) => decide (z.2.1 ≤ q.1) && decide (q.2 ≤ z.2.2)
    | _ => false))
/-- what it says, of the cells behind -/
def ptG (n0 : Nat) (σ : Nat → Int) (h : List pC) (p : aPt) : Prop := cok n0 σ h p.1 ∧ (∀ f ∈ p.2.1, ∃ a b : Int, zG n0 σ a f.2.1 ∧ zG n0 σ b f.2.2.1 ∧ rel f.1 a b) ∧ ∀ z ∈ p.2.2, z.2.1 ≤ σ z.1 ∧ σ z.1 ≤ z.2.2
abbrev aRt : Type := Option AV × aPt
abbrev aEs : Type := Nat × List (Option AV) × List AV × aPt
def rtB (n0 : Nat) (rs : List aRt) : aCh := fun Γ C Δ x => rs.any (fun p => ptB n0 Γ C Δ p.2 && (match p.1, x with
  | none, none => true
  | some y, some x => oldS n0 y && decide (x = y)
  | _, _ => false))
def esL (n0 : Nat) : List (Option AV) → aL → Bool
  | [], [] => true
  | none :: ps, x :: xs => !isL x && esL n0 ps xs
  | some y :: ps, x :: xs => decide (y.1 ≠ 7) && oldS n0 y && decide (x = y) && esL n0 ps xs
  | _, _ => false
def esB (n0 : Nat) (es : List aEs) : aSt := fun i S => es.any (fun z => decide (z.1 = i) && esL n0 z.2.1 S.2.2.2.1 && decide (S.2.2.2.2 = z.2.2.1) && z.2.2.1.all (oldS n0) && ptB n0 S.1 S.2.1 S.2.2.1 z.2.2.2)
def elG (n0 : Nat) (σ : Nat → Int) (L : pL) (ps : List (Option AV)) : Prop := L.length = ps.length ∧ ∀ (k : Nat) (p : Option AV), ps[k]? = some p → match p with
  | some x => ∃ w, pget L k = some w ∧ vG n0 σ w x
  | none => pcat2 (pget L k) = false
section FSG
variable {n0 : Nat} {σ0 : Nat → Int} {P : List pM} {E : pX} {V : pV} {T : List aT} {J : List pC → Prop} {W : aW} {KC : List (Nat × aK)} {tbl : aTb} {Post : Option Value → List pC → Prop} {h0 : List pC} {n : Nat} {σ σ' : Nat → Int} {Γ : aG} {C : aC} {Δ : aD}
theorem agr.symm (h : agr n σ σ') : agr n σ' σ := fun k hk => (h k hk).symm
theorem oldS_back {m : Nat} {x : AV} {w : Value} (ho : oldS n0 x = true) (ha : agr n0 σ σ') (hv : vG m σ' w x) : vG n0 σ w x := oldS_v ho ha.symm (Nat.le_refl _) hv
theorem oldS_backz {m : Nat} {x : AV} {z : Int} (ho : oldS n0 x = true) (h1 : x.1 ≤ 1) (ha : agr n0 σ σ') (hv : zG m σ' z x) : zG n0 σ z x := oldS_z ho h1 ha.symm (Nat.le_refl _) hv
theorem cfind_mem {xa xi v : AV} : ∀ {C : aC}, cfind C xa xi = some v → ∃ e ∈ C, e.1 = xa ∧ e.2.1 = xi ∧ e.2.2 = v
  | [], h => by cases h
  | e :: r, h => by
    rw [cfind] at h
    split at h
    · rename_i hq
      cases h
      exact ⟨e, List.mem_cons_self, hq.1, hq.2, rfl⟩
    · obtain ⟨e', h1, h2⟩ := cfind_mem h
      exact ⟨e', List.mem_cons_of_mem _ h1, h2⟩
theorem ptB_ok {h : List pC} {p : aPt} (ha : agr n0 σ0 σ) (hg : gok σ Γ) (hc : cok Γ.length σ h C) (hf : fok Γ.length σ Δ) (hb : ptB n0 Γ C Δ p = true) : ptG n0 σ0 h p := by
  unfold ptB at hb
  rw [Bool.and_eq_true, Bool.and_eq_true] at hb
  obtain ⟨⟨b1, b2⟩, b3⟩ := hb
  refine ⟨fun e he => ?_, fun f hf1 => ?_, fun z hz => ?_⟩
  · have h1 := List.all_eq_true.mp b1 e he
    simp only [Bool.and_eq_true, decide_eq_true_eq] at h1
    obtain ⟨⟨⟨⟨h1, h2⟩, h3⟩, h4⟩, h5⟩ := h1
    obtain ⟨e', he', q1, q2, q3⟩ := cfind_mem h5
    obtain ⟨a, i, w, k1, k2, k3, k4⟩ := hc e' he'
    rw [q1] at k1
    rw [q2] at k2
    rw [q3] at k4
    exact ⟨a, i, w, oldS_back h1 ha k1, oldS_backz h2 (isI_t h3) ha k2, k3, oldS_back h4 ha k4⟩
  · have h1 := List.all_eq_true.mp b2 f hf1
    simp only [Bool.and_eq_true, decide_eq_true_eq] at h1
    obtain ⟨⟨⟨⟨⟨h1, h2⟩, h3⟩, h4⟩, h5⟩, h6⟩ := h1
    obtain ⟨g, hgm, hge⟩ := List.any_eq_true.mp h6
    obtain rfl := of_decide_eq_true hge
    have k := hf g hgm
    unfold fcG at k
    rw [if_pos (by omega)] at k
    obtain ⟨a, b, k1, k2, k3⟩ := k
    exact ⟨a, b, oldS_backz h1 (isI_t h3) ha k1, oldS_backz h2 (isI_t h4) ha k2, k3⟩
  · have h1 := List.all_eq_true.mp b3 z hz
    rw [Bool.and_eq_true] at h1
    have k0 := of_decide_eq_true h1.1
    have h2 := h1.2
    split at h2
    · rename_i q hq
      have he : q.1 ≤ σ z.1 ∧ σ z.1 ≤ q.2 := hg _ _ hq
      rw [ha _ k0] at he
      simp only [Bool.and_eq_true, decide_eq_true_eq] at h2
      omega
    · cases h2
theorem esL_ok (ha : agr n0 σ0 σ) {m : Nat} : ∀ {ps : List (Option AV)} {A : aL} {L : pL}, LG m σ L A → esL n0 ps A = true → elG n0 σ0 L ps
  | [], [], L, h, _ => ⟨h.1, fun k p hk => by simp at hk⟩
  | p :: ps, x :: A, [], h, _ => by have := h.1; simp at this
  | p :: ps, x :: A, o :: L, h, hb => by
    have ht : LG m σ L A := ⟨Nat.succ.inj h.1, fun k y hk => by
      have := h.2 (k + 1) y hk
      rw [pget_consS] at this
      exact this⟩
    have hb2 : esL n0 ps A = true := by
      cases p with
      | none => rw [esL, Bool.and_eq_true] at hb; exact hb.2
      | some y => rw [esL, Bool.and_eq_true] at hb; exact hb.2
    have ih := esL_ok ha ht hb2
    refine ⟨by rw [List.length_cons, List.length_cons, ih.1], fun k q hk => ?_⟩
    match k, hk with
    | 0, hk =>
      cases hk
      cases p with
      | none =>
        rw [esL, Bool.and_eq_true] at hb
        have h1 : isL x = false := by simpa using hb.1
        exact h.cat2 (k := 0) (x := x) rfl (of_decide_eq_false h1)
      | some y =>
        rw [esL, Bool.and_eq_true, Bool.and_eq_true, Bool.and_eq_true] at hb
        obtain ⟨⟨⟨c1, c2⟩, c3⟩, -⟩ := hb
        obtain rfl := of_decide_eq_true c3
        obtain ⟨w, hw, hv⟩ := h.at (k := 0) (x := x) rfl (of_decide_eq_true c1)
        exact ⟨w, hw, oldS_back c2 ha hv⟩
    | k + 1, hk =>
      have := ih.2 k q hk
      rw [pget_consS]
      exact this
  | [], _ :: _, _, _, hb => by cases hb
  | none :: _, [], _, _, hb => by cases hb
  | some _ :: _, [], _, _, hb => by cases hb
theorem oldS_SG (ha : agr n0 σ0 σ) {m : Nat} : ∀ {s : List AV} {st : List Value}, s.all (oldS n0) = true → SG m σ st s → SG n0 σ0 st s
  | [], st, _, h => by
    obtain rfl := h.nil_inv
    trivial
  | x :: s, st, ho, h => by
    rw [List.all_cons, Bool.and_eq_true] at ho
    obtain ⟨w, r, rfl, h1, h2⟩ := h.cons_inv
    exact ⟨oldS_back ho.1 ha h1, oldS_SG ha ho.2 h2⟩
def fsegchk (P : List pM) (T : List aT) (W : aW) (KC : List (Nat × aK)) (tbl : aTb) (f q k i : Nat) (sk : Bool) (Γ0 : aG) (C0 : aC) (A0 : aL) (S0 : List AV) (es : List aEs) (rs : List aRt) : Bool := match P[k]? with
  | some M => decide (1 ≤ q) && aex P T W KC true tbl (esB Γ0.length es) (rtB Γ0.length rs) f sk q k M i Γ0 C0 [] A0 S0 [] []
  | none => false
theorem fseg_ok {f q k i d : Nat} {sk : Bool} {Γ0 : aG} {C0 : aC} {A0 : aL} {S0 : List AV} {es : List aEs} {rs : List aRt} {N : pM} {L : pL} {st : List Value} (hc : fsegchk P T W KC tbl f q k i sk Γ0 C0 A0 S0 es rs = true) (hN : P[k]? = some N) (hK : ∀ k N c, KC.lookup k = some c → P[k]? = some N → KG P E V T J N c) (hJ : ∀ h, Fr W h0 h → J h) (hq : q ≤ d) (hg : gok σ0 Γ0) (hC : cok Γ0.length σ0 h0 C0) (hL : LG Γ0.length σ0 L A0) (hS : SG Γ0.length σ0 st S0) (hh : HI T h0)
    (hret : ∀ p ∈ rs, ∀ r h', rvG Γ0.length σ0 r p.1 → ptG Γ0.length σ0 h' p.2 → HI T h' → Fr W h0 h' → Post r h')
    (hen : ∀ z ∈ es, ∀ (L' : pL) (st' : List Value) (h' : List pC), elG Γ0.length σ0 L' z.2.1 → SG Γ0.length σ0 st' z.2.2.1 → ptG Γ0.length σ0 h' z.2.2.2 → HI T h' → Fr W h0 h' → Gl P E V Post d N z.1 L' st' h' []) : Gl P E V Post d N i L st h0 [] := by
  unfold fsegchk at hc
  rw [hN] at hc
  dsimp only at hc
  rw [Bool.and_eq_true] at hc
  refine aex_ok (n0 := Γ0.length) (σ0 := σ0) (E := E) (V := V) (h0 := h0) (d0 := d) (M0 := N) (stp := esB Γ0.length es) (chk := rtB Γ0.length rs) (J := J) (Post := Post) hJ hK ?_ ?_ f sk q k N i _ C0 [] _ _ [] [] hc.2 σ0 L st h0 d [] ⟨⟨Nat.le_refl _, agr.rf _ _⟩, hg, hC, (fun e he => by cases he), hL, hS, hh, Fr.rf _ _⟩ hq (of_decide_eq_true hc.1) (fun x hx => by cases hx) ⟨rfl, rfl⟩
  · intro σ Γ C Δ x r h' hk ha hg hc hf hv hH hF
    obtain ⟨p, hp, hp2⟩ := List.any_eq_true.mp hk
    rw [Bool.and_eq_true] at hp2
    refine hret p hp r h' ?_ (ptB_ok ha.2 hg hc hf hp2.1) hH hF
    have h2 := hp2.2
    cases hp1 : p.1 with
    | none =>
      rw [hp1] at h2
      cases x with
      | none =>
        cases r with
        | none => trivial
        | some w => exact hv.elim
      | some x => cases h2
    | some y =>
      rw [hp1] at h2
      cases x with
      | none => cases h2
      | some x =>
        have h2 : (oldS Γ0.length y && decide (x = y)) = true := h2
        rw [Bool.and_eq_true] at h2
        obtain rfl := of_decide_eq_true h2.2
        cases r with
        | none => exact hv.elim
        | some w => exact oldS_back h2.1 ha.2 hv
  · intro i σ S L' st' h' hs g
    obtain ⟨z, hz, hz2⟩ := List.any_eq_true.mp hs
    simp only [Bool.and_eq_true] at hz2
    obtain ⟨⟨⟨⟨z1, z2⟩, z3⟩, z4⟩, z5⟩ := hz2
    obtain rfl := of_decide_eq_true z1
    have z3 := of_decide_eq_true z3
    exact hen z hz L' st' h' (esL_ok g.1.2 g.2.2.2.2.1 z2) (oldS_SG g.1.2 z4 (by rw [← z3]; exact g.2.2.2.2.2.1)) (ptB_ok g.1.2 g.2.1 g.2.2.1 g.2.2.2.1 z5) g.2.2.2.2.2.2.1 g.2.2.2.2.2.2.2
end FSG
