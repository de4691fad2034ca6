/-! ===== THE WALKER: a method by its instructions, abstractly; loops by a table of what changes in them ===== -/
abbrev aFr : Type := List (Int × Int × (Nat ⊕ (AV × AV)))
abbrev aGen : Type := aFr × List (Nat × Int × Int × Nat) × List Nat × aW × Nat × Bool
abbrev aX : Type := Nat × aS × Nat × aGen
abbrev aF : Type := Nat × Nat × pM × Nat × aL × List AV × List aX
abbrev cF : Type := Nat × pM × Nat × pL × List Value
def Kr (P : List pM) (E : pX) (V : pV) (Post : Option Value → List pC → Prop) : List cF → Option Value → List pC → Prop
  | [], r, h => Post r h
  | f :: fs, r, h => ∃ r' h', RA P E V f.1 f.2.1 f.2.2.1 f.2.2.2.1 (r.toList ++ f.2.2.2.2) h (r', h', 0, 0) ∧ Kr P E V Post fs r' h'
/-- a run from here to the end of all that waits, and what is wanted there -/
def Gl (P : List pM) (E : pX) (V : pV) (Post : Option Value → List pC → Prop) (d : Nat) (M : pM) (i : Nat) (L : pL) (st : List Value) (h : List pC) (fs : List cF) : Prop := ∃ r h', RA P E V d M i L st h (r, h', 0, 0) ∧ Kr P E V Post fs r h'
section GLS
variable {P : List pM} {E : pX} {V : pV} {Post : Option Value → List pC → Prop} {d : Nat} {M N : pM} {i i' : Nat} {L L' : pL} {st st' : List Value} {h h' : List pC} {fs : List cF} {t : pE} {r : Option Value}
theorem Gl.step (he : (m_code M)[i]? = some t) (hr : pret M t st = none) (hc : pcall P t st h = none) (hs : pstep E t i L st h = some (i', L', st', h', 0, 0)) (g : Gl P E V Post (d + 1) M i' L' st' h' fs) : Gl P E V Post (d + 1) M i L st h fs := by
  obtain ⟨r, h2, k1, k2⟩ := g
  exact ⟨r, h2, RA.step0 he hr hc hs k1, k2⟩
theorem Gl.ret (he : (m_code M)[i]? = some t) (hr : pret M t st = some r) (k : Kr P E V Post fs r h) : Gl P E V Post (d + 1) M i L st h fs := ⟨r, h, RA.ret he hr, k⟩
theorem Gl.call {as rest : List Value} (he : (m_code M)[i]? = some t) (hr : pret M t st = none) (hc : pcall P t st h = some (N, as, rest)) (hl : (pexp as).length ≤ m_l N) (hn : ∃ u us, m_code N = u :: us) (g : Gl P E V Post d N 0 (pent (m_l N) as) [] h ((d + 1, M, i + 1, L, rest) :: fs)) : Gl P E V Post (d + 1) M i L st h fs := by
  obtain ⟨r, h1, k1, r2, h2, k2, k3⟩ := g
  exact ⟨r2, h2, RA.call0 he hr hc ⟨hl, hn, k1⟩ k2, k3⟩
theorem Gl.con {as rest : List Value} {r1 : Option Value} {h1 : List pC} (he : (m_code M)[i]? = some t) (hr : pret M t st = none) (hc : pcall P t st h = some (N, as, rest)) (hk : CallG P E V d N as h r1 h1) (g : Gl P E V Post (d + 1) M (i + 1) L (r1.toList ++ rest) h1 fs) : Gl P E V Post (d + 1) M i L st h fs := by
  obtain ⟨r, h2, k1, k2⟩ := g
  rcases hk with hk | ⟨q1, q2, q3, rfl⟩
  · exact ⟨r, h2, RA.call0 he hr hc hk k1, k2⟩
  · exact ⟨r, h2, RA.prim he hr hc q1 q2 q3 k1, k2⟩
end GLS
/-! loops: what holds at their heads -/
def ev (σ : Nat → Int) (y : AV) : Int := if y.1 % 2 = 1 then y.2.1 * σ y.2.2.2 + y.2.2.1 else y.2.1
def lin (c1 c0 : Int) (y : AV) : AV := if y.1 = 1 then (1, c1 * y.2.1, c1 * y.2.2.1 + c0, y.2.2.2) else cn (c1 * y.2.1 + c0)
def src1 (C : aC) (A : aL) (f : Int × Int × (Nat ⊕ (AV × AV))) : Option AV := match f.2.2 with
  | .inl k => A[k]?
  | .inr q => cfind C q.1 q.2
def insOf (Γ : aG) (C : aC) (A : aL) : aFr → Option (List AV)
  | [] => some []
  | f :: r => match src1 C A f, insOf Γ C A r with
    | some x, some l => (match ivl Γ x with
      | some p => if isI x = true ∧ det x = true ∧ f.1 ≤ p.1 ∧ p.2 ≤ f.2.1 then some (x :: l) else none
      | none => none)
    | _, _ => none
def oldS (N0 : Nat) (x : AV) : Bool := if x.1 = 1 ∨ x.1 = 3 ∨ x.1 = 6 then decide (x.2.2.2 < N0) else true
def okV (N0 : Nat) (ins : List AV) (x y : AV) : Bool := (decide (x.1 = 1) && decide (N0 ≤ x.2.2.2) && (match ins[x.2.2.2 - N0]? with
  | some y0 => decide (lin x.2.1 x.2.2.1 y0 = y)
  | none => false)) || (oldS N0 x && decide (x = y))
def okL (N0 : Nat) (ins : List AV) (x y : AV) : Bool := (decide (x.1 = 7) && !isL y) || (decide (x.1 ≠ 7) && decide (y.1 ≠ 7) && okV N0 ins x y)
def all2 (f : AV → AV → Bool) : List AV → List AV → Bool
  | [], [] => true
  | x :: xs, y :: ys => f x y && all2 f xs ys
  | _, _ => false
def ent (X : aX) (Γ : aG) (C : aC) (A : aL) (s : List AV) : Option (List AV) := match insOf Γ C A X.2.2.2.1 with
  | some ins => if all2 (okL X.2.2.1 ins) X.2.1.2.2.2.1 A = true ∧ all2 (okV X.2.2.1 ins) X.2.1.2.2.2.2 s = true ∧ X.2.1.2.1.all (fun e => oldS X.2.2.1 e.1 && oldS X.2.2.1 e.2.1 && isI e.2.1 && (match cfind C e.1 e.2.1 with
    | some v => okV X.2.2.1 ins e.2.2 v
    | none => false)) = true then some ins else none
  | none => none
def XW (n0 : Nat) (X : aX) : Prop := n0 ≤ X.2.2.1 ∧ X.2.1.1.length = X.2.2.1 + X.2.2.2.1.length ∧ ∀ (j : Nat) (f : Int × Int × (Nat ⊕ (AV × AV))), X.2.2.2.1[j]? = some f → X.2.1.1[X.2.2.1 + j]? = some (.inl (f.1, f.2.1))
section LPS
variable {n0 : Nat} {σ0 : Nat → Int} {T : List aT} {W : aW} {h0 : List pC} {L : pL} {st : List Value} {h : List pC} {σ : Nat → Int} {Γ : aG} {C : aC} {Δ : aD} {A : aL} {s : List AV}
theorem det_ev {n : Nat} {z : Int} {y : AV} (hd : det y = true) (hz : zG n σ z y) : z = ev σ y := by
  unfold zG at hz
  unfold ev
  unfold det at hd
  simp only [Bool.or_eq_true, decide_eq_true_eq] at hd
  split at hz
  · rename_i h0
    rw [if_neg (by omega)]
    omega
  · rename_i h0
    rw [if_pos (by omega)]
    exact hz.1
theorem insOf_at {n : Nat} : ∀ {F : aFr} {ins : List AV}, insOf Γ C A F = some ins → gok σ Γ → ins.length = F.length ∧ ∀ (j : Nat) (f : Int × Int × (Nat ⊕ (AV × AV))), F[j]? = some f → ∃ y, ins[j]? = some y ∧ src1 C A f = some y ∧ y.1 ≤ 1 ∧ det y = true ∧ ∀ z : Int, zG n σ z y → f.1 ≤ z ∧ z ≤ f.2.1
  | [], ins, hi, hg => by
    rw [insOf] at hi
    cases hi
    exact ⟨rfl, fun j f hj => by simp at hj⟩
  | f :: r, ins, hi, hg => by
    rw [insOf] at hi
    split at hi
    · rename_i x l hx hl
      split at hi
      · rename_i p hp
        split at hi
        · rename_i hc
          cases hi
          obtain ⟨i1, i2⟩ := insOf_at (n := n) hl hg
          refine ⟨by rw [List.length_cons, List.length_cons, i1], fun j f' hj => ?_⟩
          match j, hj with
          | 0, hj =>
            cases hj
            refine ⟨x, rfl, hx, isI_t hc.1, hc.2.1, fun z hz => ?_⟩
            have := ivl_ok hg hz hp
            omega
          | j + 1, hj => exact i2 j f' hj
        · cases hi
      · cases hi
    · cases hi
/-- the values of the symbols, as the loop's head sees them -/
def sgm (σ : Nat → Int) (N0 : Nat) (ins : List AV) : Nat → Int := fun k => if k < N0 then σ k else match ins[k - N0]? with
  | some y => ev σ y
  | none => 0
theorem sgm_agr (σ : Nat → Int) (N0 : Nat) (ins : List AV) : agr N0 σ (sgm σ N0 ins) := fun k hk => if_pos hk
theorem sgm_new {N0 j : Nat} {ins : List AV} {y : AV} (hy : ins[j]? = some y) : sgm σ N0 ins (N0 + j) = ev σ y := by
  unfold sgm
  rw [if_neg (by omega), Nat.add_sub_cancel_left, hy]
theorem oldS_v {n m N0 : Nat} {x : AV} {w : Value} {σ' : Nat → Int} (ho : oldS N0 x = true) (ha : agr N0 σ σ') (hm : N0 ≤ m) (hv : vG n σ w x) : vG m σ' w x := by
  have hz : ∀ z : Int, zG n σ z x → (x.1 ≤ 3) → zG m σ' z x := fun z hz h3 => by
    unfold zG at hz ⊢
    split at hz
    · rename_i e
      rw [if_pos e]
      exact hz
    · rename_i e
      rw [if_neg e]
      unfold oldS at ho
      rw [if_pos (by omega)] at ho
      have ho := of_decide_eq_true ho
      exact ⟨by rw [ha _ ho]; exact hz.1, by omega⟩
  unfold vG at hv ⊢
  split at hv
  · exact ⟨hv.1, hz _ hv.2 (by omega)⟩
  · exact ⟨hv.1, hz _ hv.2 (by omega)⟩
  · exact hv
  · rcases hv with hv | hv
    · exact Or.inl hv
    · unfold oldS at ho
      rw [if_pos (by omega)] at ho
      have ho := of_decide_eq_true ho
      exact Or.inr ⟨hv.1, by rw [ha _ ho]; exact hv.2.1, by omega⟩
  · exact hv
theorem oldS_z {n m N0 : Nat} {x : AV} {z : Int} {σ' : Nat → Int} (ho : oldS N0 x = true) (h1 : x.1 ≤ 1) (ha : agr N0 σ σ') (hm : N0 ≤ m) (hz : zG n σ z x) : zG m σ' z x := by
  unfold zG at hz ⊢
  split at hz
  · rename_i e
    rw [if_pos e]
    exact hz
  · rename_i e
    rw [if_neg e]
    unfold oldS at ho
    rw [if_pos (by omega)] at ho
    have ho := of_decide_eq_true ho
    exact ⟨by rw [ha _ ho]; exact hz.1, by omega⟩
theorem okV_ok {n m N0 : Nat} {ins : List AV} {x y : AV} {w : Value} (hins : ∀ (j : Nat) (y : AV), ins[j]? = some y → y.1 ≤ 1 ∧ det y = true) (hm : m = N0 + ins.length) (hk : okV N0 ins x y = true) (hv : vG n σ w y) : vG m (sgm σ N0 ins) w x := by
  unfold okV at hk
  rw [Bool.or_eq_true] at hk
  rcases hk with hk | hk
  · rw [Bool.and_eq_true, Bool.and_eq_true] at hk
    obtain ⟨⟨k1, k2⟩, k3⟩ := hk
    have k1 := of_decide_eq_true k1
    have k2 := of_decide_eq_true k2
    split at k3
    · rename_i y0 hy0
      have k3 := of_decide_eq_true k3
      obtain ⟨q1, q2⟩ := hins _ _ hy0
      have hlt := (List.getElem?_eq_some_iff.mp hy0).1
      have es : sgm σ N0 ins x.2.2.2 = ev σ y0 := by
        have := sgm_new (σ := σ) (N0 := N0) hy0
        rw [show N0 + (x.2.2.2 - N0) = x.2.2.2 by omega] at this
        exact this
      have y1 : y.1 ≤ 1 := by
        rw [← k3]
        unfold lin
        split
        · exact Nat.le_refl _
        · exact Nat.zero_le _
      obtain ⟨v, rfl, hz⟩ := hv.int y1
      refine ⟨by omega, ?_⟩
      unfold zG
      rw [if_neg (by omega)]
      refine ⟨?_, by omega⟩
      rw [es, ← Int.add_zero (v.toInt)]
      unfold lin at k3
      split at k3
      · rename_i e1
        rw [← k3] at hz
        unfold zG at hz
        rw [if_neg (show ¬ (1 : Nat) % 2 = 0 by decide)] at hz
        have hz1 := hz.1
        dsimp only at hz1
        unfold ev
        rw [if_pos (by omega), hz1, Int.mul_add, Int.mul_assoc]
        omega
      · rename_i e1
        rw [← k3] at hz
        unfold zG at hz
        rw [if_pos (by rfl)] at hz
        have hz1 := hz
        unfold cn at hz1
        dsimp only at hz1
        unfold ev
        rw [if_neg (by omega)]
        omega
    · cases k3
  · rw [Bool.and_eq_true] at hk
    obtain ⟨k1, k2⟩ := hk
    obtain rfl := of_decide_eq_true k2
    exact oldS_v k1 (sgm_agr _ _ _) (by omega) hv
theorem all2_SG {f : AV → AV → Bool} {n m : Nat} {σ' : Nat → Int} (hf : ∀ x y w, f x y = true → vG n σ w y → vG m σ' w x) : ∀ {xs ys : List AV} {st : List Value}, all2 f xs ys = true → SG n σ st ys → SG m σ' st xs
  | [], [], _, _, hs => by
    obtain rfl := hs.nil_inv
    exact trivial
  | x :: xs, y :: ys, st, ha, hs => by
    rw [all2, Bool.and_eq_true] at ha
    obtain ⟨w, r, rfl, h1, h2⟩ := hs.cons_inv
    exact ⟨hf x y w ha.1 h1, all2_SG hf ha.2 h2⟩
  | [], _ :: _, _, ha, _ => by cases ha
  | _ :: _, [], _, ha, _ => by cases ha
theorem all2_at {f : AV → AV → Bool} : ∀ {xs ys : List AV}, all2 f xs ys = true → xs.length = ys.length ∧ ∀ (k : Nat) (x : AV), xs[k]? = some x → ∃ y, ys[k]? = some y ∧ f x y = true
  | [], [], _ => ⟨rfl, fun k x hk => by simp at hk⟩
  | x :: xs, y :: ys, ha => by
    rw [all2, Bool.and_eq_true] at ha
    obtain ⟨h1, h2⟩ := all2_at ha.2
    refine ⟨by rw [List.length_cons, List.length_cons, h1], fun k z hk => ?_⟩
    match k, hk with
    | 0, hk => cases hk; exact ⟨y, rfl, ha.1⟩
    | k + 1, hk => exact h2 k z hk
  | [], _ :: _, ha => by cases ha
  | _ :: _, [], ha => by cases ha
theorem ent_ok {X : aX} {ins : List AV} (hX : XW n0 X) (hb : ∀ (k : Nat) (e : aE), k < X.2.2.1 → X.2.1.1[k]? = some e → eG (σ k) e) (hf : fok X.2.2.1 σ X.2.1.2.2.1) (hn : X.2.2.1 ≤ Γ.length) (g : gS n0 σ0 T W h0 σ (Γ, C, Δ, A, s) L st h) (he : ent X Γ C A s = some ins) :
    ins.length = X.2.2.2.1.length ∧ (∀ (j : Nat) (f : Int × Int × (Nat ⊕ (AV × AV))), X.2.2.2.1[j]? = some f → ∃ y, ins[j]? = some y) ∧ agr X.2.2.1 σ (sgm σ X.2.2.1 ins) ∧ gS n0 σ0 T W h0 (sgm σ X.2.2.1 ins) X.2.1 L st h := by
  unfold ent at he
  split at he
  · rename_i ins' hi
    split at he
    · rename_i hc
      cases he
      obtain ⟨c1, c2, c3⟩ := hc
      obtain ⟨x1, x2, x3⟩ := hX
      obtain ⟨i1, i2⟩ := insOf_at (n := Γ.length) hi g.2.1
      have hins : ∀ (j : Nat) (y : AV), ins[j]? = some y → y.1 ≤ 1 ∧ det y = true := fun j y hy => by
        have hl := (List.getElem?_eq_some_iff.mp hy).1
        rw [i1] at hl
        obtain ⟨y', q1, q2, q3, q4, q5⟩ := i2 j _ (List.getElem?_eq_getElem hl)
        rw [hy] at q1
        cases q1
        exact ⟨q3, q4⟩
      have hm : X.2.1.1.length = X.2.2.1 + ins.length := by rw [x2, i1]
      have hag := sgm_agr σ X.2.2.1 ins
      have hbr : X.2.2.1 ≤ X.2.1.1.length := by omega
      refine ⟨i1, fun j f hj => by
        obtain ⟨y, q, -⟩ := i2 j f hj
        exact ⟨y, q⟩, hag, ⟨Nat.le_trans x1 hbr, g.1.2.tr (hag.le x1)⟩, fun k e hk => ?_, fun e he => ?_, hf.up hbr hag, ?_, ?_, g.2.2.2.2.2.2⟩
      · by_cases hlt : k < X.2.2.1
        · rw [hag k hlt]
          exact hb k e hlt hk
        · have hkl := (List.getElem?_eq_some_iff.mp hk).1
          have hj : k - X.2.2.1 < X.2.2.2.1.length := by omega
          have hF := List.getElem?_eq_getElem hj
          have h3 := x3 _ _ hF
          rw [show X.2.2.1 + (k - X.2.2.1) = k by omega, hk] at h3
          cases h3
          obtain ⟨y, q1, q2, q3, q4, q5⟩ := i2 _ _ hF
          have h4 := sgm_new (σ := σ) (N0 := X.2.2.1) q1
          rw [show X.2.2.1 + (k - X.2.2.1) = k by omega] at h4
          rw [h4]
          have hz : zG Γ.length σ (ev σ y) y := by
            unfold src1 at q2
            split at q2
            · rename_i a ha
              obtain ⟨w, hw, hv⟩ := g.2.2.2.2.1.at q2 (by omega)
              obtain ⟨v, rfl, hz⟩ := hv.int q3
              rw [← det_ev q4 hz]
              exact hz
            · rename_i q hq
              have hmem : ∃ e ∈ C, e.2.2 = y := by
                have : ∀ D : aC, cfind D q.1 q.2 = some y → ∃ e ∈ D, e.2.2 = y := by
                  intro D
                  induction D with
                  | nil => intro hD; cases hD
                  | cons e D ih =>
                    intro hD
                    rw [cfind] at hD
                    split at hD
                    · cases hD
                      exact ⟨e, List.mem_cons_self, rfl⟩
                    · obtain ⟨e', he', h5⟩ := ih hD
                      exact ⟨e', List.mem_cons_of_mem _ he', h5⟩
                exact this C q2
              obtain ⟨e, he, rfl⟩ := hmem
              obtain ⟨a, j, w, -, -, -, hv⟩ := g.2.2.1 e he
              obtain ⟨v, rfl, hz⟩ := hv.int q3
              rw [← det_ev q4 hz]
              exact hz
          exact q5 _ hz
      · have hc3 := List.all_eq_true.mp c3 e he
        rw [Bool.and_eq_true, Bool.and_eq_true, Bool.and_eq_true] at hc3
        obtain ⟨⟨⟨o1, o2⟩, o3⟩, o4⟩ := hc3
        split at o4
        · rename_i v hv
          have hex : ∃ e' ∈ C, e'.1 = e.1 ∧ e'.2.1 = e.2.1 ∧ e'.2.2 = v := by
            have : ∀ D : aC, cfind D e.1 e.2.1 = some v → ∃ e' ∈ D, e'.1 = e.1 ∧ e'.2.1 = e.2.1 ∧ e'.2.2 = v := by
              intro D
              induction D with
              | nil => intro hD; cases hD
              | cons e1 D ih =>
                intro hD
                rw [cfind] at hD
                split at hD
                · rename_i hq
                  cases hD
                  exact ⟨e1, List.mem_cons_self, hq.1, hq.2, rfl⟩
                · obtain ⟨e', he', h5⟩ := ih hD
                  exact ⟨e', List.mem_cons_of_mem _ he', h5⟩
            exact this C hv
          obtain ⟨e', he', r1, r2, r3⟩ := hex
          obtain ⟨a, j, w, f1, f2, f3, f4⟩ := g.2.2.1 e' he'
          rw [r1] at f1
          rw [r2] at f2
          rw [r3] at f4
          refine ⟨a, j, w, oldS_v o1 hag hbr f1, ?_, f3, okV_ok hins hm o4 f4⟩
          exact oldS_z o2 (isI_t o3) hag hbr f2
        · cases o4
      · obtain ⟨a1, a2⟩ := all2_at c1
        refine ⟨by rw [g.2.2.2.2.1.1, a1], fun k x hk => ?_⟩
        obtain ⟨y, hy, hok⟩ := a2 k x hk
        have hl := g.2.2.2.2.1.2 k y hy
        unfold okL at hok
        rw [Bool.or_eq_true] at hok
        rcases hok with hok | hok
        · rw [Bool.and_eq_true] at hok
          have k1 := of_decide_eq_true hok.1
          have k2 : isL y = false := by simpa using hok.2
          unfold lG
          rw [if_pos k1]
          exact g.2.2.2.2.1.cat2 hy (of_decide_eq_false k2)
        · rw [Bool.and_eq_true, Bool.and_eq_true] at hok
          obtain ⟨⟨k1, k2⟩, k3⟩ := hok
          have k1 := of_decide_eq_true k1
          have k2 := of_decide_eq_true k2
          obtain ⟨w, hw, hv⟩ := g.2.2.2.2.1.at hy k2
          exact lG.of hw (okV_ok hins hm k3 hv)
      · exact all2_SG (fun x y w hok hv => okV_ok hins hm hok hv) c2 g.2.2.2.2.2.1
    · cases he
  · cases he
end LPS
