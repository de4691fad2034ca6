/-! ===== the walker itself ===== -/
def rent (X : aX) (Γ : aG) (C : aC) (A : aL) (s : List AV) : Bool := match ent X Γ C A s with
  | some ins => (match ins[X.2.2.2.2.2.2.2.1]? with
    | some y => decide (y.1 = 1) && decide (y.2.1 = 1) && decide (y.2.2.2 = X.2.2.1 + X.2.2.2.2.2.2.2.1) && (if X.2.2.2.2.2.2.2.2 = true then decide (0 < y.2.2.1) else decide (y.2.2.1 < 0))
    | none => false)
  | none => false
def setA (N0 : Nat) : Nat → aFr → aL → aL
  | _, [], A => A
  | j, f :: r, A => setA N0 (j + 1) r (match f.2.2 with
    | .inl k => A.set k (1, 1, 0, N0 + j)
    | .inr _ => A)
def setB (N0 : Nat) : List (Nat × Int × Int × Nat) → aL → aL
  | [], A => A
  | f :: r, A => setB N0 r (A.set f.1 (1, f.2.1, f.2.2.1, N0 + f.2.2.2))
def setF : List Nat → aL → aL
  | [], A => A
  | k :: r, A => setF r (A.set k any7)
def setC (N0 : Nat) : Nat → aFr → aC
  | _, [] => []
  | j, f :: r => match f.2.2 with
    | .inl _ => setC N0 (j + 1) r
    | .inr q => (q.1, q.2, (1, 1, 0, N0 + j)) :: setC N0 (j + 1) r
def frE : aFr → aG
  | [] => []
  | f :: r => .inl (f.1, f.2.1) :: frE r
/-- the head of a loop, out of the state at which it is reached first -/
def genX (i : Nat) (Γ : aG) (C : aC) (Δ : aD) (A : aL) (s : List AV) (g : aGen) : aX := (i, (Γ ++ frE g.1, setC Γ.length 0 g.1 ++ C.filter (notW g.2.2.2.1 Γ), Δ, setF g.2.2.1 (setB Γ.length g.2.1 (setA Γ.length 0 g.1 A)), s), Γ.length, g)
/-- what a loop's fresh symbols stand for is read first, where it isn't known -/
def pre1 (T : List aT) (Γ : aG) (C : aC) (ka ki : AV) : aG × aC := match cfind C ka ki with
  | some _ => (Γ, C)
  | none => if ka.1 = 5 ∧ ki = cn ki.2.1 ∧ 0 ≤ ki.2.1 then (match ard T Γ C (match T[ka.2.2.2]? with
    | some (.inr (.inr t)) => 2 + t.1
    | _ => 0) ka ki with
    | some q => (q.1, q.2.1)
    | none => (Γ, C)) else (Γ, C)
def preF (T : List aT) : aFr → aG → aC → aG × aC
  | [], Γ, C => (Γ, C)
  | f :: r, Γ, C => match f.2.2 with
    | .inl _ => preF T r Γ C
    | .inr q => preF T r (pre1 T Γ C q.1 q.2).1 (pre1 T Γ C q.1 q.2).2
abbrev aTb : Type := Nat → Nat → Option aGen
abbrev aSt : Type := Nat → aS → Bool
abbrev aCh : Type := aG → aC → aD → Option AV → Bool
def aex (P : List pM) (T : List aT) (W : aW) (KC : List (Nat × aK)) (ff : Bool) (tbl : aTb) (stp : aSt) (chk : aCh) : Nat → Bool → Nat → Nat → pM → Nat → aG → aC → aD → aL → List AV → List aX → List aF → Bool
  | 0, _, _, _, _, _, _, _, _, _, _, _, _ => false
  | f + 1, sk, q, mi, M, i, Γ, C, Δ, A, s, X, fs =>
    if sk = false ∧ fs.isEmpty = true ∧ stp i (Γ, C, Δ, A, s) = true then true else
    match (if sk = true then none else X.find? (fun x => decide (x.1 = i))) with
    | some x => rent x Γ C A s
    | none => match (if sk = true then none else tbl mi i) with
      | some g => (ent (genX i (preF T g.1 Γ C).1 (preF T g.1 Γ C).2 Δ A s g) (preF T g.1 Γ C).1 (preF T g.1 Γ C).2 A s).isSome && decide (g.2.2.2.2.1 < g.1.length) && aex P T W KC ff tbl stp chk f true q mi M i (genX i (preF T g.1 Γ C).1 (preF T g.1 Γ C).2 Δ A s g).2.1.1 (genX i (preF T g.1 Γ C).1 (preF T g.1 Γ C).2 Δ A s g).2.1.2.1 Δ (genX i (preF T g.1 Γ C).1 (preF T g.1 Γ C).2 Δ A s g).2.1.2.2.2.1 s (genX i (preF T g.1 Γ C).1 (preF T g.1 Γ C).2 Δ A s g :: X) fs
      | none => match (m_code M)[i]? with
        | none => false
        | some t => match aret M t Γ s with
          | some r => (match fs with
            | [] => chk Γ C Δ r
            | (q2, mi2, M2, i2, A2, s2, X2) :: fs' => aex P T W KC ff tbl stp chk f false q2 mi2 M2 i2 Γ C Δ A2 (r.toList ++ s2) X2 fs')
          | none => match acall P T t Γ s with
            | some (k, N, xs, r) => (match KC.lookup k with
              | some c => argsB Γ xs c.1 && decide (c.2.2.2 < q) && subW c.2.2.1 W && aex P T W KC ff tbl stp chk f false q mi M (i + 1) (rnm Γ c.2.1).1 (C.filter (notW c.2.2.1 Γ)) Δ A ((rnm Γ c.2.1).2 ++ r) X fs
              | none => decide (2 ≤ q) && decide ((aexp xs).length ≤ m_l N) && !(m_code N).isEmpty && aex P T W KC ff tbl stp chk f false (q - 1) k N 0 Γ C Δ (aent (m_l N) xs) [] [] ((q, mi, M, i + 1, A, r, X) :: fs))
            | none => match astepN ff P T W t i Γ C Δ A s with
              | some outs => outs.all (fun o => aex P T W KC ff tbl stp chk f false q mi M o.1 o.2.1 o.2.2.1 o.2.2.2.1 o.2.2.2.2.1 o.2.2.2.2.2 X fs)
              | none => false
section AEX
variable {n0 : Nat} {σ0 : Nat → Int} {P : List pM} {E : pX} {V : pV} {T : List aT} {J : List pC → Prop} {W : aW} {KC : List (Nat × aK)} {ff : Bool} {tbl : aTb} {stp : aSt} {chk : aCh} {Post : Option Value → List pC → Prop} {h0 : List pC} {d0 : Nat} {M0 : pM}
def msr (X : aX) (σ : Nat → Int) : Nat := match X.2.2.2.1[X.2.2.2.2.2.2.2.1]? with
  | some f => if X.2.2.2.2.2.2.2.2 = true then (f.2.1 - σ (X.2.2.1 + X.2.2.2.2.2.2.2.1)).toNat else (σ (X.2.2.1 + X.2.2.2.2.2.2.2.1) - f.1).toNat
  | none => 0
def XG (n0 : Nat) (σ0 : Nat → Int) (P : List pM) (E : pX) (V : pV) (T : List aT) (W : aW) (Post : Option Value → List pC → Prop) (h0 : List pC) (σ : Nat → Int) (n d : Nat) (M : pM) (fs : List cF) (X : aX) : Prop :=
  XW n0 X ∧ X.2.2.1 + X.2.2.2.1.length ≤ n ∧ X.2.2.2.2.2.2.2.1 < X.2.2.2.1.length ∧ (∀ (k : Nat) (e : aE), k < X.2.2.1 → X.2.1.1[k]? = some e → eG (σ k) e) ∧ fok X.2.2.1 σ X.2.1.2.2.1 ∧
  ∀ (σ' : Nat → Int) (L : pL) (st : List Value) (h : List pC), agr X.2.2.1 σ σ' → gS n0 σ0 T W h0 σ' X.2.1 L st h → msr X σ' < msr X σ → Gl P E V Post d M X.1 L st h fs
theorem XG.up {σ σ' : Nat → Int} {n n' d : Nat} {M : pM} {fs : List cF} {X : aX} (hn : n ≤ n') (ha : agr n σ σ') (g : XG n0 σ0 P E V T W Post h0 σ n d M fs X) : XG n0 σ0 P E V T W Post h0 σ' n' d M fs X := by
  obtain ⟨g1, g2, g3, g4, g5, g6⟩ := g
  have hle : X.2.2.1 ≤ n := by omega
  refine ⟨g1, by omega, g3, fun k e hk he => ?_, g5.up (Nat.le_refl _) (ha.le hle), fun σ2 L st h ha2 gs hm => g6 σ2 L st h ((ha.le hle).tr ha2) gs ?_⟩
  · rw [ha k (by omega)]
    exact g4 k e hk he
  · have : msr X σ' = msr X σ := by
      unfold msr
      rw [ha (X.2.2.1 + X.2.2.2.2.2.2.2.1) (by omega)]
    rw [← this]
    exact hm
def FsG (n0 : Nat) (σ0 : Nat → Int) (P : List pM) (E : pX) (V : pV) (T : List aT) (W : aW) (Post : Option Value → List pC → Prop) (h0 : List pC) (d0 : Nat) (M0 : pM) (σ : Nat → Int) (n : Nat) : Nat → pM → List aF → List cF → Prop
  | d, M, [], [] => d = d0 ∧ M = M0
  | _, _, a :: fs, c :: cfs => c.2.1 = a.2.2.1 ∧ c.2.2.1 = a.2.2.2.1 ∧ a.1 ≤ c.1 ∧ 1 ≤ a.1 ∧ LG n σ c.2.2.2.1 a.2.2.2.2.1 ∧ SG n σ c.2.2.2.2 a.2.2.2.2.2.1 ∧ (∀ X ∈ a.2.2.2.2.2.2, XG n0 σ0 P E V T W Post h0 σ n c.1 c.2.1 cfs X) ∧ FsG n0 σ0 P E V T W Post h0 d0 M0 σ n c.1 c.2.1 fs cfs
  | _, _, _, _ => False
theorem FsG.up {σ σ' : Nat → Int} {n n' : Nat} (hn : n ≤ n') (ha : agr n σ σ') : ∀ {d : Nat} {M : pM} {fs : List aF} {cfs : List cF}, FsG n0 σ0 P E V T W Post h0 d0 M0 σ n d M fs cfs → FsG n0 σ0 P E V T W Post h0 d0 M0 σ' n' d M fs cfs
  | _, _, [], [], g => g
  | _, _, a :: fs, c :: cfs, g => ⟨g.1, g.2.1, g.2.2.1, g.2.2.2.1, g.2.2.2.2.1.up hn ha, g.2.2.2.2.2.1.up hn ha, fun X hX => (g.2.2.2.2.2.2.1 X hX).up hn ha, FsG.up hn ha g.2.2.2.2.2.2.2⟩
  | _, _, [], _ :: _, g => g.elim
  | _, _, _ :: _, [], g => g.elim
theorem frE_len : ∀ F : aFr, (frE F).length = F.length
  | [] => rfl
  | f :: r => by rw [frE, List.length_cons, List.length_cons, frE_len r]
theorem frE_at : ∀ {F : aFr} {j : Nat} {f : Int × Int × (Nat ⊕ (AV × AV))}, F[j]? = some f → (frE F)[j]? = some (.inl (f.1, f.2.1))
  | _ :: _, 0, _, hj => by cases hj; rfl
  | _ :: r, j + 1, _, hj => frE_at (F := r) (j := j) hj
  | [], _, _, hj => by simp at hj
theorem genX_W {i : Nat} {Γ : aG} {C : aC} {Δ : aD} {A : aL} {s : List AV} {g : aGen} (hn : n0 ≤ Γ.length) : XW n0 (genX i Γ C Δ A s g) := by
  refine ⟨hn, ?_, fun j f hj => ?_⟩
  · show (Γ ++ frE g.1).length = _
    rw [List.length_append, frE_len]
    rfl
  · show (Γ ++ frE g.1)[Γ.length + j]? = _
    rw [List.getElem?_append_right (Nat.le_add_right _ _), Nat.add_sub_cancel_left]
    exact frE_at hj
theorem rent_ok {X : aX} {Γ : aG} {C : aC} {Δ : aD} {A : aL} {s : List AV} {σ : Nat → Int} {L : pL} {st : List Value} {h : List pC} {d : Nat} {M : pM} {fs : List cF} (g : gS n0 σ0 T W h0 σ (Γ, C, Δ, A, s) L st h) (hx : XG n0 σ0 P E V T W Post h0 σ Γ.length d M fs X) (hr : rent X Γ C A s = true) : Gl P E V Post d M X.1 L st h fs := by
  obtain ⟨g1, g2, g3, g4, g5, g6⟩ := hx
  unfold rent at hr
  split at hr
  · rename_i ins he
    split at hr
    · rename_i y hy
      obtain ⟨e1, e2, e3, e4⟩ := ent_ok g1 g4 g5 (by omega) g he
      refine g6 _ L st h e3 e4 ?_
      rw [Bool.and_eq_true, Bool.and_eq_true, Bool.and_eq_true] at hr
      obtain ⟨⟨⟨r1, r2⟩, r3⟩, r4⟩ := hr
      have r1 := of_decide_eq_true r1
      have r2 := of_decide_eq_true r2
      have r3 := of_decide_eq_true r3
      have hF := List.getElem?_eq_getElem g3
      have hnew := sgm_new (σ := σ) (N0 := X.2.2.1) hy
      have hev : ev σ y = σ (X.2.2.1 + X.2.2.2.2.2.2.2.1) + y.2.2.1 := by
        unfold ev
        rw [if_pos (by rw [r1]), r2, r3, Int.one_mul]
      have hin : eG (sgm σ X.2.2.1 ins (X.2.2.1 + X.2.2.2.2.2.2.2.1)) (.inl _) := e4.2.1 _ _ (g1.2.2 _ _ hF)
      have hin : _ ≤ sgm σ X.2.2.1 ins (X.2.2.1 + X.2.2.2.2.2.2.2.1) ∧ sgm σ X.2.2.1 ins (X.2.2.1 + X.2.2.2.2.2.2.2.1) ≤ _ := hin
      unfold msr
      rw [hF]
      dsimp only
      split at r4
      · rename_i hu
        have r4 := of_decide_eq_true r4
        rw [if_pos hu, if_pos hu]
        omega
      · rename_i hu
        have r4 := of_decide_eq_true r4
        rw [if_neg hu, if_neg hu]
        omega
    · cases hr
  · cases hr
theorem pre1_ok {Γ : aG} {C : aC} {Δ : aD} {A : aL} {s : List AV} {σ : Nat → Int} {L : pL} {st : List Value} {h : List pC} {ka ki : AV} (g : gS n0 σ0 T W h0 σ (Γ, C, Δ, A, s) L st h) : ∃ σ', agr Γ.length σ σ' ∧ Γ.length ≤ (pre1 T Γ C ka ki).1.length ∧ gS n0 σ0 T W h0 σ' ((pre1 T Γ C ka ki).1, (pre1 T Γ C ka ki).2, Δ, A, s) L st h := by
  have same : ∃ σ', agr Γ.length σ σ' ∧ Γ.length ≤ Γ.length ∧ gS n0 σ0 T W h0 σ' (Γ, C, Δ, A, s) L st h := ⟨σ, agr.rf _ _, Nat.le_refl _, g⟩
  unfold pre1
  split
  · exact same
  · split
    · rename_i hc
      obtain ⟨c1, c2, c3⟩ := hc
      generalize hk : (match T[ka.2.2.2]? with
        | some (.inr (.inr t)) => 2 + t.1
        | _ => 0) = k
      split
      · rename_i q hq
        obtain ⟨Γ', C', v'⟩ := q
        obtain ⟨σ', c, w, s1, s2, s3, s4, k1, k2, k3, k4⟩ := ard_ok (a := ka.2.2.2) (i := ki.2.1.toNat) g.2.1 g.2.2.1 g.2.2.2.2.2.2.1 (Or.inl ⟨c1, rfl⟩) (by
          rw [Int.toNat_of_nonneg c3, c2]
          exact cnZ _) hq
        exact ⟨σ', s1, s3, ⟨Nat.le_trans g.1.1 s3, g.1.2.tr (s1.le g.1.1)⟩, s2, s4, g.2.2.2.1.up s3 s1, g.2.2.2.2.1.up s3 s1, g.2.2.2.2.2.1.up s3 s1, g.2.2.2.2.2.2⟩
      · exact same
    · exact same
theorem preF_ok {Δ : aD} {A : aL} {s : List AV} {L : pL} {st : List Value} {h : List pC} : ∀ (F : aFr) {Γ : aG} {C : aC} {σ : Nat → Int}, gS n0 σ0 T W h0 σ (Γ, C, Δ, A, s) L st h → ∃ σ', agr Γ.length σ σ' ∧ Γ.length ≤ (preF T F Γ C).1.length ∧ gS n0 σ0 T W h0 σ' ((preF T F Γ C).1, (preF T F Γ C).2, Δ, A, s) L st h
  | [], Γ, C, σ, g => ⟨σ, agr.rf _ _, Nat.le_refl _, g⟩
  | f :: r, Γ, C, σ, g => by
    unfold preF
    split
    · exact preF_ok r g
    · rename_i q _
      obtain ⟨σ1, a1, l1, g1⟩ := pre1_ok (ka := q.1) (ki := q.2) g
      obtain ⟨σ2, a2, l2, g2⟩ := preF_ok r g1
      exact ⟨σ2, a1.tr (a2.le l1), Nat.le_trans l1 l2, g2⟩
theorem aexp_len {n : Nat} {σ : Nat → Int} {as : List Value} {xs : List AV} (h : SG n σ as xs) : (pexp as).length = (aexp xs).length := (aexp_ok h).1
theorem aex_ok (hJ : ∀ h, Fr W h0 h → J h) (hK : ∀ k N c, KC.lookup k = some c → P[k]? = some N → KG P E V T J N c)
    (hchk : ∀ (σ : Nat → Int) (Γ : aG) (C : aC) (Δ : aD) (x : Option AV) (r : Option Value) (h : List pC), chk Γ C Δ x = true → (n0 ≤ Γ.length ∧ agr n0 σ0 σ) → gok σ Γ → cok Γ.length σ h C → fok Γ.length σ Δ → rvG Γ.length σ r x → HI T h → Fr W h0 h → Post r h)
    (hstp : ∀ (i : Nat) (σ : Nat → Int) (S : aS) (L : pL) (st : List Value) (h : List pC), stp i S = true → gS n0 σ0 T W h0 σ S L st h → Gl P E V Post d0 M0 i L st h []) :
    ∀ (f : Nat) (sk : Bool) (q mi : Nat) (M : pM) (i : Nat) (Γ : aG) (C : aC) (Δ : aD) (A : aL) (s : List AV) (X : List aX) (fs : List aF), aex P T W KC ff tbl stp chk f sk q mi M i Γ C Δ A s X fs = true →
    ∀ (σ : Nat → Int) (L : pL) (st : List Value) (h : List pC) (d : Nat) (cfs : List cF), gS n0 σ0 T W h0 σ (Γ, C, Δ, A, s) L st h → q ≤ d → 1 ≤ q → (∀ x ∈ X, XG n0 σ0 P E V T W Post h0 σ Γ.length d M cfs x) → FsG n0 σ0 P E V T W Post h0 d0 M0 σ Γ.length d M fs cfs → Gl P E V Post d M i L st h cfs := by
  intro f
  induction f with
  | zero => intro sk q mi M i Γ C Δ A s X fs ha; cases ha
  | succ f ih =>
    intro sk q mi M i Γ C Δ A s X fs ha σ L st h d cfs g hq hq1 hX hF
    rw [aex] at ha
    split at ha
    · rename_i hc
      obtain ⟨c1, c2, c3⟩ := hc
      rw [List.isEmpty_iff.mp c2] at hF
      cases cfs with
      | nil =>
        obtain ⟨rfl, rfl⟩ := hF
        exact hstp i σ _ L st h c3 g
      | cons c cfs => exact hF.elim
    · split at ha
      · rename_i x hx
        split at hx
        · cases hx
        · have hm := List.mem_of_find?_eq_some hx
          have hi0 : decide (x.1 = i) = true := List.find?_some (p := fun x : aX => decide (x.1 = i)) hx
          have hi : x.1 = i := of_decide_eq_true hi0
          rw [← hi]
          exact rent_ok g (hX x hm) ha
      · split at ha
        · -- the head of a loop
          rename_i gn hgn
          obtain ⟨σ9, ag9, le9, g9⟩ := preF_ok gn.1 g
          have hX9 : ∀ x ∈ X, XG n0 σ0 P E V T W Post h0 σ9 (preF T gn.1 Γ C).1.length d M cfs x := fun x hx => (hX x hx).up le9 ag9
          have hF9 : FsG n0 σ0 P E V T W Post h0 d0 M0 σ9 (preF T gn.1 Γ C).1.length d M fs cfs := hF.up le9 ag9
          revert ha g9 hX9 hF9
          generalize (preF T gn.1 Γ C).1 = Γ9
          generalize (preF T gn.1 Γ C).2 = C9
          intro ha g9 hX9 hF9
          rw [Bool.and_eq_true, Bool.and_eq_true] at ha
          obtain ⟨⟨a1, a2⟩, a3⟩ := ha
          obtain ⟨ins, he⟩ := Option.isSome_iff_exists.mp a1
          have a2 := of_decide_eq_true a2
          have hW := genX_W (n0 := n0) (i := i) (C := C9) (Δ := Δ) (A := A) (s := s) (g := gn) g9.1.1
          have hle : Γ9.length ≤ (Γ9 ++ frE gn.1).length := by rw [List.length_append]; omega
          have hb0 : ∀ (σ1 : Nat → Int), agr Γ9.length σ9 σ1 → ∀ (k : Nat) (e : aE), k < Γ9.length → (Γ9 ++ frE gn.1)[k]? = some e → eG (σ1 k) e := fun σ1 hσ1 k e hk hke => by
            rw [List.getElem?_append_left hk] at hke
            rw [hσ1 k hk]
            exact g9.2.1 k e hke
          have main : ∀ (m : Nat) (σ1 : Nat → Int) (L1 : pL) (st1 : List Value) (h1 : List pC), msr (genX i Γ9 C9 Δ A s gn) σ1 ≤ m → agr Γ9.length σ9 σ1 → gS n0 σ0 T W h0 σ1 (genX i Γ9 C9 Δ A s gn).2.1 L1 st1 h1 → Gl P E V Post d M i L1 st1 h1 cfs := by
            intro m
            induction m with
            | zero =>
              intro σ1 L1 st1 h1 hm hσ1 g1
              refine ih true q mi M i _ _ _ _ _ _ fs a3 σ1 L1 st1 h1 d cfs g1 hq hq1 (fun x hx => ?_) (hF9.up hle hσ1)
              rcases List.mem_cons.mp hx with rfl | hx
              · refine ⟨hW, by show Γ9.length + gn.1.length ≤ (Γ9 ++ frE gn.1).length; rw [List.length_append, frE_len]; exact Nat.le_refl _, a2, hb0 σ1 hσ1, g9.2.2.2.1.up (Nat.le_refl _) hσ1, fun σ2 L2 st2 h2 hag gs hlt => ?_⟩
                omega
              · exact (hX9 x hx).up hle hσ1
            | succ m ihm =>
              intro σ1 L1 st1 h1 hm hσ1 g1
              refine ih true q mi M i _ _ _ _ _ _ fs a3 σ1 L1 st1 h1 d cfs g1 hq hq1 (fun x hx => ?_) (hF9.up hle hσ1)
              rcases List.mem_cons.mp hx with rfl | hx
              · refine ⟨hW, by show Γ9.length + gn.1.length ≤ (Γ9 ++ frE gn.1).length; rw [List.length_append, frE_len]; exact Nat.le_refl _, a2, hb0 σ1 hσ1, g9.2.2.2.1.up (Nat.le_refl _) hσ1, fun σ2 L2 st2 h2 hag gs hlt => ?_⟩
                exact ihm σ2 L2 st2 h2 (by omega) (hσ1.tr hag) gs
              · exact (hX9 x hx).up hle hσ1
          obtain ⟨-, -, e3, e4⟩ := ent_ok hW (hb0 σ9 (agr.rf _ _)) g9.2.2.2.1 (Nat.le_refl _) g9 he
          exact main _ _ L st h (Nat.le_refl _) e3 e4
        · split at ha
          · cases ha
          · rename_i t ht
            obtain ⟨d, rfl⟩ : ∃ d', d = d' + 1 := ⟨d - 1, by omega⟩
            split at ha
            · -- a return
              rename_i x hx
              obtain ⟨r, hr, hv⟩ := aret_ok g.2.1 g.2.2.2.2.2.1 hx
              refine Gl.ret ht hr ?_
              split at ha
              · cases cfs with
                | nil => exact hchk σ Γ C Δ x r h ha g.1 g.2.1 g.2.2.1 g.2.2.2.1 hv g.2.2.2.2.2.2.1 g.2.2.2.2.2.2.2
                | cons c cfs => exact hF.elim
              · rename_i q2 mi2 M2 i2 A2 s2 X2 fs' _
                cases cfs with
                | nil => exact hF.elim
                | cons c cfs =>
                  obtain ⟨dc, Mc, ic, Lc, stc⟩ := c
                  obtain ⟨f1, f2, f3, f4, f5, f6, f7, f8⟩ := hF
                  cases f1
                  cases f2
                  refine ih false q2 mi2 _ _ Γ C Δ A2 _ X2 fs' ha σ Lc (r.toList ++ stc) h dc cfs ⟨g.1, g.2.1, g.2.2.1, g.2.2.2.1, f5, ?_, g.2.2.2.2.2.2⟩ f3 f4 f7 f8
                  refine SG.app ?_ f6
                  unfold rvG at hv
                  split at hv
                  · trivial
                  · exact ⟨hv, trivial⟩
                  · exact hv.elim
            · split at ha
              · -- a call
                rename_i k N xs r hcl
                obtain ⟨hr, hPk, as, rest, hpc, hsa, hsr⟩ := acall_ok (M := M) g.2.1 g.2.2.2.2.2.2.1 g.2.2.2.2.2.1 hcl
                split at ha
                · rename_i c hc
                  rw [Bool.and_eq_true, Bool.and_eq_true, Bool.and_eq_true] at ha
                  obtain ⟨⟨⟨a1, a2⟩, a3⟩, a4⟩ := ha
                  have a2 := of_decide_eq_true a2
                  obtain ⟨r1, h1, k1, k2, k3, k4, -⟩ := hK k N c hc hPk d (by omega) as h (argsB_ok g.2.1 hsa a1) g.2.2.2.2.2.2.1 (hJ h g.2.2.2.2.2.2.2)
                  obtain ⟨σ', s1, s2, s3, s4⟩ := rnm_ok g.2.1 k2
                  refine Gl.con ht hr hpc k1 ?_
                  refine ih false q mi M (i + 1) _ _ Δ A _ X fs a4 σ' L (r1.toList ++ rest) h1 (d + 1) cfs ⟨⟨Nat.le_trans g.1.1 s3, g.1.2.tr (s1.le g.1.1)⟩, s2, (g.2.2.1.fr g.2.1 k4).up s3 s1, g.2.2.2.1.up s3 s1, g.2.2.2.2.1.up s3 s1, SG.app s4 (hsr.up s3 s1), k3, g.2.2.2.2.2.2.2.tr (k4.sub a3)⟩ hq hq1 (fun x hx => (hX x hx).up s3 s1) (hF.up s3 s1)
                · rw [Bool.and_eq_true, Bool.and_eq_true, Bool.and_eq_true] at ha
                  obtain ⟨⟨⟨a1, a2⟩, a3⟩, a4⟩ := ha
                  have a1 := of_decide_eq_true a1
                  have a2 := of_decide_eq_true a2
                  have hne : ∃ u us, m_code N = u :: us := by
                    cases hco : m_code N with
                    | nil => rw [hco] at a3; cases a3
                    | cons u us => exact ⟨u, us, rfl⟩
                  refine Gl.call ht hr hpc (by rw [aexp_len hsa]; exact a2) hne ?_
                  refine ih false (q - 1) k N 0 Γ C Δ _ [] [] _ a4 σ (pent (m_l N) as) [] h d ((d + 1, M, i + 1, L, rest) :: cfs) ⟨g.1, g.2.1, g.2.2.1, g.2.2.2.1, aent_ok _ hsa, trivial, g.2.2.2.2.2.2⟩ (by omega) (by omega) (fun x hx => by cases hx) ⟨rfl, rfl, hq, hq1, g.2.2.2.2.1, hsr, hX, hF⟩
              · split at ha
                · rename_i outs ho
                  obtain ⟨⟨hr, hpc⟩, i', S', σ', L', st', h', m1, m2, m3, m4, m5⟩ := astepN_ok (M := M) g ho
                  have ha := List.all_eq_true.mp ha _ m1
                  refine Gl.step ht hr hpc m4 ?_
                  exact ih false q mi M i' _ _ _ _ _ X fs ha σ' L' st' h' (d + 1) cfs m5 hq hq1 (fun x hx => (hX x hx).up m3 m2) (hF.up m3 m2)
                · cases ha
/-! contracts out of walks -/
def argA : aA → Nat → aG × AV := fun p n => match p with
  | .inl q => if q.1 < q.2 then ([.inl q], (1, 1, 0, n)) else ([], cn q.1)
  | .inr q => match q.2 with
    | [a] => ([], rf5 a)
    | as => if q.1 = true then ([], (4, 0, 0, 0)) else ([.inr as], (6, 0, 0, n))
def argsA : List aA → aG → aG × List AV
  | [], Γ => (Γ, [])
  | p :: ps, Γ => ((argsA ps (Γ ++ (argA p Γ.length).1)).1, (argA p Γ.length).2 :: (argsA ps (Γ ++ (argA p Γ.length).1)).2)
def noNull (p : aA) : Bool := match p with
  | .inl q => decide (q.1 ≤ q.2)
  | .inr q => !q.1 || q.2.isEmpty
theorem argA_ok {σ : Nat → Int} {Γ : aG} {w : Value} {p : aA} (hg : gok σ Γ) (hn : noNull p = true) (ha : argG w p) : ∃ σ', agr Γ.length σ σ' ∧ gok σ' (Γ ++ (argA p Γ.length).1) ∧ vG (Γ ++ (argA p Γ.length).1).length σ' w (argA p Γ.length).2 := by
  cases p with
  | inl q =>
    obtain ⟨v, rfl, h1, h2⟩ := ha
    unfold argA
    dsimp only
    split
    · obtain ⟨σ', s1, s2, s3⟩ := gok.push (z := v.toInt) (e := .inl q) hg ⟨h1, h2⟩
      exact ⟨σ', s1, s2, Nat.le_refl _, zG.mk (by decide) (by rw [s3]; omega) (by rw [List.length_append]; exact Nat.lt_succ_self _)⟩
    · exact ⟨σ, agr.rf _ _, by rw [List.append_nil]; exact hg, Nat.zero_le _, zG.itv rfl (by omega) (by omega)⟩
  | inr q =>
    obtain ⟨b, as⟩ := q
    unfold noNull at hn
    dsimp only at hn
    rw [Bool.or_eq_true] at hn
    rcases ha with ha | ⟨a, ha, rfl⟩
    · have h1 : b = true := ha.1
      obtain rfl := ha.2
      subst h1
      rcases hn with hn | hn
      · cases hn
      · obtain rfl := List.isEmpty_iff.mp hn
        exact ⟨σ, agr.rf _ _, by show gok σ (Γ ++ []); rw [List.append_nil]; exact hg, rfl⟩
    · unfold argA
      dsimp only
      split
      · obtain rfl := List.mem_singleton.mp ha
        exact ⟨σ, agr.rf _ _, by rw [List.append_nil]; exact hg, Or.inl ⟨rfl, rfl⟩⟩
      · split
        · rename_i hb
          subst hb
          rcases hn with hn | hn
          · cases hn
          · obtain rfl := List.isEmpty_iff.mp hn
            cases ha
        · obtain ⟨σ', s1, s2, s3⟩ := gok.push (z := Int.ofNat a) (e := .inr as) hg ⟨a, ha, rfl⟩
          exact ⟨σ', s1, s2, Or.inr ⟨rfl, by rw [s3]; rfl, by rw [List.length_append]; exact Nat.lt_succ_self _⟩⟩
theorem argsA_le : ∀ (ps : List aA) (Γ : aG), Γ.length ≤ (argsA ps Γ).1.length
  | [], _ => Nat.le_refl _
  | p :: ps, Γ => by
    have := argsA_le ps (Γ ++ (argA p Γ.length).1)
    rw [List.length_append] at this
    rw [argsA]
    dsimp only
    omega
theorem argsA_ok : ∀ {ps : List aA} {as : List Value} {σ : Nat → Int} {Γ : aG}, gok σ Γ → ps.all noNull = true → argsG as ps → ∃ σ', agr Γ.length σ σ' ∧ gok σ' (argsA ps Γ).1 ∧ SG (argsA ps Γ).1.length σ' as (argsA ps Γ).2
  | [], [], σ, Γ, hg, _, _ => ⟨σ, agr.rf _ _, hg, trivial⟩
  | p :: ps, w :: as, σ, Γ, hg, hn, ha => by
    rw [List.all_cons, Bool.and_eq_true] at hn
    obtain ⟨σ1, s1, s2, s3⟩ := argA_ok hg hn.1 ha.1
    obtain ⟨σ2, t1, t2, t3⟩ := argsA_ok s2 hn.2 ha.2
    have hle : Γ.length ≤ (Γ ++ (argA p Γ.length).1).length := by rw [List.length_append]; omega
    rw [argsA]
    exact ⟨σ2, s1.tr (t1.le hle), t2, s3.up (argsA_le ps _) t1, t3⟩
  | [], _ :: _, _, _, _, _, ha => ha.elim
  | _ :: _, [], _, _, _, _, ha => ha.elim
def chkR (p : Option (Int × Int)) : aCh := fun Γ _ _ x => match p, x with
  | none, none => true
  | some q, some x => isI x && (match ivl Γ x with
    | some r => decide (q.1 ≤ r.1) && decide (r.2 ≤ q.2)
    | none => false)
  | _, _ => false
theorem chkR_ok {p : Option (Int × Int)} {Γ : aG} {C : aC} {Δ : aD} {x : Option AV} {r : Option Value} {σ : Nat → Int} (hk : chkR p Γ C Δ x = true) (hg : gok σ Γ) (hv : rvG Γ.length σ r x) : retG r p := by
  cases p with
  | none =>
    cases x with
    | none =>
      cases r with
      | none => rfl
      | some w => exact hv.elim
    | some y => cases hk
  | some q =>
    cases x with
    | none => cases hk
    | some y =>
      cases r with
      | none => exact hv.elim
      | some w =>
        have hv : vG Γ.length σ w y := hv
        have hk : (isI y && (match ivl Γ y with
          | some r => decide (q.1 ≤ r.1) && decide (r.2 ≤ q.2)
          | none => false)) = true := hk
        rw [Bool.and_eq_true] at hk
        obtain ⟨v, rfl, hz⟩ := hv.int (isI_t hk.1)
        have hk2 := hk.2
        split at hk2
        · rename_i r1 hr1
          have h1 := ivl_ok hg hz hr1
          rw [Bool.and_eq_true] at hk2
          have f1 := of_decide_eq_true hk2.1
          have f2 := of_decide_eq_true hk2.2
          exact ⟨v, rfl, by omega, by omega⟩
        · cases hk2
def nostp : aSt := fun _ _ => false
/-- the check of a contract -/
def kchk (P : List pM) (T : List aT) (KC : List (Nat × aK)) (tbl : aTb) (f k : Nat) (c : aK) : Bool := match P[k]? with
  | some M => c.1.all noNull && decide ((aexp (argsA c.1 []).2).length ≤ m_l M) && !(m_code M).isEmpty && decide (1 ≤ c.2.2.2) && aex P T c.2.2.1 KC true tbl nostp (chkR c.2.1) f false c.2.2.2 k M 0 (argsA c.1 []).1 [] [] (aent (m_l M) (argsA c.1 []).2) [] [] []
  | none => false
theorem kchk_ok {f k : Nat} {c : aK} {N : pM} (hJ : ∀ h h', Fr c.2.2.1 h h' → J h → J h') (hK : ∀ k N c, KC.lookup k = some c → P[k]? = some N → KG P E V T J N c) (hc : kchk P T KC tbl f k c = true) (hN : P[k]? = some N) : KG P E V T J N c := by
  intro d hd as h ha hh hj
  unfold kchk at hc
  rw [hN] at hc
  dsimp only at hc
  rw [Bool.and_eq_true, Bool.and_eq_true, Bool.and_eq_true, Bool.and_eq_true] at hc
  obtain ⟨⟨⟨⟨c1, c2⟩, c3⟩, c4⟩, c5⟩ := hc
  have c2 := of_decide_eq_true c2
  have c4 := of_decide_eq_true c4
  have hne : ∃ u us, m_code N = u :: us := by
    cases hco : m_code N with
    | nil => rw [hco] at c3; cases c3
    | cons u us => exact ⟨u, us, rfl⟩
  obtain ⟨σ, s1, s2, s3⟩ := argsA_ok (σ := fun _ => 0) (Γ := []) (fun k e hk => by simp at hk) c1 ha
  have key := aex_ok (n0 := 0) (σ0 := fun _ => 0) (E := E) (V := V) (h0 := h) (d0 := d) (M0 := N) (stp := nostp) (chk := chkR c.2.1) (W := c.2.2.1) (ff := true) (tbl := tbl) (J := J) (Post := fun r h' => retG r c.2.1 ∧ HI T h' ∧ Fr c.2.2.1 h h') (fun h' hF => hJ h h' hF hj) hK
    (fun σ Γ C Δ x r h' hk _ hg _ _ hv hH hF => ⟨chkR_ok hk hg hv, hH, hF⟩)
    (fun i σ S L st h' hs => by cases hs) f false c.2.2.2 k N 0 _ [] [] _ [] [] [] c5 σ (pent (m_l N) as) [] h d [] ⟨⟨Nat.zero_le _, fun k hk => absurd hk (Nat.not_lt_zero _)⟩, s2, (fun e he => by cases he), (fun e he => by cases he), aent_ok _ s3, trivial, hh, Fr.rf _ _⟩ hd c4 (fun x hx => by cases hx) ⟨rfl, rfl⟩
  obtain ⟨r, h', k1, k2, k3, k4⟩ := key
  exact ⟨r, h', Or.inl ⟨by rw [aexp_len s3]; exact c2, hne, k1⟩, k2, k3, k4, hJ h h' k4 hj⟩
end AEX
