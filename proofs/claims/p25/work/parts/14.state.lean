/-! ===== WHAT THE CELLS ARE: types of cells, contents, frames; abstract locals and stacks; naming of values ===== -/
abbrev aT : Type := (Nat × List (Nat × Nat × Int × Int)) ⊕ ((Nat × Nat × (Nat → Option Nat)) ⊕ (Nat × List AV))
abbrev aC : Type := List (AV × AV × AV)
abbrev aD : Type := List (Nat × AV × AV × AV)
abbrev aS : Type := aG × aC × aD × aL × List AV
abbrev aW : Type := List (Nat × Nat × Nat × Nat)
def any7 : AV := (7, 0, 0, 0)
def cn (a : Int) : AV := (0, a, a, 0)
def rf5 (a : Nat) : AV := (5, 0, 0, a)
section AST
variable {n n' : Nat} {σ σ' : Nat → Int} {Γ Γ' : aG} {w : Value} {x y : AV} {z : Int}
def lG (n : Nat) (σ : Nat → Int) (o : Option Value) (x : AV) : Prop := if x.1 = 7 then pcat2 o = false else ∃ w, o = some w ∧ vG n σ w x
def LG (n : Nat) (σ : Nat → Int) (L : pL) (A : aL) : Prop := L.length = A.length ∧ ∀ (k : Nat) (x : AV), A[k]? = some x → lG n σ (pget L k) x
def SG (n : Nat) (σ : Nat → Int) : List Value → List AV → Prop
  | [], [] => True
  | w :: st, x :: s => vG n σ w x ∧ SG n σ st s
  | _, _ => False
theorem lG.up (hn : n ≤ n') (ha : agr n σ σ') {o : Option Value} (h : lG n σ o x) : lG n' σ' o x := by
  unfold lG at h ⊢
  split at h
  · rename_i h7
    rw [if_pos h7]
    exact h
  · rename_i h7
    rw [if_neg h7]
    obtain ⟨w, h1, h2⟩ := h
    exact ⟨w, h1, h2.up hn ha⟩
theorem LG.up (hn : n ≤ n') (ha : agr n σ σ') {L : pL} {A : aL} (h : LG n σ L A) : LG n' σ' L A := ⟨h.1, fun k x hk => (h.2 k x hk).up hn ha⟩
theorem SG.up (hn : n ≤ n') (ha : agr n σ σ') : ∀ {st : List Value} {s : List AV}, SG n σ st s → SG n' σ' st s
  | [], [], _ => trivial
  | _ :: _, _ :: _, h => ⟨h.1.up hn ha, SG.up hn ha h.2⟩
  | [], _ :: _, h => h.elim
  | _ :: _, [], h => h.elim
theorem SG.cons_inv {st : List Value} {s : List AV} (h : SG n σ st (x :: s)) : ∃ w r, st = w :: r ∧ vG n σ w x ∧ SG n σ r s := by
  cases st with
  | nil => exact h.elim
  | cons w r => exact ⟨w, r, rfl, h.1, h.2⟩
theorem SG.nil_inv {st : List Value} (h : SG n σ st []) : st = [] := by
  cases st with
  | nil => rfl
  | cons w r => exact h.elim
theorem SG.len : ∀ {st : List Value} {s : List AV}, SG n σ st s → st.length = s.length
  | [], [], _ => rfl
  | _ :: _, _ :: _, h => by rw [List.length_cons, List.length_cons, SG.len h.2]
  | [], _ :: _, h => h.elim
  | _ :: _, [], h => h.elim
theorem SG.drop : ∀ (k : Nat) {st : List Value} {s : List AV}, SG n σ st s → SG n σ (st.drop k) (s.drop k)
  | 0, _, _, h => h
  | _ + 1, [], [], _ => trivial
  | k + 1, _ :: _, _ :: _, h => SG.drop k h.2
  | _ + 1, [], _ :: _, h => h.elim
  | _ + 1, _ :: _, [], h => h.elim
theorem SG.take : ∀ (k : Nat) {st : List Value} {s : List AV}, SG n σ st s → SG n σ (st.take k) (s.take k)
  | 0, _, _, _ => trivial
  | _ + 1, [], [], _ => trivial
  | k + 1, _ :: _, _ :: _, h => ⟨h.1, SG.take k h.2⟩
  | _ + 1, [], _ :: _, h => h.elim
  | _ + 1, _ :: _, [], h => h.elim
theorem SG.app : ∀ {st : List Value} {s : List AV} {st2 : List Value} {s2 : List AV}, SG n σ st s → SG n σ st2 s2 → SG n σ (st ++ st2) (s ++ s2)
  | [], [], _, _, _, h2 => h2
  | _ :: _, _ :: _, _, _, h, h2 => ⟨h.1, SG.app h.2 h2⟩
  | [], _ :: _, _, _, h, _ => h.elim
  | _ :: _, [], _, _, h, _ => h.elim
theorem SG.rev : ∀ {st : List Value} {s : List AV}, SG n σ st s → SG n σ st.reverse s.reverse
  | [], [], _ => trivial
  | w :: st, x :: s, h => by
    rw [List.reverse_cons, List.reverse_cons]
    exact SG.app (SG.rev h.2) ⟨h.1, trivial⟩
  | [], _ :: _, h => h.elim
  | _ :: _, [], h => h.elim
def acat (x : AV) : Nat := if x.1 = 2 ∨ x.1 = 3 then 2 else 1
theorem acat_ok (h : vG n σ w x) : w.category = acat x := by
  unfold acat
  unfold vG at h
  split at h
  · rw [if_neg (by omega)]; rfl
  · rw [if_pos h.1]; rfl
  · rw [if_neg (by omega)]; rfl
  · rw [if_neg (by omega)]; rfl
  · cases h
def acs (s : List AV) : Nat := (s.map acat).sum
theorem acs_ok : ∀ {st : List Value} {s : List AV}, SG n σ st s → pcs st = acs s
  | [], [], _ => rfl
  | w :: st, x :: s, h => by
    have h1 := acs_ok h.2
    unfold pcs acs at h1 ⊢
    rw [List.map_cons, List.map_cons, List.sum_cons, List.sum_cons, acat_ok h.1, h1]
  | [], _ :: _, h => h.elim
  | _ :: _, [], h => h.elim
theorem vG.cat2 (h : vG n σ w x) (hx : ¬ (x.1 = 2 ∨ x.1 = 3)) : pcat2 (some w) = false := by
  unfold vG at h
  split at h
  · rfl
  · exact absurd h.1 hx
  · rfl
  · rfl
  · cases h
theorem LG.at {L : pL} {A : aL} {k : Nat} (h : LG n σ L A) (hk : A[k]? = some x) (h7 : x.1 ≠ 7) : ∃ w, pget L k = some w ∧ vG n σ w x := by
  have := h.2 k x hk
  unfold lG at this
  rw [if_neg h7] at this
  exact this
theorem LG.cat2 {L : pL} {A : aL} {k : Nat} (h : LG n σ L A) (hk : A[k]? = some x) (hx : ¬ (x.1 = 2 ∨ x.1 = 3)) : pcat2 (pget L k) = false := by
  have h1 := h.2 k x hk
  unfold lG at h1
  split at h1
  · exact h1
  · obtain ⟨w, e, hv⟩ := h1
    rw [e]
    exact hv.cat2 hx
/-- a local becomes x -/
def aset (A : aL) (i : Nat) (x : AV) : Option aL := match A[i]?, A[i - 1]? with
  | some _, some y => if y.1 = 2 ∨ y.1 = 3 then none else some (A.set i x)
  | _, _ => none
theorem aset_ok {L : pL} {A A' : aL} {i : Nat} (h : LG n σ L A) (hv : vG n σ w x) (hs : aset A i x = some A') : ∃ L', pset L i w = some L' ∧ LG n σ L' A' := by
  unfold aset at hs
  split at hs
  · rename_i x0 y0 hx0 hy0
    split at hs
    · cases hs
    · rename_i hy
      cases hs
      have hi : i < L.length := by rw [h.1]; exact (List.getElem?_eq_some_iff.mp hx0).1
      have hc : pcat2 (pget L (i - 1)) = false := h.cat2 hy0 hy
      refine ⟨L.set i (some w), ?_, ?_, ?_⟩
      · unfold pset
        rw [if_pos hi, hc]
        rfl
      · rw [List.length_set, List.length_set]
        exact h.1
      · intro k y hk
        by_cases e : k = i
        · subst e
          rw [List.getElem?_set_self (by rw [← h.1]; exact hi)] at hk
          cases hk
          have hx7 : x.1 ≠ 7 := by
            unfold vG at hv
            split at hv <;> first | omega | exact hv.elim
          unfold lG
          rw [if_neg hx7]
          refine ⟨w, ?_, hv⟩
          unfold pget
          rw [List.getElem?_set_self hi]
        · rw [List.getElem?_set_ne (Ne.symm e)] at hk
          have h1 := h.2 k y hk
          have e2 : pget (L.set i (some w)) k = pget L k := by
            unfold pget
            rw [List.getElem?_set_ne (Ne.symm e)]
          rw [e2]
          exact h1
  · cases hs
/-! arguments -/
def aexp : List AV → List AV
  | [] => []
  | x :: r => if x.1 = 2 ∨ x.1 = 3 then x :: any7 :: aexp r else x :: aexp r
def aent (n : Nat) (as : List AV) : List AV := aexp as ++ List.replicate (n - (aexp as).length) any7
theorem lG.any {o : Option Value} (h : pcat2 o = false) : lG n σ o any7 := by
  unfold lG
  rw [if_pos (show any7.1 = 7 from rfl)]
  exact h
theorem lG.of {o : Option Value} (ho : o = some w) (h : vG n σ w x) : lG n σ o x := by
  have hx7 : x.1 ≠ 7 := by
    unfold vG at h
    split at h <;> first | omega | exact h.elim
  unfold lG
  rw [if_neg hx7]
  exact ⟨w, ho, h⟩
theorem pget_cons0 (o : Option Value) (L : pL) : pget (o :: L) 0 = o := rfl
theorem pget_consS (o : Option Value) (L : pL) (k : Nat) : pget (o :: L) (k + 1) = pget L k := by
  unfold pget
  rw [List.getElem?_cons_succ]
theorem aexp_ok : ∀ {as : List Value} {xs : List AV}, SG n σ as xs → LG n σ (pexp as) (aexp xs)
  | [], [], _ => ⟨rfl, fun k x hk => by simp [aexp] at hk⟩
  | w :: as, x :: xs, h => by
    have ih := aexp_ok h.2
    have hv := h.1
    by_cases hx : x.1 = 2 ∨ x.1 = 3
    · obtain ⟨u, rfl, -⟩ := hv.long hx
      have e : aexp (x :: xs) = x :: any7 :: aexp xs := by rw [aexp, if_pos hx]
      rw [e]
      refine ⟨by show (pexp as).length + 1 + 1 = _; rw [ih.1]; rfl, fun k y hk => ?_⟩
      match k, hk with
      | 0, hk => cases hk; exact lG.of rfl hv
      | 1, hk => cases hk; exact lG.any rfl
      | k + 2, hk =>
        show lG n σ (pget (some (.long u) :: none :: pexp as) (k + 2)) y
        rw [pget_consS, pget_consS]
        exact ih.2 k y hk
    · have e : aexp (x :: xs) = x :: aexp xs := by rw [aexp, if_neg hx]
      have e2 : pexp (w :: as) = some w :: pexp as := by
        unfold vG at hv
        split at hv
        · rfl
        · exact absurd hv.1 hx
        · rfl
        · rfl
        · cases hv
      rw [e, e2]
      refine ⟨by rw [List.length_cons, List.length_cons, ih.1], fun k y hk => ?_⟩
      match k, hk with
      | 0, hk => cases hk; exact lG.of rfl hv
      | k + 1, hk =>
        rw [pget_consS]
        exact ih.2 k y hk
  | [], _ :: _, h => h.elim
  | _ :: _, [], h => h.elim
theorem aent_ok {as : List Value} {xs : List AV} (m : Nat) (h : SG n σ as xs) : LG n σ (pent m as) (aent m xs) := by
  have h1 := aexp_ok h
  unfold pent aent
  refine ⟨by rw [List.length_append, List.length_append, List.length_replicate, List.length_replicate, h1.1], fun k x hk => ?_⟩
  by_cases hl : k < (aexp xs).length
  · rw [List.getElem?_append_left hl] at hk
    have e : pget (pexp as ++ List.replicate (m - (pexp as).length) none) k = pget (pexp as) k := by
      unfold pget
      rw [List.getElem?_append_left (by rw [h1.1]; exact hl)]
    rw [e]
    exact h1.2 k x hk
  · have hl : (aexp xs).length ≤ k := Nat.not_lt.mp hl
    rw [List.getElem?_append_right hl] at hk
    obtain ⟨hq, hx⟩ := List.getElem?_eq_some_iff.mp hk
    rw [List.getElem_replicate] at hx
    subst hx
    refine lG.any ?_
    have e : pget (pexp as ++ List.replicate (m - (pexp as).length) none) k = none := by
      unfold pget
      rw [List.getElem?_append_right (by rw [h1.1]; exact hl)]
      rw [List.length_replicate] at hq
      rw [List.getElem?_replicate]
      split
      · rename_i v hv
        split at hv
        · cases hv; rfl
        · cases hv
      · rfl
    rw [e]
    rfl
/-! naming -/
theorem gok.push {e : aE} (hg : gok σ Γ) (he : eG z e) : ∃ σ', agr Γ.length σ σ' ∧ gok σ' (Γ ++ [e]) ∧ σ' Γ.length = z := by
  refine ⟨fun k => if k = Γ.length then z else σ k, fun k hk => if_neg (Nat.ne_of_lt hk), fun k e' hk => ?_, if_pos rfl⟩
  by_cases hl : k < Γ.length
  · rw [List.getElem?_append_left hl] at hk
    show eG (if k = Γ.length then z else σ k) e'
    rw [if_neg (Nat.ne_of_lt hl)]
    exact hg k e' hk
  · have h1 := (List.getElem?_eq_some_iff.mp hk).1
    rw [List.length_append, List.length_singleton] at h1
    have e1 : k = Γ.length := by omega
    subst e1
    rw [List.getElem?_append_right (Nat.le_refl _), Nat.sub_self] at hk
    cases hk
    show eG (if Γ.length = Γ.length then z else σ Γ.length) e
    rw [if_pos rfl]
    exact he
theorem agr.gok0 {m : Nat} (h : agr m σ σ') (hg : gok σ Γ) (hm : Γ.length ≤ m) : gok σ' Γ := fun k e hk => by
  rw [h k (Nat.lt_of_lt_of_le (List.getElem?_eq_some_iff.mp hk).1 hm)]
  exact hg k e hk
def nm (Γ : aG) (x : AV) : aG × AV := if x.1 = 0 then (if x.2.1 < x.2.2.1 then (Γ ++ [.inl (x.2.1, x.2.2.1)], (1, 1, 0, Γ.length)) else (Γ, x)) else (Γ, x)
theorem nm_ok {v : Int32} (hg : gok σ Γ) (hz : zG Γ.length σ v.toInt x) (h1 : x.1 ≤ 1) : ∃ σ', agr Γ.length σ σ' ∧ gok σ' (nm Γ x).1 ∧ Γ.length ≤ (nm Γ x).1.length ∧ vG (nm Γ x).1.length σ' (.int v) (nm Γ x).2 := by
  unfold nm
  by_cases h0 : x.1 = 0
  · rw [if_pos h0]
    by_cases hlt : x.2.1 < x.2.2.1
    · rw [if_pos hlt]
      have hz2 := hz
      unfold zG at hz2
      rw [if_pos (by rw [h0])] at hz2
      obtain ⟨σ', a1, a2, a3⟩ := gok.push (z := v.toInt) (e := .inl (x.2.1, x.2.2.1)) hg hz2
      refine ⟨σ', a1, a2, by rw [List.length_append]; omega, ?_⟩
      refine ⟨Nat.le_refl _, zG.mk (by decide) (by rw [a3]; omega) (by rw [List.length_append]; exact Nat.lt_succ_self _)⟩
    · rw [if_neg hlt]
      exact ⟨σ, agr.rf _ _, hg, Nat.le_refl _, h1, hz⟩
  · rw [if_neg h0]
    exact ⟨σ, agr.rf _ _, hg, Nat.le_refl _, h1, hz⟩
/-- a value out of the cells -/
def wE (w : Value) (e : aE) : Prop := match e with
  | .inl p => ∃ v : Int32, w = .int v ∧ p.1 ≤ v.toInt ∧ v.toInt ≤ p.2
  | .inr as => ∃ a ∈ as, w = .ref a
def nmE (Γ : aG) (e : aE) : aG × AV := match e with
  | .inl p => nm Γ (0, p.1, p.2, 0)
  | .inr [a] => (Γ, rf5 a)
  | .inr as => (Γ ++ [.inr as], (6, 0, 0, Γ.length))
theorem nmE_ok {e : aE} (hg : gok σ Γ) (hw : wE w e) : ∃ σ', agr Γ.length σ σ' ∧ gok σ' (nmE Γ e).1 ∧ Γ.length ≤ (nmE Γ e).1.length ∧ vG (nmE Γ e).1.length σ' w (nmE Γ e).2 := by
  unfold nmE
  split
  · obtain ⟨v, rfl, h1, h2⟩ := hw
    exact nm_ok hg (zG.itv rfl h1 h2) (Nat.zero_le _)
  · obtain ⟨a, ha, rfl⟩ := hw
    obtain rfl := List.mem_singleton.mp ha
    exact ⟨σ, agr.rf _ _, hg, Nat.le_refl _, Or.inl ⟨rfl, rfl⟩⟩
  · rename_i as _
    obtain ⟨a, ha, rfl⟩ := hw
    obtain ⟨σ', a1, a2, a3⟩ := gok.push (z := Int.ofNat a) (e := .inr as) hg ⟨a, ha, rfl⟩
    exact ⟨σ', a1, a2, by rw [List.length_append]; omega, Or.inr ⟨rfl, by rw [a3]; rfl, by rw [List.length_append]; exact Nat.lt_succ_self _⟩⟩
/-! addresses -/
def adrs (Γ : aG) (x : AV) : Option (List Nat) := if x.1 = 5 then some [x.2.2.2] else if x.1 = 6 then (match Γ[x.2.2.2]? with
  | some (.inr as) => some as
  | _ => none) else none
theorem adrs_ok {as : List Nat} {m : Nat} (hg : gok σ Γ) (hv : vG m σ w x) (h : adrs Γ x = some as) : ∃ a ∈ as, w = .ref a := by
  unfold adrs at h
  split at h
  · rename_i h5
    cases h
    obtain ⟨a, rfl, h1 | h1⟩ := hv.ref (Or.inl h5)
    · exact ⟨a, by rw [h1.2]; exact List.mem_cons_self, rfl⟩
    · omega
  · split at h
    · rename_i h6
      split at h
      · rename_i as' hk
        cases h
        obtain ⟨a, rfl, h1 | h1⟩ := hv.ref (Or.inr h6)
        · omega
        · obtain ⟨b, hb, e⟩ : ∃ b ∈ as, σ x.2.2.2 = Int.ofNat b := hg _ _ hk
          refine ⟨a, ?_, rfl⟩
          rw [h1.2.1, e]
          exact hb
      · cases h
    · cases h
end AST
