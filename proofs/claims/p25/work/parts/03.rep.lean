/-! ===== WHAT THE MACHINE HOLDS OF THE PURE CELLS ===== -/
def emb (X : Nat → Nat) (bs : Nat) (v : Value) : Value := match v with
  | .ref a => .ref (bs + a)
  | .retAddr k => .ref (X k)
  | w => w
theorem emb_cat (X : Nat → Nat) (bs : Nat) (v : Value) : (emb X bs v).category = v.category := by cases v <;> rfl
theorem emb_rf (X : Nat → Nat) (bs : Nat) (r : Option Nat) : emb X bs (va_rf r) = va_rf (r.map (fun a => bs + a)) := by cases r <;> rfl
theorem emb_pcs (X : Nat → Nat) (bs : Nat) (st : List Value) : ((st.map (emb X bs)).map fun v => v.category).sum = pcs st := by
  unfold pcs
  rw [List.map_map]
  congr 1
  apply List.map_congr_left
  intro v _
  exact emb_cat X bs v
def cAt (D : va_G) (X : Nat → Nat) (bs : Nat) (U : State) (c : pC) (a : Nat) (H : Heap) : Prop := match c with
  | .inl x => ∃ cA : ClassId, H[a]? = some (arrV cA x.1 (fun j => .int (x.2 j))) ∧ ArrOfT U cA .int
  | .inr (.inl x) => ∃ (cA : ClassId) (r : vw_C), pcls[x.1]? = some r ∧ H[a]? = some (arrV cA x.2.1 (fun j => va_rf ((x.2.2 j).map (fun a => bs + a)))) ∧ ArrOfT U cA (.object r.1) ∧ va_RA U cA (.object r.1)
  | .inr (.inr x) => ∃ r : vw_C, pcls[x.1]? = some r ∧ x.2.length = r.2.2 ∧ t_OB a (D.1 x.1) r.2.2 (D.2 x.1) H (fun k => emb X bs (x.2.getD k .null))
def Rep (D : va_G) (X : Nat → Nat) (bs : Nat) (U : State) (h : List pC) (H : Heap) : Prop := H.size = bs + h.length ∧ ∀ (k : Nat) (c : pC), h[k]? = some c → cAt D X bs U c (bs + k) H
section REP
variable {D : va_G} {X : Nat → Nat} {bs : Nat} {U u : State} {h : List pC} {H H1 : Heap} {c c0 : pC} {a k : Nat}
theorem cAt.kept (hc : cAt D X bs U c a H) (hq : H1[a]? = H[a]?) : cAt D X bs U c a H1 := by
  rcases c with x | x | x
  · obtain ⟨cA, h1, h2⟩ := hc
    exact ⟨cA, hq.trans h1, h2⟩
  · obtain ⟨cA, r, h0, h1, h2⟩ := hc
    exact ⟨cA, r, h0, hq.trans h1, h2⟩
  · obtain ⟨r, h0, h1, h2⟩ := hc
    exact ⟨r, h0, h1, h2.kept hq⟩
theorem cAt.moved (hvm : u.vm.Alike U.vm) (hc : cAt D X bs u c a H) : cAt D X bs U c a H := by
  rcases c with x | x | x
  · obtain ⟨cA, h1, h2⟩ := hc
    exact ⟨cA, h1, arrOfT_moved hvm h2⟩
  · obtain ⟨cA, r, h0, h1, h2, h3⟩ := hc
    exact ⟨cA, r, h0, h1, arrOfT_moved hvm h2, h3.moved hvm⟩
  · exact hc
theorem Rep.moved (hvm : u.vm.Alike U.vm) (R : Rep D X bs u h H) : Rep D X bs U h H := ⟨R.1, fun k c hk => (R.2 k c hk).moved hvm⟩
theorem Rep.lt (R : Rep D X bs U h H) (hk : h[k]? = some c0) : bs + k < H.size := by
  have h1 := (List.getElem?_eq_some_iff.mp hk).1
  have h2 := R.1
  omega
theorem Rep.set (R : Rep D X bs U h H) (hk : h[k]? = some c0) (hz : H1.size = H.size) (hc : cAt D X bs U c (bs + k) H1) (oq : ∀ q : Nat, q ≠ bs + k → H1[q]? = H[q]?) : Rep D X bs U (h.set k c) H1 := by
  refine ⟨by rw [hz, R.1, List.length_set], fun j e hj => ?_⟩
  by_cases hjk : j = k
  · subst hjk
    rw [List.getElem?_set_self (List.getElem?_eq_some_iff.mp hk).1] at hj
    cases hj
    exact hc
  · rw [List.getElem?_set_ne (Ne.symm hjk)] at hj
    exact (R.2 j e hj).kept (oq _ (by omega))
theorem Rep.push (R : Rep D X bs U h H) (hz : H1.size = H.size + 1) (hc : cAt D X bs U c H.size H1) (oq : ∀ q : Nat, q < H.size → H1[q]? = H[q]?) : Rep D X bs U (h ++ [c]) H1 := by
  have hR := R.1
  refine ⟨by rw [hz, hR, List.length_append]; rfl, fun j e hj => ?_⟩
  by_cases hl : j < h.length
  · rw [List.getElem?_append_left hl] at hj
    exact (R.2 j e hj).kept (oq _ (by omega))
  · have h1 := (List.getElem?_eq_some_iff.mp hj).1
    rw [List.length_append] at h1
    have h2 : j = h.length := by
      have h3 : [c].length = 1 := rfl
      omega
    subst h2
    rw [List.getElem?_append_right (Nat.le_refl _), Nat.sub_self] at hj
    cases hj
    rw [← hR]
    exact hc
theorem pobj_at {o : Nat × List Value} (ho : pobj h a = some o) : h[a]? = some (.inr (.inr o)) := by
  unfold pobj at ho
  split at ho
  · rename_i x hx
    cases ho
    exact hx
  · cases ho
theorem pint_at {o : Nat × (Nat → Int32)} (ho : pint h a = some o) : h[a]? = some (.inl o) := by
  unfold pint at ho
  split at ho
  · rename_i x hx
    cases ho
    exact hx
  · cases ho
theorem pref_at {o : Nat × Nat × (Nat → Option Nat)} (ho : pref h a = some o) : h[a]? = some (.inr (.inl o)) := by
  unfold pref at ho
  split at ho
  · rename_i x hx
    cases ho
    exact hx
  · cases ho
end REP
/-! the locals -/
def LH (X : Nat → Nat) (bs : Nat) (ls : Array Slot) (n : Nat) (L : pL) : Prop := lv_has ls n [] ∧ L.length = n ∧ ∀ (i : Nat) (v : Value), pget L i = some v → ls[i]? = some (.val (emb X bs v))
def pLl (X : Nat → Nat) (bs : Nat) (L : pL) : List (Nat × Value) := (List.range L.length).filterMap fun i => (pget L i).map fun v => (i, emb X bs v)
section LHS
variable {X : Nat → Nat} {bs n i : Nat} {ls ls' : Array Slot} {L L' : pL} {v w : Value}
theorem pget_lt (hv : pget L i = some v) : i < L.length := by
  unfold pget at hv
  split at hv
  · rename_i x hx
    exact (List.getElem?_eq_some_iff.mp hx).1
  · cases hv
theorem pLl_mem (hv : pget L i = some v) : (i, emb X bs v) ∈ pLl X bs L := List.mem_filterMap.mpr ⟨i, List.mem_range.mpr (pget_lt hv), by rw [hv]; rfl⟩
theorem LH.has (h : LH X bs ls n L) : lv_has ls n (pLl X bs L) := by
  refine ⟨h.1.1, h.1.2.1, fun q hq => ?_⟩
  obtain ⟨j, -, hj⟩ := List.mem_filterMap.mp hq
  cases hv : pget L j with
  | none => rw [hv] at hj; cases hj
  | some v =>
    rw [hv] at hj
    cases hj
    exact h.2.2 j v hv
theorem pcat2_of (hw : pcat2 (some w) = false) : w.category = 1 := by cases w <;> first | rfl | cases hw
theorem LH.of (hL : L.length = n) (hp : pset L i v = some L') (h : lv_has ls' n ((i, emb X bs v) :: (pLl X bs L).filter (fun q => !(q.1 == i) && !(q.1 + 1 == i && q.2.category == 2)))) : LH X bs ls' n L' := by
  unfold pset at hp
  split at hp
  · rename_i hi
    split at hp
    · cases hp
    · rename_i hc
      cases hp
      refine ⟨⟨h.1, h.2.1, fun q hq => by cases hq⟩, by rw [List.length_set]; exact hL, fun j w hw => ?_⟩
      by_cases hji : j = i
      · subst hji
        unfold pget at hw
        rw [List.getElem?_set_self hi] at hw
        cases hw
        exact h.2.2 _ List.mem_cons_self
      · have hw2 : pget L j = some w := by
          unfold pget at hw ⊢
          rw [List.getElem?_set_ne (Ne.symm hji)] at hw
          exact hw
        refine h.2.2 (j, emb X bs w) (List.mem_cons_of_mem _ (List.mem_filter.mpr ⟨pLl_mem hw2, ?_⟩))
        by_cases hj1 : j + 1 = i
        · have hj2 : i - 1 = j := by omega
          rw [hj2, hw2] at hc
          have hcat := pcat2_of (by simpa using hc)
          simp [hji, emb_cat, hcat]
        · simp [hji, hj1]
  · cases hp
theorem pset_lt (hp : pset L i v = some L') : i < L.length := by
  unfold pset at hp
  split at hp
  · assumption
  · cases hp
end LHS
theorem pexp_len (X : Nat → Nat) (bs : Nat) : ∀ as : List Value, (lg_sl (as.map (emb X bs))).length = (pexp as).length
  | [] => rfl
  | v :: vs => by
    have ih := pexp_len X bs vs
    unfold lg_sl at ih ⊢
    rw [List.map_cons, List.flatMap_cons, List.length_append, ih, emb_cat]
    cases v <;> simp [pexp, Value.category] <;> omega
theorem pexp_in (X : Nat → Nat) (bs : Nat) : ∀ (as : List Value) (k i : Nat) (v : Value), (pexp as)[i]? = some (some v) → (k + i, emb X bs v) ∈ lv_args k (as.map (emb X bs))
  | [], k, i, v, h => by simp [pexp] at h
  | w :: vs, k, i, v, h => by
    have one : ∀ (hc : w.category = 1) (he : pexp (w :: vs) = some w :: pexp vs), (k + i, emb X bs v) ∈ lv_args k ((w :: vs).map (emb X bs)) := by
      intro hc he
      rw [he] at h
      rw [List.map_cons]
      unfold lv_args
      rw [emb_cat, hc, if_neg (by decide)]
      cases i with
      | zero => rw [List.getElem?_cons_zero] at h; cases h; exact List.mem_cons_self
      | succ i =>
        rw [List.getElem?_cons_succ] at h
        have := pexp_in X bs vs (k + 1) i v h
        rw [show k + (i + 1) = k + 1 + i by omega]
        exact List.mem_cons_of_mem _ this
    have two : ∀ (hc : w.category = 2) (he : pexp (w :: vs) = some w :: none :: pexp vs), (k + i, emb X bs v) ∈ lv_args k ((w :: vs).map (emb X bs)) := by
      intro hc he
      rw [he] at h
      rw [List.map_cons]
      unfold lv_args
      rw [emb_cat, hc, if_pos rfl]
      match i, h with
      | 0, h => rw [List.getElem?_cons_zero] at h; cases h; exact List.mem_cons_self
      | 1, h => rw [List.getElem?_cons_succ, List.getElem?_cons_zero] at h; cases h
      | i + 2, h =>
        rw [List.getElem?_cons_succ, List.getElem?_cons_succ] at h
        have := pexp_in X bs vs (k + 2) i v h
        rw [show k + (i + 2) = k + 2 + i by omega]
        exact List.mem_cons_of_mem _ this
    cases w <;> first | exact one rfl rfl | exact two rfl rfl
theorem LH.entry (X : Nat → Nat) (bs n : Nat) (as : List Value) (hn : (pexp as).length ≤ n) : LH X bs ((lg_sl (as.map (emb X bs)) ++ List.replicate (n - (lg_sl (as.map (emb X bs))).length) Slot.unset).toArray) n (pent n as) := by
  have h := lv_entry (as.map (emb X bs)) (n := n) (by rw [pexp_len]; exact hn)
  refine ⟨⟨h.1, h.2.1, fun q hq => by cases hq⟩, ?_, fun i v hv => ?_⟩
  · unfold pent
    rw [List.length_append, List.length_replicate]
    omega
  · have hi : (pexp as)[i]? = some (some v) := by
      unfold pget pent at hv
      by_cases hl : i < (pexp as).length
      · rw [List.getElem?_append_left hl] at hv
        cases hx : (pexp as)[i]? with
        | none => rw [hx] at hv; cases hv
        | some o => rw [hx] at hv; exact congrArg some hv
      · rw [List.getElem?_append_right (by omega)] at hv
        cases hx : (List.replicate (n - (pexp as).length) (none : Option Value))[i - (pexp as).length]? with
        | none => rw [hx] at hv; cases hv
        | some o =>
          rw [hx] at hv
          have := List.eq_of_mem_replicate (List.mem_of_getElem? hx)
          rw [this] at hv
          cases hv
    have := pexp_in X bs as 0 i v hi
    rw [Nat.zero_add] at this
    exact h.2.2 _ this
