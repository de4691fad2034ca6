/-! ===== the tables' words by their numbers, looked up by one recursion ===== -/
noncomputable def nthT (l : List Cond) : Nat → Option Cond := List.rec (motive := fun _ => Nat → Option Cond) (fun _ => none) (fun w _ ih i => Bool.rec (motive := fun _ => Option Cond) (ih (Nat.sub i 1)) (some w) (Nat.beq i 0)) l
theorem nthT_mem : ∀ (l : List Cond) (i : Nat) (w : Cond), nthT l i = some w → w ∈ l
  | [], i, w, h => by
    have h : (none : Option Cond) = some w := h
    cases h
  | x :: r, i, w, h => by
    have h : (Bool.rec (motive := fun _ => Option Cond) (nthT r (Nat.sub i 1)) (some x) (Nat.beq i 0)) = some w := h
    cases hb : Nat.beq i 0 with
    | true =>
      rw [hb] at h
      have h : some x = some w := h
      cases h
      exact List.mem_cons_self
    | false =>
      rw [hb] at h
      exact List.mem_cons_of_mem _ (nthT_mem r _ w h)
theorem in_of2 {ws : List Cond} {ps : List Nat} (h : ws = ps.filterMap (nthT lw_tbl)) (hu : ws.all uword = true) : ∀ w ∈ ws, w ∈ utbl := by
  intro w hw
  refine List.mem_filter.mpr ⟨?_, List.all_eq_true.mp hu w hw⟩
  rw [h] at hw
  obtain ⟨i, -, hi⟩ := List.mem_filterMap.mp hw
  exact nthT_mem _ _ _ hi
theorem WFm.of2 {P : List pM} {M : pM} {ps qs : List Nat} (h1 : pwB P M = true) (h2 : plnks P M = ps.filterMap (nthT lw_tbl)) (h3 : pmw M = qs.filterMap (nthT lw_tbl)) (hu : (plnks P M ++ pmw M).all uword = true) : WFm P M := by
  unfold pwB at h1
  rw [Bool.and_eq_true] at h1
  rw [List.all_append, Bool.and_eq_true] at hu
  exact ⟨⟨h1.2, in_of2 h2 hu.1⟩, h1.1, in_of2 h3 hu.2⟩
/-- of a list those at ascending places, by one recursion over it: g to the first, then gs from each to the next -/
noncomputable def pkT (l : List Cond) : Nat → List Nat → List Cond := List.rec (motive := fun _ => Nat → List Nat → List Cond) (fun _ _ => []) (fun w _ ih g gs => Bool.rec (motive := fun _ => List Cond) (ih (Nat.sub g 1) gs) (w :: List.rec (motive := fun _ => List Cond) [] (fun g2 gs2 _ => ih g2 gs2) gs) (Nat.beq g 0)) l
theorem pkT_mem : ∀ (l : List Cond) (g : Nat) (gs : List Nat) (w : Cond), w ∈ pkT l g gs → w ∈ l
  | [], g, gs, w, h => by
    have h : w ∈ ([] : List Cond) := h
    cases h
  | x :: r, g, gs, w, h => by
    have h : w ∈ (Bool.rec (motive := fun _ => List Cond) (pkT r (Nat.sub g 1) gs) (x :: List.rec (motive := fun _ => List Cond) [] (fun g2 gs2 _ => pkT r g2 gs2) gs) (Nat.beq g 0)) := h
    cases hb : Nat.beq g 0 with
    | true =>
      rw [hb] at h
      have h : w ∈ (x :: List.rec (motive := fun _ => List Cond) [] (fun g2 gs2 _ => pkT r g2 gs2) gs) := h
      rcases List.mem_cons.mp h with h | h
      · rw [h]
        exact List.mem_cons_self
      · cases gs with
        | nil =>
          have h : w ∈ ([] : List Cond) := h
          cases h
        | cons g2 gs2 => exact List.mem_cons_of_mem _ (pkT_mem r g2 gs2 w h)
    | false =>
      rw [hb] at h
      exact List.mem_cons_of_mem _ (pkT_mem r _ gs w h)
theorem in_of3 {ws vs : List Cond} {ps gs : List Nat} {g : Nat} (h : ws ++ vs = ps.filterMap (nthT (pkT lw_tbl g gs))) (hu : (ws ++ vs).all uword = true) : ∀ w ∈ ws ++ vs, w ∈ utbl := by
  intro w hw
  refine List.mem_filter.mpr ⟨?_, List.all_eq_true.mp hu w hw⟩
  rw [h] at hw
  obtain ⟨i, -, hi⟩ := List.mem_filterMap.mp hw
  exact pkT_mem _ _ _ _ (nthT_mem _ _ _ hi)
/-- two words are the same, bytes by one recursion -/
noncomputable def lEq (l : List UInt8) : List UInt8 → Bool := List.rec (motive := fun _ => List UInt8 → Bool) (fun m => List.rec (motive := fun _ => Bool) true (fun _ _ _ => false) m) (fun x _ ih m => List.rec (motive := fun _ => Bool) false (fun y ys _ => Bool.rec (motive := fun _ => Bool) false (ih ys) (Nat.beq x.toNat y.toNat)) m) l
theorem lEq_eq : ∀ (l m : List UInt8), lEq l m = true → l = m
  | [], [], _ => rfl
  | [], y :: ys, h => by
    have h : false = true := h
    cases h
  | x :: xs, [], h => by
    have h : false = true := h
    cases h
  | x :: xs, y :: ys, h => by
    have h : (Bool.rec (motive := fun _ => Bool) false (lEq xs ys) (Nat.beq x.toNat y.toNat)) = true := h
    cases hb : Nat.beq x.toNat y.toNat with
    | true =>
      rw [hb] at h
      have h : lEq xs ys = true := h
      rw [lEq_eq xs ys h, UInt8.toNat_inj.mp (Nat.eq_of_beq_eq_true hb)]
    | false =>
      rw [hb] at h
      have h : false = true := h
      cases h
noncomputable def cEq (w v : Cond) : Bool := match w, v with
  | .code m b l r, .code m' b' l' r' => decide (m = m') && (lEq b.data.toList b'.data.toList && (decide (l = l') && decide (r = r')))
  | w, v => decide (w = v)
theorem cEq_eq {w v : Cond} (h : cEq w v = true) : w = v := by
  unfold cEq at h
  split at h
  · rw [Bool.and_eq_true, Bool.and_eq_true, Bool.and_eq_true] at h
    obtain ⟨h1, h2, h3, h4⟩ := h
    rw [of_decide_eq_true h1, ByteArray.ext (Array.ext' (lEq_eq _ _ h2)), of_decide_eq_true h3, of_decide_eq_true h4]
  · exact of_decide_eq_true h
noncomputable def cEqL : List Cond → List Cond → Bool
  | [], [] => true
  | x :: xs, y :: ys => cEq x y && cEqL xs ys
  | _, _ => false
theorem cEqL_eq : ∀ (l m : List Cond), cEqL l m = true → l = m
  | [], [], _ => rfl
  | [], y :: ys, h => by
    have h : false = true := h
    cases h
  | x :: xs, [], h => by
    have h : false = true := h
    cases h
  | x :: xs, y :: ys, h => by
    rw [cEqL, Bool.and_eq_true] at h
    rw [cEq_eq h.1, cEqL_eq xs ys h.2]
theorem WFm.of3 {P : List pM} {M : pM} {ps gs : List Nat} {g : Nat} (h1 : pwB P M = true) (h2 : cEqL (plnks P M ++ pmw M) (ps.filterMap (nthT (pkT lw_tbl g gs))) = true) (hu : (plnks P M ++ pmw M).all uword = true) : WFm P M := by
  unfold pwB at h1
  rw [Bool.and_eq_true] at h1
  have k := in_of3 (cEqL_eq _ _ h2) hu
  exact ⟨⟨h1.2, fun w hw => k w (List.mem_append_left _ hw)⟩, h1.1, fun w hw => k w (List.mem_append_right _ hw)⟩
