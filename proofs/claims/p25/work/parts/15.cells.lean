/-! ===== reading and writing of cells by their types ===== -/
section ACE
variable {n n' : Nat} {σ σ' : Nat → Int} {Γ Γ' : aG} {w : Value} {x y : AV} {z : Int} {T : List aT} {W : aW} {h h' h0 : List pC} {a i : Nat}
def ct (h : List pC) (a i : Nat) : Option Value := match h[a]? with
  | some (.inl x) => if i < x.1 then some (.int (x.2 i)) else none
  | some (.inr (.inl x)) => if i < x.2.1 then some (va_rf (x.2.2 i)) else none
  | some (.inr (.inr o)) => o.2[i]?
  | none => none
def knd (c : pC) : Nat := match c with
  | .inl _ => 0
  | .inr (.inl _) => 1
  | .inr (.inr o) => 2 + o.1
def FG (vs : List Value) (xs : List AV) : Prop := SG 0 (fun _ => 0) vs xs
def tyG (t : aT) (c : pC) : Prop := match t, c with
  | .inl t, .inl x => x.1 = t.1 ∧ ∀ s ∈ t.2, ∀ i : Nat, s.1 ≤ i → i ≤ s.2.1 → i < t.1 → s.2.2.1 ≤ (x.2 i).toInt ∧ (x.2 i).toInt ≤ s.2.2.2
  | .inr (.inl t), .inr (.inl x) => x.1 = t.1 ∧ x.2.1 = t.2.1 ∧ ∀ i : Nat, i < t.2.1 → x.2.2 i = t.2.2 i
  | .inr (.inr t), .inr (.inr x) => x.1 = t.1 ∧ FG x.2 t.2
  | _, _ => False
def HI (T : List aT) (h : List pC) : Prop := h.length = T.length ∧ ∀ (a : Nat) (t : aT), T[a]? = some t → ∃ c, h[a]? = some c ∧ tyG t c
def inW (W : aW) (a i : Nat) : Bool := W.any (fun b => decide (b.1 ≤ a) && decide (a ≤ b.2.1) && decide (b.2.2.1 ≤ i) && decide (i ≤ b.2.2.2))
def Fr (W : aW) (h h' : List pC) : Prop := ∀ a i : Nat, inW W a i = false → ct h' a i = ct h a i
theorem Fr.rf (W : aW) (h : List pC) : Fr W h h := fun _ _ _ => rfl
theorem Fr.tr {h1 h2 h3 : List pC} (h12 : Fr W h1 h2) (h23 : Fr W h2 h3) : Fr W h1 h3 := fun a i q => (h23 a i q).trans (h12 a i q)
def subW (W1 W2 : aW) : Bool := W1.all (fun b => W2.any (fun c => decide (c.1 ≤ b.1) && decide (b.2.1 ≤ c.2.1) && decide (c.2.2.1 ≤ b.2.2.1) && decide (b.2.2.2 ≤ c.2.2.2)))
theorem subW_ok {W1 W2 : aW} (hs : subW W1 W2 = true) (hq : inW W2 a i = false) : inW W1 a i = false := by
  cases hc : inW W1 a i with
  | false => rfl
  | true =>
    exfalso
    unfold inW at hc
    obtain ⟨b, hb, hb2⟩ := List.any_eq_true.mp hc
    obtain ⟨c, hcm, hc2⟩ := List.any_eq_true.mp (List.all_eq_true.mp hs b hb)
    simp only [Bool.and_eq_true, decide_eq_true_eq] at hb2 hc2
    have : inW W2 a i = true := List.any_eq_true.mpr ⟨c, hcm, by
      simp only [Bool.and_eq_true, decide_eq_true_eq]
      omega⟩
    rw [this] at hq
    cases hq
theorem Fr.sub {W1 W2 : aW} (hf : Fr W1 h h') (hs : subW W1 W2 = true) : Fr W2 h h' := fun a i hq => hf a i (subW_ok hs hq)
/-! what a cell's content can be -/
def segE (lo hi : Int) : List (Nat × Nat × Int × Int) → Int × Int
  | [] => (mI, MI)
  | s :: r => if (s.1 : Int) ≤ lo ∧ hi ≤ (s.2.1 : Int) then (s.2.2.1, s.2.2.2) else segE lo hi r
theorem segE_ok {m : Nat} {f : Nat → Int32} {lo hi : Int} : ∀ (sg : List (Nat × Nat × Int × Int)), (∀ s ∈ sg, ∀ i : Nat, s.1 ≤ i → i ≤ s.2.1 → i < m → s.2.2.1 ≤ (f i).toInt ∧ (f i).toInt ≤ s.2.2.2) → lo ≤ (i : Int) → (i : Int) ≤ hi → i < m → (segE lo hi sg).1 ≤ (f i).toInt ∧ (f i).toInt ≤ (segE lo hi sg).2
  | [], _, _, _, _ => ⟨i32_lo _, i32_hi _⟩
  | s :: r, hs, h1, h2, hm => by
    rw [segE]
    split
    · rename_i hc
      exact hs s List.mem_cons_self i (by omega) (by omega) hm
    · exact segE_ok r (fun s' hs' => hs s' (List.mem_cons_of_mem _ hs')) h1 h2 hm
def rfsE (f : Nat → Option Nat) : Nat → Nat → Option (List Nat)
  | 0, _ => some []
  | n + 1, i => match f i, rfsE f n (i + 1) with
    | some a, some l => some (a :: l)
    | _, _ => none
theorem rfsE_ok {f : Nat → Option Nat} : ∀ (n j : Nat) (l : List Nat), rfsE f n j = some l → j ≤ i → i < j + n → ∃ a ∈ l, f i = some a
  | 0, j, l, _, h1, h2 => by omega
  | n + 1, j, l, hl, h1, h2 => by
    rw [rfsE] at hl
    split at hl
    · rename_i b l' hb hl'
      cases hl
      by_cases e : i = j
      · subst e
        exact ⟨b, List.mem_cons_self, hb⟩
      · obtain ⟨c, hc, hf⟩ := rfsE_ok n (j + 1) l' hl' (by omega) (by omega)
        exact ⟨c, List.mem_cons_of_mem _ hc, hf⟩
    · cases hl
def fldE (x : AV) : Option aE := if x.1 = 0 then some (.inl (x.2.1, x.2.2.1)) else if x.1 = 5 then some (.inr [x.2.2.2]) else none
def elT (T : List aT) (k a : Nat) (lo hi : Int) : Option aE := match T[a]? with
  | some (.inl t) => if k = 0 ∧ 0 ≤ lo ∧ hi < (t.1 : Int) then some (.inl (segE lo hi t.2)) else none
  | some (.inr (.inl t)) => if k = 1 ∧ 0 ≤ lo ∧ hi < (t.2.1 : Int) then (match rfsE t.2.2 ((hi - lo).toNat + 1) lo.toNat with
    | some l => some (.inr l)
    | none => none) else none
  | some (.inr (.inr t)) => if k = 2 + t.1 ∧ 0 ≤ lo ∧ lo = hi then (match t.2[lo.toNat]? with
    | some x => fldE x
    | none => none) else none
  | none => none
theorem FG.at : ∀ {vs : List Value} {xs : List AV} {k : Nat} {x : AV}, FG vs xs → xs[k]? = some x → ∃ w, vs[k]? = some w ∧ vG 0 (fun _ => 0) w x
  | _ :: _, _ :: _, 0, _, h, hk => by cases hk; exact ⟨_, rfl, h.1⟩
  | _ :: vs, _ :: xs, k + 1, _, h, hk => FG.at (vs := vs) (xs := xs) (k := k) h.2 hk
  | [], [], _, _, _, hk => by simp at hk
  | [], _ :: _, _, _, h, _ => h.elim
  | _ :: _, [], _, _, h, _ => h.elim
theorem FG.set : ∀ {vs : List Value} {xs : List AV} {k : Nat} {x : AV} {w : Value}, FG vs xs → xs[k]? = some x → vG 0 (fun _ => 0) w x → FG (vs.set k w) xs
  | _ :: _, _ :: _, 0, _, _, h, hk, hw => by cases hk; exact ⟨hw, h.2⟩
  | _ :: vs, _ :: xs, k + 1, _, _, h, hk, hw => ⟨h.1, FG.set (vs := vs) (xs := xs) (k := k) h.2 hk hw⟩
  | [], [], _, _, _, _, hk, _ => by simp at hk
  | [], _ :: _, _, _, _, h, _, _ => h.elim
  | _ :: _, [], _, _, _, h, _, _ => h.elim
theorem fldE_ok {e : aE} (hv : vG 0 (fun _ => 0) w x) (he : fldE x = some e) : wE w e := by
  unfold fldE at he
  split at he
  · rename_i h0
    cases he
    obtain ⟨v, rfl, hz⟩ := hv.int (by omega)
    refine ⟨v, rfl, ?_⟩
    unfold zG at hz
    rw [if_pos (by rw [h0])] at hz
    exact hz
  · split at he
    · rename_i h5
      cases he
      obtain ⟨b, rfl, hb | hb⟩ := hv.ref (Or.inl h5)
      · exact ⟨b, by rw [hb.2]; exact List.mem_cons_self, rfl⟩
      · omega
    · cases he
theorem elT_ok {k : Nat} {lo hi : Int} {e : aE} (hh : HI T h) (he : elT T k a lo hi = some e) (h1 : lo ≤ (i : Int)) (h2 : (i : Int) ≤ hi) : ∃ c w, h[a]? = some c ∧ knd c = k ∧ ct h a i = some w ∧ wE w e := by
  unfold elT at he
  split at he
  · rename_i t ht
    obtain ⟨c, hc, hty⟩ := hh.2 a _ ht
    split at he
    · rename_i hq
      cases he
      rcases c with x | x | x
      · obtain ⟨q1, q2⟩ : x.1 = t.1 ∧ _ := hty
        have hi' : i < t.1 := by omega
        refine ⟨_, .int (x.2 i), hc, hq.1.symm, ?_, x.2 i, rfl, ?_⟩
        · unfold ct
          rw [hc]
          exact if_pos (by rw [q1]; exact hi')
        · exact segE_ok t.2 q2 h1 h2 hi'
      · exact hty.elim
      · exact hty.elim
    · cases he
  · rename_i t ht
    obtain ⟨c, hc, hty⟩ := hh.2 a _ ht
    split at he
    · rename_i hq
      split at he
      · rename_i l hl
        cases he
        rcases c with x | x | x
        · exact hty.elim
        · obtain ⟨q1, q2, q3⟩ : x.1 = t.1 ∧ x.2.1 = t.2.1 ∧ _ := hty
          have hi' : i < t.2.1 := by omega
          obtain ⟨b, hb, hf⟩ := rfsE_ok _ _ l hl (i := i) (by omega) (by omega)
          refine ⟨_, .ref b, hc, hq.1.symm, ?_, b, hb, rfl⟩
          unfold ct
          rw [hc]
          show (if i < x.2.1 then some (va_rf (x.2.2 i)) else none) = _
          rw [if_pos (by rw [q2]; exact hi'), q3 i hi', hf]
          rfl
        · exact hty.elim
      · cases he
    · cases he
  · rename_i t ht
    obtain ⟨c, hc, hty⟩ := hh.2 a _ ht
    split at he
    · rename_i hq
      split at he
      · rename_i y hy
        rcases c with x | x | x
        · exact hty.elim
        · exact hty.elim
        · obtain ⟨q1, q2⟩ : x.1 = t.1 ∧ FG x.2 t.2 := hty
          have ei : lo.toNat = i := by omega
          rw [ei] at hy
          obtain ⟨w, hw, hv⟩ := FG.at q2 hy
          refine ⟨_, w, hc, by rw [hq.1, ← q1]; rfl, ?_, fldE_ok hv he⟩
          unfold ct
          rw [hc]
          exact hw
      · cases he
    · cases he
  · cases he
def jnE (e f : aE) : Option aE := match e, f with
  | .inl p, .inl q => some (.inl (min p.1 q.1, max p.2 q.2))
  | .inr a, .inr b => some (.inr (a ++ b))
  | _, _ => none
theorem jnE_l {e f g : aE} (hj : jnE e f = some g) (hw : wE w e) : wE w g := by
  unfold jnE at hj
  split at hj
  · cases hj
    obtain ⟨v, rfl, h1, h2⟩ := hw
    exact ⟨v, rfl, Int.le_trans (Int.min_le_left _ _) h1, Int.le_trans h2 (Int.le_max_left _ _)⟩
  · cases hj
    obtain ⟨a, ha, rfl⟩ := hw
    exact ⟨a, List.mem_append_left _ ha, rfl⟩
  · cases hj
theorem jnE_r {e f g : aE} (hj : jnE e f = some g) (hw : wE w f) : wE w g := by
  unfold jnE at hj
  split at hj
  · cases hj
    obtain ⟨v, rfl, h1, h2⟩ := hw
    exact ⟨v, rfl, Int.le_trans (Int.min_le_right _ _) h1, Int.le_trans h2 (Int.le_max_right _ _)⟩
  · cases hj
    obtain ⟨a, ha, rfl⟩ := hw
    exact ⟨a, List.mem_append_right _ ha, rfl⟩
  · cases hj
def rdE (T : List aT) (k : Nat) (lo hi : Int) : List Nat → Option aE
  | [] => none
  | [a] => elT T k a lo hi
  | a :: b :: r => match elT T k a lo hi, rdE T k lo hi (b :: r) with
    | some e, some f => jnE e f
    | _, _ => none
theorem rdE_ok {k : Nat} {lo hi : Int} (hh : HI T h) (h1 : lo ≤ (i : Int)) (h2 : (i : Int) ≤ hi) : ∀ (as : List Nat) (e : aE), rdE T k lo hi as = some e → a ∈ as → ∃ c w, h[a]? = some c ∧ knd c = k ∧ ct h a i = some w ∧ wE w e
  | [], _, he, _ => by cases he
  | [b], e, he, ha => by
    obtain rfl := List.mem_singleton.mp ha
    exact elT_ok hh he h1 h2
  | b :: b' :: r, e, he, ha => by
    rw [rdE] at he
    split at he
    · rename_i e1 e2 q1 q2
      rcases List.mem_cons.mp ha with rfl | ha
      · obtain ⟨c, w, k1, k2, k3, k4⟩ := elT_ok hh q1 h1 h2
        exact ⟨c, w, k1, k2, k3, jnE_l he k4⟩
      · obtain ⟨c, w, k1, k2, k3, k4⟩ := rdE_ok hh h1 h2 (b' :: r) e2 q2 ha
        exact ⟨c, w, k1, k2, k3, jnE_r he k4⟩
    · cases he
/-! what is remembered -/
def cok (n : Nat) (σ : Nat → Int) (h : List pC) (C : aC) : Prop := ∀ e ∈ C, ∃ (a i : Nat) (w : Value), vG n σ (.ref a) e.1 ∧ zG n σ (i : Int) e.2.1 ∧ ct h a i = some w ∧ vG n σ w e.2.2
def cfind : aC → AV → AV → Option AV
  | [], _, _ => none
  | e :: r, xa, xi => if e.1 = xa ∧ e.2.1 = xi then some e.2.2 else cfind r xa xi
theorem cok.up (hn : n ≤ n') (ha : agr n σ σ') {C : aC} (hc : cok n σ h C) : cok n' σ' h C := fun e he => by
  obtain ⟨a, i, w, h1, h2, h3, h4⟩ := hc e he
  exact ⟨a, i, w, h1.up hn ha, h2.up hn ha, h3, h4.up hn ha⟩
/-- values that only one can be -/
def det (x : AV) : Bool := decide (x.1 % 2 = 1) || decide (x.2.1 = x.2.2.1)
theorem det_ok {z' : Int} (hd : det x = true) (h1 : zG n σ z x) (h2 : zG n σ z' x) : z = z' := by
  unfold zG at h1 h2
  unfold det at hd
  simp only [Bool.or_eq_true, decide_eq_true_eq] at hd
  split at h1
  · rename_i h0
    rw [if_pos h0] at h2
    omega
  · rename_i h0
    rw [if_neg h0] at h2
    rw [h1.1, h2.1]
theorem ref_one {b : Nat} (h1 : vG n σ (.ref a) x) (h2 : vG n σ (.ref b) x) : a = b := by
  have h1 : (x.1 = 5 ∧ a = x.2.2.2) ∨ (x.1 = 6 ∧ a = (σ x.2.2.2).toNat ∧ x.2.2.2 < n) := h1
  have h2 : (x.1 = 5 ∧ b = x.2.2.2) ∨ (x.1 = 6 ∧ b = (σ x.2.2.2).toNat ∧ x.2.2.2 < n) := h2
  omega
theorem cfind_ok {xa xi v : AV} (hd : det xi = true) (ha : vG n σ (.ref a) xa) (hi : zG n σ (i : Int) xi) : ∀ {C : aC}, cok n σ h C → cfind C xa xi = some v → ∃ w, ct h a i = some w ∧ vG n σ w v
  | [], _, hf => by cases hf
  | e :: r, hc, hf => by
    rw [cfind] at hf
    split at hf
    · rename_i hq
      cases hf
      obtain ⟨a', i', w, h1, h2, h3, h4⟩ := hc e List.mem_cons_self
      rw [hq.1] at h1
      rw [hq.2] at h2
      obtain rfl := ref_one h1 ha
      have : i' = i := by
        have := det_ok hd h2 hi
        omega
      subst this
      exact ⟨w, h3, h4⟩
    · exact cfind_ok hd ha hi (fun e' he' => hc e' (List.mem_cons_of_mem _ he')) hf
/-- the places that an index can be: one by one, where it goes by steps -/
def ptsG (c : Int) : Int → Nat → List (Int × Int)
  | lo, 0 => [(lo, lo)]
  | lo, n + 1 => (lo, lo) :: ptsG c (lo + c) n
def pts (x : AV) (q : Int × Int) : List (Int × Int) := if x.1 = 1 ∧ 2 ≤ x.2.1 ∧ q.2 - q.1 ≤ 16 * x.2.1 then ptsG x.2.1 q.1 ((q.2 - q.1) / x.2.1).toNat else [q]
theorem ptsG_mem {c : Int} : ∀ (n : Nat) (lo : Int) (j : Nat), j ≤ n → (lo + c * (j : Int), lo + c * (j : Int)) ∈ ptsG c lo n
  | 0, lo, j, hj => by
    obtain rfl : j = 0 := by omega
    rw [show lo + c * ((0 : Nat) : Int) = lo by simp]
    exact List.mem_cons_self
  | n + 1, lo, 0, hj => by
    rw [show lo + c * ((0 : Nat) : Int) = lo by simp]
    exact List.mem_cons_self
  | n + 1, lo, j + 1, hj => by
    refine List.mem_cons_of_mem _ ?_
    have := ptsG_mem (c := c) n (lo + c) j (by omega)
    rw [show lo + c * ((j + 1 : Nat) : Int) = lo + c + c * (j : Int) by rw [Int.natCast_add, Int.mul_add]; simp; omega]
    exact this
theorem pts_ok {q : Int × Int} (hg : gok σ Γ) (hz : zG n σ z x) (hq : ivl Γ x = some q) : ∃ p ∈ pts x q, p.1 ≤ z ∧ z ≤ p.2 := by
  unfold pts
  split
  · rename_i hc
    obtain ⟨c1, c2, c3⟩ := hc
    have hl := hz.lin (by omega)
    unfold ivl at hq
    rw [if_neg (by omega)] at hq
    split at hq
    · rename_i p hp
      have he : p.1 ≤ σ x.2.2.2 ∧ σ x.2.2.2 ≤ p.2 := hg _ _ hp
      rw [if_pos (by omega)] at hq
      cases hq
      refine ⟨_, ptsG_mem _ _ (σ x.2.2.2 - p.1).toNat ?_, ?_⟩
      · have e : (x.2.1 * p.2 + x.2.2.1 - (x.2.1 * p.1 + x.2.2.1)) / x.2.1 = p.2 - p.1 := by
          rw [show x.2.1 * p.2 + x.2.2.1 - (x.2.1 * p.1 + x.2.2.1) = x.2.1 * (p.2 - p.1) by rw [Int.mul_sub]; omega]
          exact Int.mul_ediv_cancel_left _ (by omega)
        dsimp only
        rw [e]
        omega
      · dsimp only
        rw [Int.toNat_of_nonneg (by omega), hl.1, Int.mul_sub]
        omega
    · cases hq
  · exact ⟨q, List.mem_cons_self, ivl_ok hg hz hq⟩
def rdP (T : List aT) (k : Nat) (as : List Nat) : List (Int × Int) → Option aE
  | [] => none
  | [p] => rdE T k p.1 p.2 as
  | p :: p' :: r => match rdE T k p.1 p.2 as, rdP T k as (p' :: r) with
    | some e, some f => jnE e f
    | _, _ => none
theorem rdP_ok {k : Nat} {as : List Nat} (hh : HI T h) (ha : a ∈ as) : ∀ (ps : List (Int × Int)) (e : aE), rdP T k as ps = some e → (∃ p ∈ ps, p.1 ≤ (i : Int) ∧ (i : Int) ≤ p.2) → ∃ c w, h[a]? = some c ∧ knd c = k ∧ ct h a i = some w ∧ wE w e
  | [], _, he, _ => by cases he
  | [p], e, he, hp => by
    obtain ⟨p', hp', h1⟩ := hp
    obtain rfl := List.mem_singleton.mp hp'
    exact rdE_ok hh h1.1 h1.2 as e he ha
  | p :: p' :: r, e, he, hp => by
    rw [rdP] at he
    split at he
    · rename_i e1 e2 q1 q2
      obtain ⟨z, hz, h1⟩ := hp
      rcases List.mem_cons.mp hz with rfl | hz
      · obtain ⟨c, w, k1, k2, k3, k4⟩ := rdE_ok hh h1.1 h1.2 as e1 q1 ha
        exact ⟨c, w, k1, k2, k3, jnE_l he k4⟩
      · obtain ⟨c, w, k1, k2, k3, k4⟩ := rdP_ok hh ha (p' :: r) e2 q2 ⟨z, hz, h1⟩
        exact ⟨c, w, k1, k2, k3, jnE_r he k4⟩
    · cases he
def ard (T : List aT) (Γ : aG) (C : aC) (k : Nat) (xa xi : AV) : Option (aG × aC × AV) := match adrs Γ xa, ivl Γ xi with
  | some as, some p => match rdP T k as (pts xi p) with
    | none => none
    | some e => if det xi = true then (match cfind C xa xi with
      | some v => some (Γ, C, v)
      | none => some ((nmE Γ e).1, (xa, xi, (nmE Γ e).2) :: C, (nmE Γ e).2)) else some ((nmE Γ e).1, C, (nmE Γ e).2)
  | _, _ => none
theorem ard_ok {C C' : aC} {k : Nat} {xa xi v : AV} (hg : gok σ Γ) (hc : cok Γ.length σ h C) (hh : HI T h) (ha : vG Γ.length σ (.ref a) xa) (hi : zG Γ.length σ (i : Int) xi) (hr : ard T Γ C k xa xi = some (Γ', C', v)) :
    ∃ σ' c w, agr Γ.length σ σ' ∧ gok σ' Γ' ∧ Γ.length ≤ Γ'.length ∧ cok Γ'.length σ' h C' ∧ h[a]? = some c ∧ knd c = k ∧ ct h a i = some w ∧ vG Γ'.length σ' w v := by
  unfold ard at hr
  split at hr
  · rename_i as p has hp
    obtain ⟨a', ha', e'⟩ := adrs_ok hg ha has
    cases e'
    have hip := pts_ok hg hi hp
    split at hr
    · cases hr
    · rename_i e he
      obtain ⟨c, w, k1, k2, k3, k4⟩ := rdP_ok hh ha' _ e he hip
      obtain ⟨σ', s1, s2, s3, s4⟩ := nmE_ok hg k4
      split at hr
      · rename_i hd
        split at hr
        · rename_i v' hf
          cases hr
          obtain ⟨w', q1, q2⟩ := cfind_ok hd ha hi hc hf
          exact ⟨σ, c, w', agr.rf _ _, hg, Nat.le_refl _, hc, k1, k2, q1, q2⟩
        · cases hr
          refine ⟨σ', c, w, s1, s2, s3, fun e0 he0 => ?_, k1, k2, k3, s4⟩
          rcases List.mem_cons.mp he0 with rfl | he0
          · exact ⟨a, i, w, ha.up s3 s1, hi.up s3 s1, k3, s4⟩
          · exact (hc.up s3 s1) e0 he0
      · cases hr
        exact ⟨σ', c, w, s1, s2, s3, hc.up s3 s1, k1, k2, k3, s4⟩
  · cases hr
/-! writing -/
def fitsT (T : List aT) (k a : Nat) (lo hi : Int) (p : Int × Int) : Bool := match T[a]? with
  | some (.inl t) => decide (k = 0) && decide (0 ≤ lo) && decide (hi < (t.1 : Int)) && t.2.all (fun s => decide (hi < (s.1 : Int)) || decide ((s.2.1 : Int) < lo) || (decide (s.2.2.1 ≤ p.1) && decide (p.2 ≤ s.2.2.2)))
  | some (.inr (.inr t)) => decide (k = 2 + t.1) && decide (0 ≤ lo) && decide (lo = hi) && (match t.2[lo.toNat]? with
    | some x => decide (x.1 = 0) && decide (x.2.1 ≤ p.1) && decide (p.2 ≤ x.2.2.1)
    | none => false)
  | _ => false
/-- the cells with the int v put at i of the cell a -/
def wrC (h : List pC) (a i : Nat) (v : Int32) : List pC := match h[a]? with
  | some (.inl x) => h.set a (.inl (x.1, va_up x.2 i v))
  | some (.inr (.inr o)) => h.set a (.inr (.inr (o.1, o.2.set i (.int v))))
  | _ => h
theorem wrC_len (h : List pC) (a i : Nat) (v : Int32) : (wrC h a i v).length = h.length := by
  unfold wrC
  split
  · exact List.length_set
  · exact List.length_set
  · rfl
theorem wrC_ne {b : Nat} (v : Int32) (hb : b ≠ a) : (wrC h a i v)[b]? = h[b]? := by
  unfold wrC
  split
  · exact List.getElem?_set_ne (Ne.symm hb)
  · exact List.getElem?_set_ne (Ne.symm hb)
  · rfl
theorem wrC_ct {v : Int32} {b j : Nat} (hne : ¬ (b = a ∧ j = i)) : ct (wrC h a i v) b j = ct h b j := by
  by_cases hb : b = a
  · subst hb
    have hj : j ≠ i := fun e => hne ⟨rfl, e⟩
    unfold wrC
    split
    · rename_i x hx
      have hl := (List.getElem?_eq_some_iff.mp hx).1
      unfold ct
      rw [List.getElem?_set_self hl, hx]
      show (if j < x.1 then some (Value.int (va_up x.2 i v j)) else none) = (if j < x.1 then some (Value.int (x.2 j)) else none)
      unfold va_up
      rw [if_neg hj]
    · rename_i o ho
      have hl := (List.getElem?_eq_some_iff.mp ho).1
      unfold ct
      rw [List.getElem?_set_self hl, ho]
      show (o.2.set i (.int v))[j]? = o.2[j]?
      rw [List.getElem?_set_ne (Ne.symm hj)]
    · rfl
  · unfold ct
    rw [wrC_ne v hb]
theorem wrC_self {v : Int32} {k : Nat} {lo hi : Int} {p : Int × Int} (hh : HI T h) (hf : fitsT T k a lo hi p = true) (h1 : lo ≤ (i : Int)) (h2 : (i : Int) ≤ hi) (hv : p.1 ≤ v.toInt ∧ v.toInt ≤ p.2) :
    HI T (wrC h a i v) ∧ ct (wrC h a i v) a i = some (.int v) ∧ ∃ c, h[a]? = some c ∧ knd c = k ∧ (∀ x, c = .inl x → i < x.1) ∧ (∀ o, c = .inr (.inr o) → i < o.2.length) ∧ (∀ x, c ≠ .inr (.inl x)) := by
  unfold fitsT at hf
  split at hf
  · rename_i t ht
    obtain ⟨c, hc, hty⟩ := hh.2 a _ ht
    simp only [Bool.and_eq_true, decide_eq_true_eq, List.all_eq_true, Bool.or_eq_true] at hf
    obtain ⟨⟨⟨f1, f2⟩, f3⟩, f4⟩ := hf
    have hl := (List.getElem?_eq_some_iff.mp hc).1
    rcases c with x | x | x
    · obtain ⟨q1, q2⟩ : x.1 = t.1 ∧ _ := hty
      have hw : wrC h a i v = h.set a (.inl (x.1, va_up x.2 i v)) := by unfold wrC; rw [hc]
      refine ⟨⟨by rw [wrC_len]; exact hh.1, fun b t' ht' => ?_⟩, ?_, _, hc, f1.symm, fun x' e => by cases e; omega, fun o e => by (cases e), fun x' e => by (cases e)⟩
      · by_cases hb : b = a
        · subst hb
          rw [ht] at ht'
          cases ht'
          refine ⟨.inl (x.1, va_up x.2 i v), by rw [hw, List.getElem?_set_self hl], q1, fun s hs j j1 j2 j3 => ?_⟩
          show s.2.2.1 ≤ (va_up x.2 i v j).toInt ∧ (va_up x.2 i v j).toInt ≤ s.2.2.2
          unfold va_up
          split
          · rename_i e
            have := f4 s hs
            omega
          · exact q2 s hs j j1 j2 j3
        · obtain ⟨c', hc', hty'⟩ := hh.2 b t' ht'
          exact ⟨c', by rw [wrC_ne v hb]; exact hc', hty'⟩
      · unfold ct
        rw [hw, List.getElem?_set_self hl]
        show (if i < x.1 then some (Value.int (va_up x.2 i v i)) else none) = _
        rw [if_pos (by omega)]
        unfold va_up
        rw [if_pos rfl]
    · exact hty.elim
    · exact hty.elim
  · rename_i t ht
    obtain ⟨c, hc, hty⟩ := hh.2 a _ ht
    simp only [Bool.and_eq_true, decide_eq_true_eq] at hf
    obtain ⟨⟨⟨f1, f2⟩, f3⟩, f4⟩ := hf
    have hl := (List.getElem?_eq_some_iff.mp hc).1
    split at f4
    · rename_i y hy
      simp only [Bool.and_eq_true, decide_eq_true_eq] at f4
      rcases c with x | x | x
      · exact hty.elim
      · exact hty.elim
      · obtain ⟨q1, q2⟩ : x.1 = t.1 ∧ FG x.2 t.2 := hty
        have hw : wrC h a i v = h.set a (.inr (.inr (x.1, x.2.set i (.int v)))) := by unfold wrC; rw [hc]
        have ei : lo.toNat = i := by omega
        rw [ei] at hy
        obtain ⟨w0, hw0, -⟩ := FG.at q2 hy
        have hlen := (List.getElem?_eq_some_iff.mp hw0).1
        refine ⟨⟨by rw [wrC_len]; exact hh.1, fun b t' ht' => ?_⟩, ?_, _, hc, by rw [f1, ← q1]; rfl, fun x' e => by (cases e), fun o e => by cases e; exact hlen, fun x' e => by (cases e)⟩
        · by_cases hb : b = a
          · subst hb
            rw [ht] at ht'
            cases ht'
            refine ⟨.inr (.inr (x.1, x.2.set i (.int v))), by rw [hw, List.getElem?_set_self hl], q1, FG.set q2 hy ?_⟩
            exact ⟨by omega, by
              unfold zG
              rw [if_pos (by omega)]
              omega⟩
          · obtain ⟨c', hc', hty'⟩ := hh.2 b t' ht'
            exact ⟨c', by rw [wrC_ne v hb]; exact hc', hty'⟩
        · unfold ct
          rw [hw, List.getElem?_set_self hl]
          show (x.2.set i (.int v))[i]? = _
          rw [List.getElem?_set_self hlen]
    · cases f4
  · cases hf
def inWs (W : aW) (a : Nat) (lo hi : Int) : Bool := W.any (fun b => decide (b.1 ≤ a) && decide (a ≤ b.2.1) && decide ((b.2.2.1 : Int) ≤ lo) && decide (hi ≤ (b.2.2.2 : Int)))
theorem inWs_ok {lo hi : Int} (hw : inWs W a lo hi = true) (h1 : lo ≤ (i : Int)) (h2 : (i : Int) ≤ hi) : inW W a i = true := by
  obtain ⟨b, hb, hb2⟩ := List.any_eq_true.mp hw
  refine List.any_eq_true.mpr ⟨b, hb, ?_⟩
  simp only [Bool.and_eq_true, decide_eq_true_eq] at hb2 ⊢
  omega
/-- surely other places -/
def apA (Γ : aG) (xa ya : AV) : Bool := match adrs Γ xa, adrs Γ ya with
  | some as, some bs => as.all (fun a => bs.all (fun b => decide (a ≠ b)))
  | _, _ => false
def apI (Γ : aG) (xi yi : AV) : Bool := (decide (xi.1 = 1) && decide (yi.1 = 1) && decide (xi.2.1 = yi.2.1) && decide (xi.2.2.2 = yi.2.2.2) && decide (xi.2.2.1 ≠ yi.2.2.1)) || (match ivl Γ xi, ivl Γ yi with
  | some p, some q => decide (p.2 < q.1) || decide (q.2 < p.1)
  | _, _ => false)
theorem apA_ok {b m : Nat} {xa ya : AV} (hg : gok σ Γ) (h : apA Γ xa ya = true) (h1 : vG m σ (.ref a) xa) (h2 : vG m σ (.ref b) ya) : a ≠ b := by
  unfold apA at h
  split at h
  · rename_i as bs ha hb
    obtain ⟨a', k1, e1⟩ := adrs_ok hg h1 ha
    obtain ⟨b', k2, e2⟩ := adrs_ok hg h2 hb
    cases e1
    cases e2
    have := List.all_eq_true.mp (List.all_eq_true.mp h a k1) b k2
    exact of_decide_eq_true this
  · cases h
theorem apI_ok {m : Nat} {z' : Int} {xi yi : AV} (hg : gok σ Γ) (h : apI Γ xi yi = true) (h1 : zG m σ z xi) (h2 : zG m σ z' yi) : z ≠ z' := by
  unfold apI at h
  rw [Bool.or_eq_true] at h
  rcases h with h | h
  · simp only [Bool.and_eq_true, decide_eq_true_eq] at h
    obtain ⟨⟨⟨⟨a1, a2⟩, a3⟩, a4⟩, a5⟩ := h
    have k1 := h1.lin (by omega)
    have k2 := h2.lin (by omega)
    rw [k1.1, k2.1, a3, a4]
    omega
  · split at h
    · rename_i p q hp hq
      have k1 := ivl_ok hg h1 hp
      have k2 := ivl_ok hg h2 hq
      simp only [Bool.or_eq_true, decide_eq_true_eq] at h
      omega
    · cases h
def awr (T : List aT) (W : aW) (Γ : aG) (C : aC) (k : Nat) (xa xi v : AV) : Option aC := match adrs Γ xa, ivl Γ xi, ivl Γ v with
  | some as, some q, some p => if as.all (fun a => (pts xi q).all (fun z => fitsT T k a z.1 z.2 p && inWs W a z.1 z.2)) = true then some ((xa, xi, v) :: C.filter (fun e => apA Γ e.1 xa || apI Γ e.2.1 xi)) else none
  | _, _, _ => none
theorem awr_ok {C C' : aC} {k : Nat} {xa xi xv : AV} {v : Int32} (hg : gok σ Γ) (hc : cok Γ.length σ h C) (hh : HI T h) (hf : Fr W h0 h) (ha : vG Γ.length σ (.ref a) xa) (hi : zG Γ.length σ (i : Int) xi) (hv : vG Γ.length σ (.int v) xv) (hr : awr T W Γ C k xa xi xv = some C') :
    HI T (wrC h a i v) ∧ Fr W h0 (wrC h a i v) ∧ cok Γ.length σ (wrC h a i v) C' ∧ ∃ c, h[a]? = some c ∧ knd c = k ∧ (∀ x, c = .inl x → i < x.1) ∧ (∀ o, c = .inr (.inr o) → i < o.2.length) ∧ (∀ x, c ≠ .inr (.inl x)) := by
  unfold awr at hr
  split at hr
  · rename_i as q p has hq hp
    obtain ⟨a', ha', e'⟩ := adrs_ok hg ha has
    cases e'
    obtain ⟨zq, hzq, hiq⟩ := pts_ok hg hi hq
    have hvp := ivl_ok hg hv.2 hp
    split at hr
    · rename_i hal
      cases hr
      have h1 := List.all_eq_true.mp (List.all_eq_true.mp hal a ha') zq hzq
      rw [Bool.and_eq_true] at h1
      obtain ⟨k1, k2, k3⟩ := wrC_self hh h1.1 hiq.1 hiq.2 hvp
      refine ⟨k1, fun b j hbj => ?_, fun e he => ?_, k3⟩
      · rw [wrC_ct (fun e => by
          rw [e.1, e.2, inWs_ok h1.2 hiq.1 hiq.2] at hbj
          cases hbj)]
        exact hf b j hbj
      · rcases List.mem_cons.mp he with rfl | he
        · exact ⟨a, i, _, ha, hi, k2, hv⟩
        · obtain ⟨he, hap⟩ := List.mem_filter.mp he
          obtain ⟨b, j, w, e1, e2, e3, e4⟩ := hc e he
          refine ⟨b, j, w, e1, e2, ?_, e4⟩
          rw [wrC_ct]
          · exact e3
          · intro e
            rw [Bool.or_eq_true] at hap
            rcases hap with hap | hap
            · exact apA_ok hg hap e1 ha e.1
            · exact apI_ok hg hap e2 hi (by rw [e.2])
    · cases hr
  · cases hr
end ACE
