/-! ===== INTERVALS: what the values of a run can be; a symbol stands for an int between two, or for an address out of a list ===== -/
abbrev AV : Type := Nat × Int × Int × Nat
abbrev aE : Type := (Int × Int) ⊕ List Nat
abbrev aG : Type := List aE
abbrev aL : Type := List AV
def mI : Int := -2147483648
def MI : Int := 2147483647
def eG (z : Int) (e : aE) : Prop := match e with
  | .inl p => p.1 ≤ z ∧ z ≤ p.2
  | .inr as => ∃ a ∈ as, z = Int.ofNat a
def gok (σ : Nat → Int) (Γ : aG) : Prop := ∀ (k : Nat) (e : aE), Γ[k]? = some e → eG (σ k) e
def agr (n : Nat) (σ σ' : Nat → Int) : Prop := ∀ k : Nat, k < n → σ' k = σ k
/-- an int (or a long) and what is known of it: tags 0, 2 between two; tags 1, 3: so many times a symbol, and so much -/
def zG (n : Nat) (σ : Nat → Int) (z : Int) (x : AV) : Prop := if x.1 % 2 = 0 then x.2.1 ≤ z ∧ z ≤ x.2.2.1 else z = x.2.1 * σ x.2.2.2 + x.2.2.1 ∧ x.2.2.2 < n
def vG (n : Nat) (σ : Nat → Int) (w : Value) (x : AV) : Prop := match w with
  | .int v => x.1 ≤ 1 ∧ zG n σ v.toInt x
  | .long v => (x.1 = 2 ∨ x.1 = 3) ∧ zG n σ v.toInt x
  | .null => x.1 = 4
  | .ref a => (x.1 = 5 ∧ a = x.2.2.2) ∨ (x.1 = 6 ∧ a = (σ x.2.2.2).toNat ∧ x.2.2.2 < n)
  | _ => False
section AIB
variable {n n' : Nat} {σ σ' : Nat → Int} {Γ Γ' : aG} {w : Value} {x y : AV} {z : Int}
theorem agr.rf (n : Nat) (σ : Nat → Int) : agr n σ σ := fun _ _ => rfl
theorem agr.le (h : agr n' σ σ') (hn : n ≤ n') : agr n σ σ' := fun k hk => h k (Nat.lt_of_lt_of_le hk hn)
theorem agr.tr {σ'' : Nat → Int} (h1 : agr n σ σ') (h2 : agr n σ' σ'') : agr n σ σ'' := fun k hk => (h2 k hk).trans (h1 k hk)
theorem zG.up (hn : n ≤ n') (ha : agr n σ σ') (h : zG n σ z x) : zG n' σ' z x := by
  unfold zG at h ⊢
  split at h
  · rename_i h0
    rw [if_pos h0]
    exact h
  · rename_i h0
    rw [if_neg h0]
    exact ⟨by rw [ha _ h.2]; exact h.1, Nat.lt_of_lt_of_le h.2 hn⟩
theorem vG.up (hn : n ≤ n') (ha : agr n σ σ') (h : vG n σ w x) : vG n' σ' w x := by
  unfold vG at h ⊢
  split at h
  · exact ⟨h.1, h.2.up hn ha⟩
  · exact ⟨h.1, h.2.up hn ha⟩
  · exact h
  · rcases h with h | h
    · exact Or.inl h
    · exact Or.inr ⟨h.1, by rw [ha _ h.2.2]; exact h.2.1, Nat.lt_of_lt_of_le h.2.2 hn⟩
  · exact h
theorem vG.int (h : vG n σ w x) (hx : x.1 ≤ 1) : ∃ v : Int32, w = .int v ∧ zG n σ v.toInt x := by
  unfold vG at h
  split at h
  · exact ⟨_, rfl, h.2⟩
  · omega
  · omega
  · omega
  · cases h
theorem vG.long (h : vG n σ w x) (hx : x.1 = 2 ∨ x.1 = 3) : ∃ v : Int64, w = .long v ∧ zG n σ v.toInt x := by
  unfold vG at h
  split at h
  · omega
  · exact ⟨_, rfl, h.2⟩
  · omega
  · omega
  · cases h
theorem vG.null (h : vG n σ w x) (hx : x.1 = 4) : w = .null := by
  unfold vG at h
  split at h
  · omega
  · omega
  · rfl
  · omega
  · cases h
theorem vG.ref (h : vG n σ w x) (hx : x.1 = 5 ∨ x.1 = 6) : ∃ a : Nat, w = .ref a ∧ ((x.1 = 5 ∧ a = x.2.2.2) ∨ (x.1 = 6 ∧ a = (σ x.2.2.2).toNat ∧ x.2.2.2 < n)) := by
  unfold vG at h
  split at h
  · omega
  · omega
  · omega
  · exact ⟨_, rfl, h⟩
  · cases h
theorem eG.at {k : Nat} {e : aE} (hg : gok σ Γ) (h : Γ[k]? = some e) : eG (σ k) e := hg k e h
/-- between which two a value is -/
def ivl (Γ : aG) (x : AV) : Option (Int × Int) := if x.1 % 2 = 0 then some (x.2.1, x.2.2.1) else (match Γ[x.2.2.2]? with
  | some (.inl p) => some (if 0 ≤ x.2.1 then (x.2.1 * p.1 + x.2.2.1, x.2.1 * p.2 + x.2.2.1) else (x.2.1 * p.2 + x.2.2.1, x.2.1 * p.1 + x.2.2.1))
  | _ => none)
theorem ivl_ok {p : Int × Int} (hg : gok σ Γ) (hz : zG n σ z x) (hp : ivl Γ x = some p) : p.1 ≤ z ∧ z ≤ p.2 := by
  unfold ivl at hp
  unfold zG at hz
  split at hp
  · rename_i h0
    rw [if_pos h0] at hz
    cases hp
    exact hz
  · rename_i h0
    rw [if_neg h0] at hz
    split at hp
    · rename_i q hq
      have he : q.1 ≤ σ x.2.2.2 ∧ σ x.2.2.2 ≤ q.2 := hg _ _ hq
      cases hp
      rw [hz.1]
      split
      · rename_i hm
        exact ⟨Int.add_le_add_right (Int.mul_le_mul_of_nonneg_left he.1 hm) _, Int.add_le_add_right (Int.mul_le_mul_of_nonneg_left he.2 hm) _⟩
      · rename_i hm
        have hm : x.2.1 ≤ 0 := by omega
        exact ⟨Int.add_le_add_right (Int.mul_le_mul_of_nonpos_left hm he.2) _, Int.add_le_add_right (Int.mul_le_mul_of_nonpos_left hm he.1) _⟩
    · cases hp
/-! a value held within two: what is known of the symbol behind it -/
def rfs (Γ : aG) (k : Nat) (lo hi : Int) : Option aG := match Γ[k]? with
  | some (.inl p) => if max p.1 lo ≤ min p.2 hi then some (Γ.set k (.inl (max p.1 lo, min p.2 hi))) else none
  | _ => some Γ
def rfn (Γ : aG) (x : AV) (lo hi : Int) : Option aG := if x.1 % 2 = 0 then (if max x.2.1 lo ≤ min x.2.2.1 hi then some Γ else none) else if x.2.1 = 1 then rfs Γ x.2.2.2 (lo - x.2.2.1) (hi - x.2.2.1) else if x.2.1 = -1 then rfs Γ x.2.2.2 (x.2.2.1 - hi) (x.2.2.1 - lo) else some Γ
theorem rfs_ok {k : Nat} {lo hi : Int} (hg : gok σ Γ) (h : lo ≤ σ k ∧ σ k ≤ hi) : ∃ Γ', rfs Γ k lo hi = some Γ' ∧ gok σ Γ' ∧ Γ'.length = Γ.length := by
  unfold rfs
  split
  · rename_i p hp
    have he : p.1 ≤ σ k ∧ σ k ≤ p.2 := hg _ _ hp
    have h1 : max p.1 lo ≤ σ k := Int.max_le.mpr ⟨he.1, h.1⟩
    have h2 : σ k ≤ min p.2 hi := Int.le_min.mpr ⟨he.2, h.2⟩
    rw [if_pos (Int.le_trans h1 h2)]
    refine ⟨_, rfl, fun j e hj => ?_, List.length_set⟩
    by_cases hjk : j = k
    · subst hjk
      rw [List.getElem?_set_self (List.getElem?_eq_some_iff.mp hp).1] at hj
      cases hj
      exact ⟨h1, h2⟩
    · rw [List.getElem?_set_ne (Ne.symm hjk)] at hj
      exact hg _ _ hj
  · exact ⟨Γ, rfl, hg, rfl⟩
theorem rfn_ok {lo hi : Int} (hg : gok σ Γ) (hz : zG n σ z x) (h1 : lo ≤ z) (h2 : z ≤ hi) : ∃ Γ', rfn Γ x lo hi = some Γ' ∧ gok σ Γ' ∧ Γ'.length = Γ.length := by
  unfold rfn
  unfold zG at hz
  by_cases h0 : x.1 % 2 = 0
  · rw [if_pos h0] at hz
    rw [if_pos h0, if_pos (Int.le_trans (Int.max_le.mpr ⟨hz.1, h1⟩) (Int.le_min.mpr ⟨hz.2, h2⟩))]
    exact ⟨Γ, rfl, hg, rfl⟩
  · rw [if_neg h0] at hz
    rw [if_neg h0]
    by_cases e1 : x.2.1 = 1
    · rw [if_pos e1]
      have hz1 := hz.1
      rw [e1] at hz1
      exact rfs_ok hg ⟨by omega, by omega⟩
    · rw [if_neg e1]
      by_cases e2 : x.2.1 = -1
      · rw [if_pos e2]
        have hz1 := hz.1
        rw [e2] at hz1
        exact rfs_ok hg ⟨by omega, by omega⟩
      · rw [if_neg e2]
        exact ⟨Γ, rfl, hg, rfl⟩
def two (Γ : aG) (x : AV) (p : Int × Int) (y : AV) (q : Int × Int) : List aG := match rfn Γ x p.1 p.2 with
  | none => []
  | some Γ1 => match rfn Γ1 y q.1 q.2 with
    | none => []
    | some Γ2 => [Γ2]
theorem two_ok {z' : Int} {p q : Int × Int} (hg : gok σ Γ) (hx : zG n σ z x) (hy : zG n σ z' y) (h1 : p.1 ≤ z ∧ z ≤ p.2) (h2 : q.1 ≤ z' ∧ z' ≤ q.2) : ∃ Γ' ∈ two Γ x p y q, gok σ Γ' ∧ Γ'.length = Γ.length := by
  obtain ⟨Γ1, e1, g1, l1⟩ := rfn_ok hg hx h1.1 h1.2
  obtain ⟨Γ2, e2, g2, l2⟩ := rfn_ok g1 hy h2.1 h2.2
  unfold two
  rw [e1]
  dsimp only
  rw [e2]
  exact ⟨Γ2, List.mem_cons_self, g2, l2.trans l1⟩
/-- 0 <, 1 ≤, 2 >, 3 ≥, 4 =, 5 ≠ -/
def rel (r : Nat) (a b : Int) : Prop := match r with
  | 0 => a < b
  | 1 => a ≤ b
  | 2 => b < a
  | 3 => b ≤ a
  | 4 => a = b
  | _ => ¬ a = b
def rfq (Γ : aG) (x y : AV) (p q : Int × Int) (r : Nat) : List aG := match r with
  | 0 => two Γ x (p.1, q.2 - 1) y (p.1 + 1, q.2)
  | 1 => two Γ x (p.1, q.2) y (p.1, q.2)
  | 2 => two Γ x (q.1 + 1, p.2) y (q.1, p.2 - 1)
  | 3 => two Γ x (q.1, p.2) y (q.1, p.2)
  | 4 => two Γ x q y p
  | _ => if q.1 = q.2 ∧ (q.1 = 0 ∨ q.1 = p.1 ∨ q.1 = p.2 ∨ p.2 - p.1 ≤ 8) then two Γ x (p.1, q.1 - 1) y q ++ two Γ x (q.1 + 1, p.2) y q else [Γ]
def rfr (Γ : aG) (r : Nat) (x y : AV) : List aG := match ivl Γ x, ivl Γ y with
  | some p, some q => rfq Γ x y p q r
  | _, _ => [Γ]
theorem rfq_ok {z' : Int} {p q : Int × Int} (hg : gok σ Γ) (hx : zG n σ z x) (hy : zG n σ z' y) (h1 : p.1 ≤ z ∧ z ≤ p.2) (h2 : q.1 ≤ z' ∧ z' ≤ q.2) : ∀ r : Nat, rel r z z' → ∃ Γ' ∈ rfq Γ x y p q r, gok σ Γ' ∧ Γ'.length = Γ.length
  | 0, hr => by
    have hr : z < z' := hr
    exact two_ok (p := (p.1, q.2 - 1)) (q := (p.1 + 1, q.2)) hg hx hy ⟨h1.1, by dsimp only; omega⟩ ⟨by dsimp only; omega, h2.2⟩
  | 1, hr => by
    have hr : z ≤ z' := hr
    exact two_ok (p := (p.1, q.2)) (q := (p.1, q.2)) hg hx hy ⟨h1.1, by dsimp only; omega⟩ ⟨by dsimp only; omega, h2.2⟩
  | 2, hr => by
    have hr : z' < z := hr
    exact two_ok (p := (q.1 + 1, p.2)) (q := (q.1, p.2 - 1)) hg hx hy ⟨by dsimp only; omega, h1.2⟩ ⟨h2.1, by dsimp only; omega⟩
  | 3, hr => by
    have hr : z' ≤ z := hr
    exact two_ok (p := (q.1, p.2)) (q := (q.1, p.2)) hg hx hy ⟨by dsimp only; omega, h1.2⟩ ⟨h2.1, by dsimp only; omega⟩
  | 4, hr => by
    have hr : z = z' := hr
    exact two_ok (p := q) (q := p) hg hx hy ⟨by omega, by omega⟩ ⟨by omega, by omega⟩
  | r + 5, hr => by
    have hr : ¬ z = z' := hr
    show ∃ Γ' ∈ (if q.1 = q.2 ∧ (q.1 = 0 ∨ q.1 = p.1 ∨ q.1 = p.2 ∨ p.2 - p.1 ≤ 8) then two Γ x (p.1, q.1 - 1) y q ++ two Γ x (q.1 + 1, p.2) y q else [Γ]), _
    split
    · rename_i hc
      by_cases hlt : z < q.1
      · obtain ⟨G, m, k⟩ := two_ok (p := (p.1, q.1 - 1)) (q := q) hg hx hy ⟨h1.1, by dsimp only; omega⟩ h2
        exact ⟨G, List.mem_append_left _ m, k⟩
      · obtain ⟨G, m, k⟩ := two_ok (p := (q.1 + 1, p.2)) (q := q) hg hx hy ⟨by dsimp only; omega, h1.2⟩ h2
        exact ⟨G, List.mem_append_right _ m, k⟩
    · exact ⟨Γ, List.mem_cons_self, hg, rfl⟩
theorem rfr_ok {z' : Int} (r : Nat) (hg : gok σ Γ) (hx : zG n σ z x) (hy : zG n σ z' y) (hr : rel r z z') : ∃ Γ' ∈ rfr Γ r x y, gok σ Γ' ∧ Γ'.length = Γ.length := by
  unfold rfr
  split
  · rename_i p q hp hq
    exact rfq_ok hg hx hy (ivl_ok hg hx hp) (ivl_ok hg hy hq) r hr
  · exact ⟨Γ, List.mem_cons_self, hg, rfl⟩
end AIB
