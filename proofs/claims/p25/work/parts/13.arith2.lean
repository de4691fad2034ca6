/-! ===== division, rest, shifts, signs, conversions ===== -/
section AIR
variable {n : Nat} {σ : Nat → Int} {Γ : aG} {x y : AV} {z z' : Int} {v u : Int32}
theorem div_pos32 (h : 0 < u.toInt) : (v / u).toInt = v.toInt.tdiv u.toInt := by
  refine Int32.toInt_div_of_ne_right v u (fun e => ?_)
  rw [e] at h
  exact absurd h (by decide)
theorem rem_pos32 (h : 0 < u.toInt) : (v - v / u * u).toInt = v.toInt.tmod u.toInt := by
  have hd := div_pos32 (v := v) h
  have b1 := i32_lo v
  have b2 := i32_hi v
  have b3 := i32_hi u
  have e1 : v.toInt.tdiv u.toInt * u.toInt = v.toInt - v.toInt.tmod u.toInt := by
    have := Int.tdiv_mul_add_tmod v.toInt u.toInt
    omega
  have t1 := Int.tmod_lt_of_pos v.toInt h
  have t2 := Int.lt_tmod_of_pos v.toInt h
  have t3 : 0 ≤ v.toInt → 0 ≤ v.toInt.tmod u.toInt := fun h0 => Int.tmod_nonneg _ h0
  have t4 : v.toInt ≤ 0 → v.toInt.tmod u.toInt ≤ 0 := fun h0 => by
    have := Int.tmod_nonneg (a := -v.toInt) u.toInt (by omega)
    rw [Int.neg_tmod] at this
    omega
  unfold mI at b1
  unfold MI at b2 b3
  have e2 : (v / u * u).toInt = v.toInt - v.toInt.tmod u.toInt := by
    rw [Int32.toInt_mul, hd, e1]
    exact bm32 (by unfold mI; omega) (by unfold MI; omega)
  rw [Int32.toInt_sub, e2]
  have e3 : v.toInt - (v.toInt - v.toInt.tmod u.toInt) = v.toInt.tmod u.toInt := by omega
  rw [e3]
  exact bm32 (by unfold mI; omega) (by unfold MI; omega)
/-- a divisor that is not 0 -/
def nz (Γ : aG) (y : AV) : Bool := match ivl Γ y with
  | some q => decide (0 < q.1 ∨ q.2 < 0)
  | none => false
theorem nz_ok (hg : gok σ Γ) (hy : zG n σ u.toInt y) (h : nz Γ y = true) : ¬ u = 0 := by
  unfold nz at h
  split at h
  · rename_i q hq
    have h := of_decide_eq_true h
    have h2 := ivl_ok hg hy hq
    intro e
    rw [e, show (0 : Int32).toInt = 0 from rfl] at h2
    omega
  · cases h
def arem (Γ : aG) (x y : AV) : AV := match ivl Γ x, ivl Γ y with
  | some p, some q => if 0 < q.1 then (if 0 ≤ p.1 then (0, 0, q.2 - 1, 0) else (0, 1 - q.2, q.2 - 1, 0)) else top
  | _, _ => top
theorem arem_ok (hg : gok σ Γ) (hx : zG n σ v.toInt x) (hy : zG n σ u.toInt y) : zG n σ (v - v / u * u).toInt (arem Γ x y) ∧ (arem Γ x y).1 ≤ 1 := by
  unfold arem
  split
  · rename_i p q hp hq
    have h1 := ivl_ok hg hx hp
    have h2 := ivl_ok hg hy hq
    split
    · have hu : 0 < u.toInt := by omega
      have t1 := Int.tmod_lt_of_pos v.toInt hu
      have t2 := Int.lt_tmod_of_pos v.toInt hu
      have t3 : 0 ≤ v.toInt → 0 ≤ v.toInt.tmod u.toInt := fun h0 => Int.tmod_nonneg _ h0
      rw [rem_pos32 hu]
      split
      · exact ⟨zG.itv rfl (t3 (by omega)) (by omega), Nat.zero_le _⟩
      · exact ⟨zG.itv rfl (by omega) (by omega), Nat.zero_le _⟩
    · exact ⟨top_ok _, Nat.zero_le _⟩
  · exact ⟨top_ok _, Nat.zero_le _⟩
def adiv (Γ : aG) (x y : AV) : AV := match ivl Γ x, ivl Γ y with
  | some p, some q => if 0 < q.1 ∧ 0 ≤ p.1 then (0, 0, p.2, 0) else top
  | _, _ => top
theorem adiv_ok (hg : gok σ Γ) (hx : zG n σ v.toInt x) (hy : zG n σ u.toInt y) : zG n σ (v / u).toInt (adiv Γ x y) ∧ (adiv Γ x y).1 ≤ 1 := by
  unfold adiv
  split
  · rename_i p q hp hq
    have h1 := ivl_ok hg hx hp
    have h2 := ivl_ok hg hy hq
    split
    · rename_i hc
      have hu : 0 < u.toInt := by omega
      rw [div_pos32 hu]
      have a1 := Int.tdiv_nonneg (a := v.toInt) (b := u.toInt) (by omega) (by omega)
      have a2 := Int.tdiv_le_self (a := v.toInt) u.toInt (by omega)
      exact ⟨zG.itv rfl a1 (by omega), Nat.zero_le _⟩
    · exact ⟨top_ok _, Nat.zero_le _⟩
  · exact ⟨top_ok _, Nat.zero_le _⟩
theorem ushr8 (v : Int32) : 0 ≤ ((v.toUInt32 >>> ((8 : Int32).toUInt32 &&& Int32.toUInt32 31)).toInt32).toInt ∧ ((v.toUInt32 >>> ((8 : Int32).toUInt32 &&& Int32.toUInt32 31)).toInt32).toInt ≤ 16777215 := by
  rw [show ((8 : Int32).toUInt32 &&& Int32.toUInt32 31) = 8 by decide]
  have e : (v.toUInt32 >>> (8 : UInt32)).toNat < 16777216 := by
    rw [UInt32.toNat_shiftRight, show (8 : UInt32).toNat % 32 = 8 by decide, Nat.shiftRight_eq_div_pow]
    have := v.toUInt32.toNat_lt
    omega
  have e2 : ((v.toUInt32 >>> (8 : UInt32)).toInt32).toInt = ((v.toUInt32 >>> (8 : UInt32)).toNat : Int) := by
    show (v.toUInt32 >>> (8 : UInt32)).toBitVec.toInt = _
    exact BitVec.toInt_eq_toNat_of_lt (by
      show 2 * (v.toUInt32 >>> (8 : UInt32)).toNat < 2 ^ 32
      omega)
  rw [e2]
  omega
def aushr (Γ : aG) (y : AV) : AV := if ivl Γ y = some (8, 8) then (0, 0, 16777215, 0) else top
theorem aushr_ok (hg : gok σ Γ) (hy : zG n σ u.toInt y) : zG n σ ((v.toUInt32 >>> (u.toUInt32 &&& Int32.toUInt32 31)).toInt32).toInt (aushr Γ y) ∧ (aushr Γ y).1 ≤ 1 := by
  unfold aushr
  split
  · rename_i h8
    have h := ivl_ok hg hy h8
    dsimp only at h
    have e : u = 8 := Int32.toInt_inj.mp (show u.toInt = (8 : Int32).toInt by rw [show (8 : Int32).toInt = 8 from rfl]; omega)
    subst e
    have := ushr8 v
    exact ⟨zG.itv rfl this.1 this.2, Nat.zero_le _⟩
  · exact ⟨top_ok _, Nat.zero_le _⟩
def aneg (Γ : aG) (x : AV) : AV := match ivl Γ x with
  | some p => if mI < p.1 then subc x 0 (-p.2) (-p.1) else top
  | none => top
theorem aneg_ok (hg : gok σ Γ) (hx : zG n σ v.toInt x) : zG n σ (-v).toInt (aneg Γ x) ∧ (aneg Γ x).1 ≤ 1 := by
  unfold aneg
  split
  · rename_i p hp
    have h1 := ivl_ok hg hx hp
    have b2 := i32_hi v
    split
    · rename_i hc
      unfold mI at hc
      unfold MI at b2
      have e : (-v).toInt = -v.toInt := by rw [Int32.toInt_neg]; exact bm32 (by unfold mI; omega) (by unfold MI; omega)
      exact subc_ok hx (by rw [e]; omega) (by rw [e]; omega) (by rw [e]; omega)
    · exact ⟨top_ok _, Nat.zero_le _⟩
  · exact ⟨top_ok _, Nat.zero_le _⟩
def ai2s : AV := (0, -32768, 32767, 0)
theorem ai2s_ok (v : Int32) : zG n σ v.toInt16.toInt32.toInt ai2s ∧ ai2s.1 ≤ 1 := by
  rw [Int16.toInt_toInt32]
  have h1 := Int16.le_toInt v.toInt16
  have h2 := Int16.toInt_lt v.toInt16
  exact ⟨zG.itv rfl (by omega) (by omega), Nat.zero_le _⟩
def amax (Γ : aG) (x y : AV) : AV := match ivl Γ x, ivl Γ y with
  | some p, some q => (0, max p.1 q.1, max p.2 q.2, 0)
  | _, _ => top
theorem amax_ok (hg : gok σ Γ) (hx : zG n σ v.toInt x) (hy : zG n σ u.toInt y) : zG n σ (if v < u then u else v).toInt (amax Γ x y) ∧ (amax Γ x y).1 ≤ 1 := by
  unfold amax
  have hlt := Int32.lt_iff_toInt_lt (x := v) (y := u)
  cases hp : ivl Γ x with
  | none => exact ⟨top_ok _, Nat.zero_le _⟩
  | some p =>
    cases hq : ivl Γ y with
    | none => exact ⟨top_ok _, Nat.zero_le _⟩
    | some q =>
      have h1 := ivl_ok hg hx hp
      have h2 := ivl_ok hg hy hq
      by_cases h : v < u
      · rw [if_pos h]
        have h := hlt.mp h
        exact ⟨zG.itv rfl (by omega) (by omega), Nat.zero_le _⟩
      · rw [if_neg h]
        have h : ¬ v.toInt < u.toInt := fun q => h (hlt.mpr q)
        exact ⟨zG.itv rfl (by omega) (by omega), Nat.zero_le _⟩
def amin (Γ : aG) (x y : AV) : AV := match ivl Γ x, ivl Γ y with
  | some p, some q => (0, min p.1 q.1, min p.2 q.2, 0)
  | _, _ => top
theorem amin_ok (hg : gok σ Γ) (hx : zG n σ v.toInt x) (hy : zG n σ u.toInt y) : zG n σ (if u < v then u else v).toInt (amin Γ x y) ∧ (amin Γ x y).1 ≤ 1 := by
  unfold amin
  have hlt := Int32.lt_iff_toInt_lt (x := u) (y := v)
  cases hp : ivl Γ x with
  | none => exact ⟨top_ok _, Nat.zero_le _⟩
  | some p =>
    cases hq : ivl Γ y with
    | none => exact ⟨top_ok _, Nat.zero_le _⟩
    | some q =>
      have h1 := ivl_ok hg hx hp
      have h2 := ivl_ok hg hy hq
      by_cases h : u < v
      · rw [if_pos h]
        have h := hlt.mp h
        exact ⟨zG.itv rfl (by omega) (by omega), Nat.zero_le _⟩
      · rw [if_neg h]
        have h : ¬ u.toInt < v.toInt := fun q => h (hlt.mpr q)
        exact ⟨zG.itv rfl (by omega) (by omega), Nat.zero_le _⟩
end AIR
