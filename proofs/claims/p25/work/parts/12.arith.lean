/-! ===== arithmetic of intervals ===== -/
section AIA
variable {n : Nat} {σ : Nat → Int} {Γ : aG} {x y : AV} {z z' : Int} {v u : Int32}
def top : AV := (0, mI, MI, 0)
theorem i32_lo (v : Int32) : mI ≤ v.toInt := Int32.le_toInt v
theorem i32_hi (v : Int32) : v.toInt ≤ MI := by
  have h := Int32.toInt_lt v
  unfold MI
  omega
theorem top_ok (v : Int32) : zG n σ v.toInt top := ⟨i32_lo v, i32_hi v⟩
theorem bm32 (h1 : mI ≤ z) (h2 : z ≤ MI) : z.bmod (2 ^ 32) = z := by
  unfold mI at h1
  unfold MI at h2
  exact Int.bmod_eq_of_le (by omega) (by omega)
theorem zG.con (h : zG n σ z x) (hx : x.1 % 2 = 0) (hc : x.2.1 = x.2.2.1) : z = x.2.1 := by
  unfold zG at h
  rw [if_pos hx] at h
  omega
theorem zG.lin (h : zG n σ z x) (hx : ¬ x.1 % 2 = 0) : z = x.2.1 * σ x.2.2.2 + x.2.2.1 ∧ x.2.2.2 < n := by
  unfold zG at h
  rw [if_neg hx] at h
  exact h
theorem zG.itv {t : Nat} (ht : t % 2 = 0) {a b : Int} {k : Nat} (h1 : a ≤ z) (h2 : z ≤ b) : zG n σ z (t, a, b, k) := by
  unfold zG
  rw [if_pos ht]
  exact ⟨h1, h2⟩
theorem zG.mk {t : Nat} (ht : ¬ t % 2 = 0) {a b : Int} {k : Nat} (h1 : z = a * σ k + b) (h2 : k < n) : zG n σ z (t, a, b, k) := by
  unfold zG
  rw [if_neg ht]
  exact ⟨h1, h2⟩
/-- x + c, exactly -/
def addc (x : AV) (c lo hi : Int) : AV := if x.1 % 2 = 0 then (0, lo, hi, 0) else (1, x.2.1, x.2.2.1 + c, x.2.2.2)
theorem addc_ok {c lo hi : Int} (h : zG n σ z x) (hz : z' = z + c) (h1 : lo ≤ z') (h2 : z' ≤ hi) : zG n σ z' (addc x c lo hi) ∧ (addc x c lo hi).1 ≤ 1 := by
  unfold addc
  by_cases h0 : x.1 % 2 = 0
  · rw [if_pos h0]
    exact ⟨zG.itv rfl h1 h2, Nat.zero_le _⟩
  · rw [if_neg h0]
    obtain ⟨e, hk⟩ := h.lin h0
    exact ⟨zG.mk (by decide) (by rw [hz, e]; omega) hk, Nat.le_refl _⟩
def aadd (Γ : aG) (x y : AV) : AV := match ivl Γ x, ivl Γ y with
  | some p, some q => if mI ≤ p.1 + q.1 ∧ p.2 + q.2 ≤ MI then (if q.1 = q.2 then addc x q.1 (p.1 + q.1) (p.2 + q.2) else if p.1 = p.2 then addc y p.1 (p.1 + q.1) (p.2 + q.2) else (0, p.1 + q.1, p.2 + q.2, 0)) else top
  | _, _ => top
theorem aadd_ok (hg : gok σ Γ) (hx : zG n σ v.toInt x) (hy : zG n σ u.toInt y) : zG n σ (v + u).toInt (aadd Γ x y) ∧ (aadd Γ x y).1 ≤ 1 := by
  unfold aadd
  split
  · rename_i p q hp hq
    have h1 := ivl_ok hg hx hp
    have h2 := ivl_ok hg hy hq
    split
    · rename_i hr
      have e : (v + u).toInt = v.toInt + u.toInt := by rw [Int32.toInt_add]; exact bm32 (by omega) (by omega)
      split
      · rename_i hc
        exact addc_ok hx (by rw [e]; omega) (by rw [e]; omega) (by rw [e]; omega)
      · split
        · exact addc_ok hy (by rw [e]; omega) (by rw [e]; omega) (by rw [e]; omega)
        · rw [e]
          exact ⟨zG.itv rfl (by omega) (by omega), Nat.zero_le _⟩
    · exact ⟨top_ok _, Nat.zero_le _⟩
  · exact ⟨top_ok _, Nat.zero_le _⟩
/-- c - x, exactly -/
def subc (x : AV) (c lo hi : Int) : AV := if x.1 % 2 = 0 then (0, lo, hi, 0) else (1, -x.2.1, c - x.2.2.1, x.2.2.2)
theorem subc_ok {c lo hi : Int} (h : zG n σ z x) (hz : z' = c - z) (h1 : lo ≤ z') (h2 : z' ≤ hi) : zG n σ z' (subc x c lo hi) ∧ (subc x c lo hi).1 ≤ 1 := by
  unfold subc
  by_cases h0 : x.1 % 2 = 0
  · rw [if_pos h0]
    exact ⟨zG.itv rfl h1 h2, Nat.zero_le _⟩
  · rw [if_neg h0]
    obtain ⟨e, hk⟩ := h.lin h0
    exact ⟨zG.mk (by decide) (by rw [hz, e, Int.neg_mul]; omega) hk, Nat.le_refl _⟩
def asub (Γ : aG) (x y : AV) : AV := match ivl Γ x, ivl Γ y with
  | some p, some q => if mI ≤ p.1 - q.2 ∧ p.2 - q.1 ≤ MI then (if q.1 = q.2 then addc x (-q.1) (p.1 - q.2) (p.2 - q.1) else if p.1 = p.2 then subc y p.1 (p.1 - q.2) (p.2 - q.1) else (0, p.1 - q.2, p.2 - q.1, 0)) else top
  | _, _ => top
theorem asub_ok (hg : gok σ Γ) (hx : zG n σ v.toInt x) (hy : zG n σ u.toInt y) : zG n σ (v - u).toInt (asub Γ x y) ∧ (asub Γ x y).1 ≤ 1 := by
  unfold asub
  split
  · rename_i p q hp hq
    have h1 := ivl_ok hg hx hp
    have h2 := ivl_ok hg hy hq
    split
    · rename_i hr
      have e : (v - u).toInt = v.toInt - u.toInt := by rw [Int32.toInt_sub]; exact bm32 (by omega) (by omega)
      split
      · rename_i hc
        exact addc_ok hx (by rw [e]; omega) (by rw [e]; omega) (by rw [e]; omega)
      · split
        · exact subc_ok hy (by rw [e]; omega) (by rw [e]; omega) (by rw [e]; omega)
        · rw [e]
          exact ⟨zG.itv rfl (by omega) (by omega), Nat.zero_le _⟩
    · exact ⟨top_ok _, Nat.zero_le _⟩
  · exact ⟨top_ok _, Nat.zero_le _⟩
/-- c * x for c not below 0, exactly -/
def mulc (x : AV) (c lo hi : Int) : AV := if x.1 % 2 = 0 then (0, lo, hi, 0) else (1, c * x.2.1, c * x.2.2.1, x.2.2.2)
theorem mulc_ok {c lo hi : Int} (h : zG n σ z x) (hz : z' = c * z) (h1 : lo ≤ z') (h2 : z' ≤ hi) : zG n σ z' (mulc x c lo hi) ∧ (mulc x c lo hi).1 ≤ 1 := by
  unfold mulc
  by_cases h0 : x.1 % 2 = 0
  · rw [if_pos h0]
    exact ⟨zG.itv rfl h1 h2, Nat.zero_le _⟩
  · rw [if_neg h0]
    obtain ⟨e, hk⟩ := h.lin h0
    exact ⟨zG.mk (by decide) (by rw [hz, e, Int.mul_add, Int.mul_assoc]) hk, Nat.le_refl _⟩
def amul (Γ : aG) (x y : AV) : AV := match ivl Γ x, ivl Γ y with
  | some p, some q => if p.1 = p.2 ∧ 0 ≤ p.1 ∧ mI ≤ p.1 * q.1 ∧ p.1 * q.2 ≤ MI then mulc y p.1 (p.1 * q.1) (p.1 * q.2) else if q.1 = q.2 ∧ 0 ≤ q.1 ∧ mI ≤ q.1 * p.1 ∧ q.1 * p.2 ≤ MI then mulc x q.1 (q.1 * p.1) (q.1 * p.2) else top
  | _, _ => top
theorem amul_ok (hg : gok σ Γ) (hx : zG n σ v.toInt x) (hy : zG n σ u.toInt y) : zG n σ (v * u).toInt (amul Γ x y) ∧ (amul Γ x y).1 ≤ 1 := by
  unfold amul
  split
  · rename_i p q hp hq
    have h1 := ivl_ok hg hx hp
    have h2 := ivl_ok hg hy hq
    split
    · rename_i hr
      obtain ⟨hc, h0, r1, r2⟩ := hr
      have ev : v.toInt = p.1 := by omega
      have l1 := Int.mul_le_mul_of_nonneg_left h2.1 h0
      have l2 := Int.mul_le_mul_of_nonneg_left h2.2 h0
      have e : (v * u).toInt = p.1 * u.toInt := by rw [Int32.toInt_mul, ev]; exact bm32 (Int.le_trans r1 l1) (Int.le_trans l2 r2)
      exact mulc_ok hy e (by rw [e]; exact l1) (by rw [e]; exact l2)
    · split
      · rename_i hr
        obtain ⟨hc, h0, r1, r2⟩ := hr
        have ev : u.toInt = q.1 := by omega
        have l1 := Int.mul_le_mul_of_nonneg_left h1.1 h0
        have l2 := Int.mul_le_mul_of_nonneg_left h1.2 h0
        have e : (v * u).toInt = q.1 * v.toInt := by rw [Int32.toInt_mul, ev, Int.mul_comm]; exact bm32 (Int.le_trans r1 l1) (Int.le_trans l2 r2)
        exact mulc_ok hx e (by rw [e]; exact l1) (by rw [e]; exact l2)
      · exact ⟨top_ok _, Nat.zero_le _⟩
  · exact ⟨top_ok _, Nat.zero_le _⟩
theorem and_le_r (h : 0 ≤ u.toInt) : 0 ≤ (v &&& u).toInt ∧ (v &&& u).toInt ≤ u.toInt := by
  have hu : 2 * u.toBitVec.toNat < 2 ^ 32 := by
    have := u.toBitVec.isLt
    rw [show u.toInt = u.toBitVec.toInt from rfl, BitVec.toInt_eq_toNat_cond] at h
    split at h
    · assumption
    · omega
  have e1 : u.toInt = (u.toBitVec.toNat : Int) := BitVec.toInt_eq_toNat_of_lt hu
  have l : (v.toBitVec &&& u.toBitVec).toNat ≤ u.toBitVec.toNat := by rw [BitVec.toNat_and]; exact Nat.and_le_right
  have e2 : (v &&& u).toInt = ((v.toBitVec &&& u.toBitVec).toNat : Int) := by
    rw [show (v &&& u).toInt = (v.toBitVec &&& u.toBitVec).toInt from rfl]
    exact BitVec.toInt_eq_toNat_of_lt (by omega)
  rw [e1, e2]
  omega
theorem and_comm32 : v &&& u = u &&& v := Int32.and_comm v u
def aand (Γ : aG) (x y : AV) : AV := match ivl Γ x, ivl Γ y with
  | some p, some q => if 0 ≤ q.1 then (0, 0, q.2, 0) else if 0 ≤ p.1 then (0, 0, p.2, 0) else top
  | _, _ => top
theorem aand_ok (hg : gok σ Γ) (hx : zG n σ v.toInt x) (hy : zG n σ u.toInt y) : zG n σ (v &&& u).toInt (aand Γ x y) ∧ (aand Γ x y).1 ≤ 1 := by
  unfold aand
  split
  · rename_i p q hp hq
    have h1 := ivl_ok hg hx hp
    have h2 := ivl_ok hg hy hq
    split
    · have := and_le_r (v := v) (u := u) (by omega)
      exact ⟨zG.itv rfl this.1 (by omega), Nat.zero_le _⟩
    · split
      · have := and_le_r (v := u) (u := v) (by omega)
        rw [and_comm32]
        exact ⟨zG.itv rfl this.1 (by omega), Nat.zero_le _⟩
      · exact ⟨top_ok _, Nat.zero_le _⟩
  · exact ⟨top_ok _, Nat.zero_le _⟩
end AIA
