/-! ===== operations by number; facts; conditions ===== -/
def opS (c : Nat) (a b : Int32) : Int32 := match c with
  | 0 => a + b
  | 1 => a - b
  | 2 => a * b
  | 3 => a &&& b
  | 4 => a ||| b
  | 5 => a ^^^ b
  | 6 => a <<< (b &&& 31)
  | 7 => a >>> (b &&& 31)
  | 8 => (a.toUInt32 >>> (b.toUInt32 &&& Int32.toUInt32 31)).toInt32
  | 9 => a - a / b * b
  | 10 => a / b
  | 11 => if a < b then b else a
  | 12 => if b < a then b else a
  | 13 => a.toInt16.toInt32
  | _ => if 0 ≤ a then a else 0 - a
def aop (c : Nat) (Γ : aG) (x y : AV) : AV := match c with
  | 0 => aadd Γ x y
  | 1 => asub Γ x y
  | 2 => amul Γ x y
  | 3 => aand Γ x y
  | 4 => top
  | 5 => top
  | 6 => top
  | 7 => top
  | 8 => aushr Γ y
  | 9 => arem Γ x y
  | 10 => adiv Γ x y
  | 11 => amax Γ x y
  | 12 => amin Γ x y
  | 13 => ai2s
  | _ => top
def fcG (n : Nat) (σ : Nat → Int) (f : Nat × AV × AV × AV) : Prop := if f.1 < 10 then ∃ a b : Int, zG n σ a f.2.1 ∧ zG n σ b f.2.2.1 ∧ rel f.1 a b else ∃ a b : Int32, zG n σ a.toInt f.2.1 ∧ zG n σ b.toInt f.2.2.1 ∧ zG n σ (opS (f.1 - 10) a b).toInt f.2.2.2
def fok (n : Nat) (σ : Nat → Int) (Δ : aD) : Prop := ∀ f ∈ Δ, fcG n σ f
section AOP
variable {n n' : Nat} {σ σ' : Nat → Int} {Γ Γ' : aG} {w : Value} {x y : AV} {z : Int} {v u : Int32}
theorem aop_ok (c : Nat) (hg : gok σ Γ) (hx : zG n σ v.toInt x) (hy : zG n σ u.toInt y) : zG n σ (opS c v u).toInt (aop c Γ x y) ∧ (aop c Γ x y).1 ≤ 1 := by
  unfold aop
  split
  · exact aadd_ok hg hx hy
  · exact asub_ok hg hx hy
  · exact amul_ok hg hx hy
  · exact aand_ok hg hx hy
  · exact ⟨top_ok _, Nat.zero_le _⟩
  · exact ⟨top_ok _, Nat.zero_le _⟩
  · exact ⟨top_ok _, Nat.zero_le _⟩
  · exact ⟨top_ok _, Nat.zero_le _⟩
  · exact aushr_ok hg hy
  · exact arem_ok hg hx hy
  · exact adiv_ok hg hx hy
  · exact amax_ok hg hx hy
  · exact amin_ok hg hx hy
  · exact ai2s_ok v
  · exact ⟨top_ok _, Nat.zero_le _⟩
theorem fcG.up (hn : n ≤ n') (ha : agr n σ σ') {f : Nat × AV × AV × AV} (h : fcG n σ f) : fcG n' σ' f := by
  unfold fcG at h ⊢
  split at h
  · rename_i h0
    rw [if_pos h0]
    obtain ⟨a, b, h1, h2, h3⟩ := h
    exact ⟨a, b, h1.up hn ha, h2.up hn ha, h3⟩
  · rename_i h0
    rw [if_neg h0]
    obtain ⟨a, b, h1, h2, h3⟩ := h
    exact ⟨a, b, h1.up hn ha, h2.up hn ha, h3.up hn ha⟩
theorem fok.up (hn : n ≤ n') (ha : agr n σ σ') {Δ : aD} (h : fok n σ Δ) : fok n' σ' Δ := fun f hf => (h f hf).up hn ha
theorem fok.cons {Δ : aD} {f : Nat × AV × AV × AV} (h : fok n σ Δ) (hf : fcG n σ f) : fok n σ (f :: Δ) := fun g hg => by
  rcases List.mem_cons.mp hg with rfl | hg
  · exact hf
  · exact h g hg
/-- the first symbol may be a sign: what was worked out once is not named anew -/
def mkd (Γ : aG) : Bool := match Γ with
  | .inl p :: _ => decide (p.1 = 77777) && decide (p.2 = 77777)
  | _ => false
def cse (Γ : aG) (Δ : aD) (c : Nat) (x y : AV) : Option AV := if (mkd Γ && det x && det y) = true then (match Δ.find? (fun f => decide (f.1 = c + 10) && decide (f.2.1 = x) && decide (f.2.2.1 = y) && decide (f.2.2.2.1 ≤ 1)) with
  | some f => some f.2.2.2
  | none => none) else none
theorem cse_ok {Δ : aD} {c : Nat} {v0 : AV} (hf : fok Γ.length σ Δ) (hx : zG Γ.length σ v.toInt x) (hy : zG Γ.length σ u.toInt y) (hc : cse Γ Δ c x y = some v0) : vG Γ.length σ (.int (opS c v u)) v0 := by
  unfold cse at hc
  split at hc
  · rename_i hd
    rw [Bool.and_eq_true, Bool.and_eq_true] at hd
    split at hc
    · rename_i f hfd
      cases hc
      have hm := List.mem_of_find?_eq_some hfd
      have hp := List.find?_some hfd
      simp only [Bool.and_eq_true, decide_eq_true_eq] at hp
      obtain ⟨⟨⟨p1, p2⟩, p3⟩, p4⟩ := hp
      have h1 := hf f hm
      unfold fcG at h1
      rw [if_neg (by omega)] at h1
      obtain ⟨a, b, a1, a2, a3⟩ := h1
      rw [p2] at a1
      rw [p3] at a2
      obtain rfl : a = v := Int32.toInt_inj.mp (det_ok hd.1.2 a1 hx)
      obtain rfl : b = u := Int32.toInt_inj.mp (det_ok hd.2 a2 hy)
      rw [show f.1 - 10 = c by omega] at a3
      exact ⟨p4, a3⟩
    · cases hc
  · cases hc
def aopS (ff : Bool) (Γ : aG) (Δ : aD) (c : Nat) (x y : AV) : aG × aD × AV := match cse Γ Δ c x y with
  | some v => (Γ, Δ, v)
  | none => ((nm Γ (aop c Γ x y)).1, if ff = true ∧ ¬ (nm Γ (aop c Γ x y)).1.length = Γ.length then (c + 10, x, y, (nm Γ (aop c Γ x y)).2) :: Δ else Δ, (nm Γ (aop c Γ x y)).2)
theorem aopS_ok (ff : Bool) {Δ : aD} (c : Nat) (hg : gok σ Γ) (hf : fok Γ.length σ Δ) (hx : zG Γ.length σ v.toInt x) (hy : zG Γ.length σ u.toInt y) :
    ∃ σ', agr Γ.length σ σ' ∧ gok σ' (aopS ff Γ Δ c x y).1 ∧ Γ.length ≤ (aopS ff Γ Δ c x y).1.length ∧ fok (aopS ff Γ Δ c x y).1.length σ' (aopS ff Γ Δ c x y).2.1 ∧ vG (aopS ff Γ Δ c x y).1.length σ' (.int (opS c v u)) (aopS ff Γ Δ c x y).2.2 := by
  cases hc : cse Γ Δ c x y with
  | some v0 =>
    rw [show aopS ff Γ Δ c x y = (Γ, Δ, v0) by unfold aopS; rw [hc]]
    exact ⟨σ, agr.rf _ _, hg, Nat.le_refl _, hf, cse_ok hf hx hy hc⟩
  | none =>
    rw [show aopS ff Γ Δ c x y = ((nm Γ (aop c Γ x y)).1, if ff = true ∧ ¬ (nm Γ (aop c Γ x y)).1.length = Γ.length then (c + 10, x, y, (nm Γ (aop c Γ x y)).2) :: Δ else Δ, (nm Γ (aop c Γ x y)).2) by unfold aopS; rw [hc]]
    obtain ⟨h1, h2⟩ := aop_ok c hg hx hy
    obtain ⟨σ', s1, s2, s3, s4⟩ := nm_ok hg h1 h2
    refine ⟨σ', s1, s2, s3, ?_, s4⟩
    dsimp only
    split
    · refine (hf.up s3 s1).cons ?_
      unfold fcG
      rw [if_neg (by dsimp only; omega)]
      refine ⟨v, u, hx.up s3 s1, hy.up s3 s1, ?_⟩
      rw [show c + 10 - 10 = c by omega]
      exact s4.2
    · exact hf.up s3 s1
/-! conditions -/
def ccd (k : ClassFile.Cond) : Nat × Nat := match k with
  | .eq => (4, 5)
  | .ne => (5, 4)
  | .lt => (0, 3)
  | .ge => (3, 0)
  | .gt => (2, 1)
  | .le => (1, 2)
theorem i32_eq {a b : Int32} : a = b ↔ a.toInt = b.toInt := Int32.toInt_inj.symm
theorem ccd_t {k : ClassFile.Cond} {a b : Int32} (h : pc2 k a b = true) : rel (ccd k).1 a.toInt b.toInt := by
  cases k
  · exact i32_eq.mp (of_decide_eq_true h)
  · have h : ¬ a = b := of_decide_eq_true h
    exact fun e => h (i32_eq.mpr e)
  · exact Int32.lt_iff_toInt_lt.mp (of_decide_eq_true h)
  · exact Int32.le_iff_toInt_le.mp (of_decide_eq_true h)
  · exact Int32.lt_iff_toInt_lt.mp (of_decide_eq_true h)
  · exact Int32.le_iff_toInt_le.mp (of_decide_eq_true h)
theorem ccd_f {k : ClassFile.Cond} {a b : Int32} (h : pc2 k a b = false) : rel (ccd k).2 a.toInt b.toInt := by
  cases k
  · have h : ¬ a = b := of_decide_eq_false h
    exact fun e => h (i32_eq.mpr e)
  · have h : ¬ ¬ a = b := of_decide_eq_false h
    exact i32_eq.mp (Decidable.not_not.mp h)
  · have h : ¬ a < b := of_decide_eq_false h
    exact Int.not_lt.mp (fun e => h (Int32.lt_iff_toInt_lt.mpr e))
  · have h : ¬ b ≤ a := of_decide_eq_false h
    exact Int.not_le.mp (fun e => h (Int32.le_iff_toInt_le.mpr e))
  · have h : ¬ b < a := of_decide_eq_false h
    exact Int.not_lt.mp (fun e => h (Int32.lt_iff_toInt_lt.mpr e))
  · have h : ¬ a ≤ b := of_decide_eq_false h
    exact Int.not_le.mp (fun e => h (Int32.le_iff_toInt_le.mpr e))
theorem pc1_2 (k : ClassFile.Cond) (a : Int32) : pc1 k a = pc2 k a 0 := by cases k <;> rfl
theorem ccd_lt (k : ClassFile.Cond) : (ccd k).1 < 10 ∧ (ccd k).2 < 10 := by cases k <;> exact ⟨by decide, by decide⟩
theorem cn_ok {n : Nat} {σ : Nat → Int} (a : Int32) : zG n σ a.toInt (cn a.toInt) := zG.itv rfl (Int.le_refl _) (Int.le_refl _)
theorem cnZ (a : Int) : zG n σ a (cn a) := zG.itv rfl (Int.le_refl _) (Int.le_refl _)
theorem fcG.rl {r : Nat} {z' : Int} (hr : r < 10) (hx : zG n σ z x) (hy : zG n σ z' y) (h : rel r z z') (q : AV) : fcG n σ (r, x, y, q) := by
  unfold fcG
  rw [if_pos hr]
  exact ⟨z, z', hx, hy, h⟩
def fadd (ff : Bool) (Δ : aD) (r : Nat) (x y : AV) : aD := if ff = true then (r, x, y, cn 0) :: Δ else Δ
theorem fadd_ok (ff : Bool) {Δ : aD} {r : Nat} {z' : Int} (hf : fok n σ Δ) (hr : r < 10) (hx : zG n σ z x) (hy : zG n σ z' y) (h : rel r z z') : fok n σ (fadd ff Δ r x y) := by
  unfold fadd
  split
  · exact hf.cons (fcG.rl hr hx hy h _)
  · exact hf
/-! a switch -/
def swd (x : AV) : List (Int × Nat) → aG → List aG
  | [], Γ => [Γ]
  | k :: r, Γ => (rfr Γ 5 x (cn k.1)).flatMap (swd x r)
def fsw (ff : Bool) (x : AV) : List (Int × Nat) → aD → aD
  | [], Δ => Δ
  | k :: r, Δ => fsw ff x r (fadd ff Δ 5 x (cn k.1))
theorem psw_cases (z : Int) (d : Nat) : ∀ ks : List (Int × Nat), (∃ k ∈ ks, z = k.1 ∧ psw z ks d = k.2) ∨ ((∀ k ∈ ks, ¬ z = k.1) ∧ psw z ks d = d)
  | [] => Or.inr ⟨fun _ h => absurd h List.not_mem_nil, rfl⟩
  | (a, t) :: r => by
    by_cases h : z = a
    · exact Or.inl ⟨(a, t), List.mem_cons_self, h, by rw [psw, if_pos h]⟩
    · rcases psw_cases z d r with ⟨k, hk, h1, h2⟩ | ⟨h1, h2⟩
      · exact Or.inl ⟨k, List.mem_cons_of_mem _ hk, h1, by rw [psw, if_neg h]; exact h2⟩
      · refine Or.inr ⟨fun k hk => ?_, by rw [psw, if_neg h]; exact h2⟩
        rcases List.mem_cons.mp hk with rfl | hk
        · exact h
        · exact h1 k hk
theorem swd_ok (hx : zG n σ z x) : ∀ (ks : List (Int × Nat)) {Γ : aG}, gok σ Γ → (∀ k ∈ ks, ¬ z = k.1) → ∃ Γ' ∈ swd x ks Γ, gok σ Γ' ∧ Γ'.length = Γ.length
  | [], Γ, hg, _ => ⟨Γ, List.mem_cons_self, hg, rfl⟩
  | k :: r, Γ, hg, hn => by
    obtain ⟨G1, m1, g1, l1⟩ := rfr_ok (n := n) (z' := k.1) 5 hg hx (cnZ k.1) (hn k List.mem_cons_self)
    obtain ⟨G2, m2, g2, l2⟩ := swd_ok hx r g1 (fun k' hk' => hn k' (List.mem_cons_of_mem _ hk'))
    exact ⟨G2, List.mem_flatMap.mpr ⟨G1, m1, m2⟩, g2, l2.trans l1⟩
theorem fsw_ok (ff : Bool) (hx : zG n σ z x) : ∀ (ks : List (Int × Nat)) {Δ : aD}, fok n σ Δ → (∀ k ∈ ks, ¬ z = k.1) → fok n σ (fsw ff x ks Δ)
  | [], _, hf, _ => hf
  | k :: r, _, hf, hn => fsw_ok ff hx r (fadd_ok ff hf (by decide) hx (cnZ k.1) (hn k List.mem_cons_self)) (fun k' hk' => hn k' (List.mem_cons_of_mem _ hk'))
end AOP
