/-! ===== what is kept beside the types: the reference's texts are in order ===== -/
/-- the int at i of the cell a -/
def ri (h : List pC) (a i : Nat) : Int32 := match ct h a i with
  | some (.int v) => v
  | _ => 0
/-- r more steps from the k-th on, with n values on the pile -/
def wfT (f : Nat → Int32) (b : Nat) : Nat → Nat → Nat → Prop
  | 0, _, _ => True
  | r + 1, k, n => if f (b + 4 + 2 * k) = 2 then (if f (b + 5 + 2 * k) = 33 then 1 ≤ n ∧ wfT f b r (k + 1) n else 2 ≤ n ∧ wfT f b r (k + 1) (n - 1)) else (f (b + 4 + 2 * k) = 0 ∨ (0 ≤ (f (b + 5 + 2 * k)).toInt ∧ (f (b + 5 + 2 * k)).toInt < 128)) ∧ wfT f b r (k + 1) (n + 1)
def TI (f : Nat → Int32) : Prop := ∀ t : Nat, t < 14 → (t : Int) < (f 1).toInt → ∃ m : Nat, m ≤ 98 ∧ f (77 + 200 * t) = nI m ∧ wfT f (75 + 200 * t) m 0 0
def JT (h : List pC) : Prop := TI (ri h 111) ∧ TI (ri h 112)
theorem wfT_eq {f g : Nat → Int32} {b : Nat} : ∀ (r k n : Nat), (∀ j, b + 4 ≤ j → j < b + 4 + 2 * (k + r) → g j = f j) → wfT f b r k n → wfT g b r k n
  | 0, _, _, _, _ => trivial
  | r + 1, k, n, he, hw => by
    have e1 := he (b + 4 + 2 * k) (by omega) (by omega)
    have e2 := he (b + 5 + 2 * k) (by omega) (by omega)
    rw [wfT] at hw ⊢
    rw [e1, e2]
    split
    · rename_i h2
      rw [if_pos h2] at hw
      split
      · rename_i h3
        rw [if_pos h3] at hw
        exact ⟨hw.1, wfT_eq r (k + 1) n (fun j h1 h2 => he j h1 (by omega)) hw.2⟩
      · rename_i h3
        rw [if_neg h3] at hw
        exact ⟨hw.1, wfT_eq r (k + 1) (n - 1) (fun j h1 h2 => he j h1 (by omega)) hw.2⟩
    · rename_i h2
      rw [if_neg h2] at hw
      exact ⟨hw.1, wfT_eq r (k + 1) (n + 1) (fun j h1 h2 => he j h1 (by omega)) hw.2⟩
theorem TI_eq {f g : Nat → Int32} (h1 : g 1 = f 1) (h2 : ∀ j, 75 ≤ j → j < 2875 → g j = f j) (ht : TI f) : TI g := fun t ht1 ht2 => by
  rw [h1] at ht2
  obtain ⟨m, m1, m2, m3⟩ := ht t ht1 ht2
  exact ⟨m, m1, by rw [h2 _ (by omega) (by omega)]; exact m2, wfT_eq m 0 0 (fun j j1 j2 => h2 j (by omega) (by omega)) m3⟩
theorem ri_fr {W : aW} {h h' : List pC} {a i : Nat} (hf : Fr W h h') (hi : inW W a i = false) : ri h' a i = ri h a i := by
  unfold ri
  rw [hf a i hi]
theorem jf_out {W : aW} (hj : jf W = true) {a i : Nat} (ha : a = 111 ∨ a = 112) (hi : i = 1 ∨ 75 ≤ i) : inW W a i = false := by
  cases hq : inW W a i with
  | false => rfl
  | true =>
    exfalso
    obtain ⟨b, hb, hb2⟩ := List.any_eq_true.mp hq
    have h1 := List.all_eq_true.mp hj b hb
    simp only [Bool.or_eq_true, Bool.and_eq_true, decide_eq_true_eq] at h1 hb2
    omega
theorem JT_P : JP JT := fun W h h' hj hf hJ => ⟨TI_eq (ri_fr hf (jf_out hj (Or.inl rfl) (Or.inl rfl))) (fun j h75 _ => ri_fr hf (jf_out hj (Or.inl rfl) (Or.inr h75))) hJ.1, TI_eq (ri_fr hf (jf_out hj (Or.inr rfl) (Or.inl rfl))) (fun j h75 _ => ri_fr hf (jf_out hj (Or.inr rfl) (Or.inr h75))) hJ.2⟩
/-! the cells behind their types -/
theorem hi_int {h : List pC} (hh : HI HT h) {a n : Nat} {sg : List (Nat × Nat × Int × Int)} (ht : HT[a]? = some (.inl (n, sg))) : ∃ f : Nat → Int32, pint h a = some (n, f) ∧ (∀ i, i < n → ri h a i = f i) ∧ ∀ s ∈ sg, ∀ i : Nat, s.1 ≤ i → i ≤ s.2.1 → i < n → s.2.2.1 ≤ (f i).toInt ∧ (f i).toInt ≤ s.2.2.2 := by
  obtain ⟨c, hc, hy⟩ := hh.2 a _ ht
  rcases c with x | x | x
  · obtain ⟨q1, q2⟩ : x.1 = n ∧ _ := hy
    obtain ⟨m, f⟩ := x
    obtain rfl : m = n := q1
    refine ⟨f, by unfold pint; rw [hc], fun i hi => ?_, q2⟩
    unfold ri ct
    rw [hc]
    dsimp only
    rw [if_pos hi]
  · exact hy.elim
  · exact hy.elim
theorem hi_obj {h : List pC} (hh : HI HT h) {a c : Nat} {xs : List AV} (ht : HT[a]? = some (.inr (.inr (c, xs)))) : ∃ fs : List Value, pobj h a = some (c, fs) ∧ FG fs xs := by
  obtain ⟨k, hc, hy⟩ := hh.2 a _ ht
  rcases k with x | x | x
  · exact hy.elim
  · exact hy.elim
  · obtain ⟨q1, q2⟩ : x.1 = c ∧ _ := hy
    obtain ⟨m, fs⟩ := x
    obtain rfl : m = c := q1
    exact ⟨fs, by unfold pobj; rw [hc], q2⟩
theorem FG.ref {fs : List Value} {xs : List AV} {k a : Nat} (hf : FG fs xs) (hk : xs[k]? = some (5, 0, 0, a)) : fs[k]? = some (.ref a) := by
  obtain ⟨w, hw, hv⟩ := FG.at hf hk
  obtain ⟨b, rfl, hb | hb⟩ := hv.ref (Or.inl rfl)
  · rw [hw, hb.2]
  · exact absurd hb.1 (show ¬ (5 : Nat) = 6 by decide)
/-- a whole int array becomes another one -/
theorem setI_ok {h : List pC} {a n : Nat} {f g : Nat → Int32} {sg : List (Nat × Nat × Int × Int)} (hh : HI HT h) (ht : HT[a]? = some (.inl (n, sg))) (hp : pint h a = some (n, f)) (hg : ∀ s ∈ sg, ∀ i : Nat, s.1 ≤ i → i ≤ s.2.1 → i < n → s.2.2.1 ≤ (g i).toInt ∧ (g i).toInt ≤ s.2.2.2) :
    HI HT (h.set a (.inl (n, g))) ∧ (∀ i, i < n → ri (h.set a (.inl (n, g))) a i = g i) ∧ (∀ b j, b ≠ a → ct (h.set a (.inl (n, g))) b j = ct h b j) ∧ (∀ j, ¬ j < n ∨ g j = f j → ct (h.set a (.inl (n, g))) a j = ct h a j) := by
  have hl := pint_lt hp
  have hc := pint_at hp
  refine ⟨⟨by rw [List.length_set]; exact hh.1, fun b t hb => ?_⟩, fun i hi => ?_, fun b j hb => ?_, fun j hj => ?_⟩
  · by_cases e : b = a
    · subst e
      rw [ht] at hb
      cases hb
      exact ⟨_, List.getElem?_set_self hl, rfl, hg⟩
    · obtain ⟨c, k1, k2⟩ := hh.2 b t hb
      exact ⟨c, by rw [List.getElem?_set_ne (Ne.symm e)]; exact k1, k2⟩
  · unfold ri ct
    rw [List.getElem?_set_self hl]
    dsimp only
    rw [if_pos hi]
  · unfold ct
    rw [List.getElem?_set_ne (Ne.symm hb)]
  · unfold ct
    rw [List.getElem?_set_self hl, hc]
    dsimp only
    rcases hj with hj | hj
    · rw [if_neg hj, if_neg hj]
    · rw [hj]
/-! how many bits a set has: it ends -/
theorem and_pred_lt (v : Int32) (h : ¬ v = 0) : (v &&& (v - 1)).toBitVec.toNat < v.toBitVec.toNat := by
  have h0 : v.toBitVec.toNat ≠ 0 := fun e => h (Int32.toBitVec_inj.mp (BitVec.eq_of_toNat_eq (by rw [e]; rfl)))
  have e1 : (v &&& (v - 1)).toBitVec = v.toBitVec &&& (v.toBitVec - 1#32) := rfl
  rw [e1, BitVec.toNat_and]
  have e2 : (v.toBitVec - 1#32).toNat = v.toBitVec.toNat - 1 := by
    rw [BitVec.toNat_sub]
    have := v.toBitVec.isLt
    rw [show (1#32).toNat = 1 from rfl]
    omega
  rw [e2]
  have := Nat.and_le_right (n := v.toBitVec.toNat) (m := v.toBitVec.toNat - 1)
  omega
theorem manyIn_l {E : pX} {V : pV} {d : Nat} {h : List pC} (v0 : Int32) : ∀ (m : Nat) (v n : Int32), v.toBitVec.toNat ≤ m → ∃ r : Int32, RA prog E V (d + 1) mX8_manyIn 4 [some (.int v0), some (.int n), some (.int v)] [] h (some (.int r), h, 0, 0) := by
  intro m
  induction m with
  | zero =>
    intro v n hv
    have hz : v = 0 := Int32.toBitVec_inj.mp (BitVec.eq_of_toNat_eq (by rw [Nat.le_zero.mp hv]; rfl))
    subst hz
    refine ⟨n, ?_⟩
    refine RA.steps 1 rfl ?_
    refine RA.if1T rfl rfl ?_
    refine RA.steps 1 rfl ?_
    exact RA.ret rfl rfl
  | succ m ih =>
    intro v n hv
    by_cases hz : v = 0
    · subst hz
      refine ⟨n, ?_⟩
      refine RA.steps 1 rfl ?_
      refine RA.if1T rfl rfl ?_
      refine RA.steps 1 rfl ?_
      exact RA.ret rfl rfl
    · obtain ⟨r, hr⟩ := ih (v &&& (v - 1)) (n + 1) (by have := and_pred_lt v hz; omega)
      refine ⟨r, ?_⟩
      refine RA.steps 1 rfl ?_
      refine RA.if1F rfl (decide_eq_false hz) ?_
      refine RA.iinc rfl rfl rfl rfl ?_
      refine RA.steps (i' := 13) (L' := [some (.int v0), some (.int (n + Int32.ofInt 1)), some (.int (v &&& (v - 1)))]) (st' := []) (h' := h) 6 rfl ?_
      refine RA.steps 1 rfl ?_
      exact hr
theorem manyIn_x {E : pX} {V : pV} {d : Nat} {h : List pC} (v : Int32) : ∃ r : Int32, Run prog E V (d + 1) mX8_manyIn [.int v] h (some (.int r), h, 0, 0) := by
  obtain ⟨r, hr⟩ := manyIn_l (E := E) (V := V) (d := d) (h := h) v v.toBitVec.toNat v 0 (Nat.le_refl _)
  refine ⟨r, Nat.le_of_ble_eq_true rfl, ⟨_, _, rfl⟩, ?_⟩
  exact RA.steps 4 rfl hr
theorem hd_manyIn {E : pX} {V : pV} {J : List pC → Prop} : KGi E V J 147 k_m_manyIn := by
  intro N hN d hd as h ha hh hj
  cases (show some mX8_manyIn = some N from hN)
  obtain ⟨d, rfl⟩ : ∃ d', d = d' + 1 := ⟨d - 1, by have hd : 8 ≤ d := hd; omega⟩
  match as, ha with
  | [w], ha =>
    obtain ⟨v, rfl, -⟩ := ha.1
    obtain ⟨r, hr⟩ := manyIn_x (E := E) (V := V) (d := d) (h := h) v
    exact ⟨_, h, Or.inl hr, ⟨r, rfl, i32_lo _, i32_hi _⟩, hh, Fr.rf _ _, hj⟩
