/-! ===== the grammar: what holds ahead of its methods and behind them ===== -/
section GRM
variable {E : pX} {V : pV} {d : Nat} {h h1 h2 h3 h4 h' : List pC} {Post : Option Value → List pC → Prop}
theorem isName_x (key c : Int32) (hk : 0 ≤ key.toInt ∧ key.toInt ≤ 2) (hh : HI HT h) : ∃ r h', Run prog E V (d + 2) mX8_isName [.int key, .int c] h (some (.int r), h', 0, 0) ∧ HI HT h' ∧ Fr [] h h' ∧ (r = 0 ∨ (r = 1 ∧ 100 ≤ c.toInt ∧ c.toInt < 128)) := by
  have hg : gok (fun j => if j = 0 then key.toInt else c.toInt) [.inl (0, 2), .inl (-2147483648, 2147483647)] := fun k e hk' => by
    match k, hk' with
    | 0, hk' => cases hk'; exact hk
    | 1, hk' => cases hk'; exact ⟨i32_lo c, i32_hi c⟩
    | k + 2, hk' => simp at hk'
  have key := fseg_ok (E := E) (V := V) (d := d + 2) (Post := fun r h' => (∃ v : Int32, r = some (.int v) ∧ (v = 0 ∨ (v = 1 ∧ 100 ≤ c.toInt ∧ c.toInt < 128))) ∧ HI HT h' ∧ Fr [] h h') (J := fun _ => True) fs_isN rfl (fun k N c hk => by cases hk) (fun _ _ => trivial) (by omega) hg cok.nil (L := pent 2 [.int key, .int c]) (st := []) (LG.cons (lGi (by decide) (by show key.toInt = 1 * key.toInt + 0; omega)) (LG.cons (lGi (by decide) (by show c.toInt = 1 * c.toInt + 0; omega)) LGn)) trivial hh (fun p hp r h2 hr hp2 hh2 hf2 => ?_) (fun z hz => by cases hz)
  · obtain ⟨r, h', k1, ⟨v, rfl, hv⟩, k3, k4⟩ := key
    exact ⟨v, h', ⟨Nat.le_of_ble_eq_true rfl, ⟨_, _, rfl⟩, k1⟩, k3, k4, hv⟩
  · have one : ∀ (lo : Int), 100 ≤ lo ∧ lo < 128 → p = (some (0, 1, 1, 0), ([], [], [(1, lo, lo)])) → ∃ v : Int32, r = some (.int v) ∧ (v = 0 ∨ (v = 1 ∧ 100 ≤ c.toInt ∧ c.toInt < 128)) := by
      intro lo hlo hp
      subst hp
      cases r with
      | none => exact hr.elim
      | some w =>
        obtain ⟨v, rfl, hz⟩ := (show vG _ _ w (0, 1, 1, 0) from hr).int (Nat.zero_le 1)
        have h3 := hp2.2.2 _ List.mem_cons_self
        have h3 : lo ≤ c.toInt ∧ c.toInt ≤ lo := h3
        unfold zG at hz
        rw [if_pos (by rfl)] at hz
        exact ⟨v, rfl, Or.inr ⟨i32_eq.mpr (by dsimp only at hz; rw [show (1 : Int32).toInt = 1 from rfl]; omega), by omega, by omega⟩⟩
    refine ⟨?_, hh2, hf2⟩
    rcases List.mem_cons.mp hp with hp | hp
    · exact one 116 (by omega) hp
    rcases List.mem_cons.mp hp with hp | hp
    · exact one 115 (by omega) hp
    rcases List.mem_cons.mp hp with hp | hp
    · exact one 108 (by omega) hp
    rcases List.mem_cons.mp hp with hp | hp
    · exact one 110 (by omega) hp
    rcases List.mem_cons.mp hp with hp | hp
    · exact one 102 (by omega) hp
    obtain rfl := List.mem_singleton.mp hp
    cases r with
    | none => exact hr.elim
    | some w =>
      obtain ⟨v, rfl, hz⟩ := (show vG _ _ w (0, 0, 0, 0) from hr).int (Nat.zero_le 1)
      unfold zG at hz
      rw [if_pos (by rfl)] at hz
      exact ⟨v, rfl, Or.inl (i32_eq.mpr (by dsimp only at hz; rw [show (0 : Int32).toInt = 0 from rfl]; omega))⟩
/-! steps, and how many values they leave -/
def hT (f : Nat → Int32) (a : Nat) : Nat → Nat → Nat → Option Nat
  | 0, _, n => some n
  | r + 1, k, n => if f (a + 2 * k) = 2 then (if f (a + 2 * k + 1) = 33 then (if 1 ≤ n then hT f a r (k + 1) n else none) else (if 2 ≤ n then hT f a r (k + 1) (n - 1) else none)) else (if f (a + 2 * k) = 0 ∨ (0 ≤ (f (a + 2 * k + 1)).toInt ∧ (f (a + 2 * k + 1)).toInt < 128) then hT f a r (k + 1) (n + 1) else none)
theorem hT_app {f : Nat → Int32} {a : Nat} : ∀ (r1 r2 k n n1 n2 : Nat), hT f a r1 k n = some n1 → hT f a r2 (k + r1) n1 = some n2 → hT f a (r1 + r2) k n = some n2
  | 0, r2, k, n, n1, n2, h1, h2 => by
    cases h1
    rw [Nat.zero_add]
    exact h2
  | r1 + 1, r2, k, n, n1, n2, h1, h2 => by
    rw [show r1 + 1 + r2 = (r1 + r2) + 1 by omega]
    rw [hT] at h1 ⊢
    rw [show k + (r1 + 1) = k + 1 + r1 by omega] at h2
    split at h1
    · rename_i c1
      rw [if_pos c1]
      split at h1
      · rename_i c2
        rw [if_pos c2]
        split at h1
        · rename_i c3
          rw [if_pos c3]
          exact hT_app r1 r2 (k + 1) n n1 n2 h1 h2
        · cases h1
      · rename_i c2
        rw [if_neg c2]
        split at h1
        · rename_i c3
          rw [if_pos c3]
          exact hT_app r1 r2 (k + 1) (n - 1) n1 n2 h1 h2
        · cases h1
    · rename_i c1
      rw [if_neg c1]
      split at h1
      · rename_i c2
        rw [if_pos c2]
        exact hT_app r1 r2 (k + 1) (n + 1) n1 n2 h1 h2
      · cases h1
theorem hT_eq {f g : Nat → Int32} {a : Nat} : ∀ (r k n : Nat), (∀ j, a + 2 * k ≤ j → j < a + 2 * (k + r) → g j = f j) → hT g a r k n = hT f a r k n
  | 0, _, _, _ => rfl
  | r + 1, k, n, he => by
    have e1 := he (a + 2 * k) (by omega) (by omega)
    have e2 := he (a + 2 * k + 1) (by omega) (by omega)
    have ih : ∀ n, hT g a r (k + 1) n = hT f a r (k + 1) n := fun n => hT_eq r (k + 1) n (fun j h1 h2 => he j (by omega) (by omega))
    rw [hT, hT, e1, e2, ih, ih, ih]
theorem hT_wf {f : Nat → Int32} {b : Nat} : ∀ (r k n n' : Nat), hT f (b + 4) r k n = some n' → wfT f b r k n
  | 0, _, _, _, _ => trivial
  | r + 1, k, n, n', h1 => by
    rw [hT] at h1
    rw [wfT]
    rw [show b + 4 + 2 * k + 1 = b + 5 + 2 * k by omega] at h1
    split at h1
    · rename_i c1
      rw [if_pos c1]
      split at h1
      · rename_i c2
        rw [if_pos c2]
        split at h1
        · rename_i c3
          exact ⟨c3, hT_wf r (k + 1) n n' h1⟩
        · cases h1
      · rename_i c2
        rw [if_neg c2]
        split at h1
        · rename_i c3
          exact ⟨c3, hT_wf r (k + 1) (n - 1) n' h1⟩
        · cases h1
    · rename_i c1
      rw [if_neg c1]
      split at h1
      · rename_i c2
        exact ⟨c2, hT_wf r (k + 1) (n + 1) n' h1⟩
      · cases h1
/-! ahead and behind -/
def PIn (h : List pC) : Prop := HI HT h ∧ fi h 16 ≤ fi h 17 ∧ fi h 17 ≤ fi h 15 ∧ (fi h 18 ≠ 0 → fi h 16 < fi h 17) ∧ fi h 23 ≤ fi h 16 ∧ 79 ≤ fi h 24
/-- the reader's places, and the row behind what is laid, alone are written -/
def FrP (h h' : List pC) : Prop := ∀ a i : Nat, ¬ (a = 110 ∧ 16 ≤ i ∧ i ≤ 23) → ¬ (a = 110 ∧ i = 25) → ¬ (a = 111 ∧ fi h 24 + 2 * fi h 23 ≤ (i : Int) ∧ (i : Int) < fi h 24 + 196) → ct h' a i = ct h a i
def OKP (h h' : List pC) : Prop := PIn h' ∧ fi h' 21 = fi h 21 ∧ fi h' 22 = fi h 22 ∧ fi h 16 ≤ fi h' 16 ∧ fi h 23 ≤ fi h' 23 ∧ fi h' 23 - fi h 23 ≤ fi h' 16 - fi h 16 ∧ ∀ n, hT (ri h' 111) (fi h 24).toNat (fi h' 23 - fi h 23).toNat (fi h 23).toNat n = some (n + 1)
theorem FrP.rf (h : List pC) : FrP h h := fun _ _ _ _ _ => rfl
theorem FrP.k (hf : FrP h h') {i : Nat} (h1 : ¬ (16 ≤ i ∧ i ≤ 23)) (h2 : i ≠ 25) : fi h' i = fi h i := by
  unfold fi
  rw [ri_ct (hf 110 i (fun q => h1 q.2) (fun q => h2 q.2) (fun q => by omega))]
theorem FrP.tr (h12 : FrP h1 h2) (h23 : FrP h2 h3) (hl : fi h1 23 ≤ fi h2 23) : FrP h1 h3 := fun a i n1 n2 n3 => by
  have e24 := h12.k (i := 24) (by omega) (by omega)
  rw [h23 a i n1 n2 (fun q => n3 ⟨q.1, by omega, by omega⟩)]
  exact h12 a i n1 n2 n3
theorem FrP.nt (hf : Fr WNt h h') : FrP h h' := fun a i n1 n2 n3 => hf a i (nin_iff.mpr (by
  simp only [WNt, List.forall_mem_cons]
  exact ⟨by omega, fun _ h => absurd h List.not_mem_nil⟩))
theorem FrP.no (hf : Fr [] h h') : FrP h h' := fun a i _ _ _ => hf a i rfl
theorem fi_fr {W : aW} (hf : Fr W h h') {i : Nat} (hi : inW W 110 i = false) : fi h' i = fi h i := by
  unfold fi
  rw [ri_fr hf hi]
/-- behind nextToken, where the token before was one -/
theorem nt_in (hp : PIn h) (hn : PNt h (fi h 17) none h') : PIn h' ∧ FrP h h' ∧ fi h' 21 = fi h 21 ∧ fi h' 22 = fi h 22 ∧ fi h' 23 = fi h 23 ∧ fi h 16 ≤ fi h' 16 ∧ (fi h 18 ≠ 0 → fi h 16 + 1 ≤ fi h' 16) ∧ (∀ i, ri h' 111 i = ri h 111 i) := by
  obtain ⟨-, n1, n2, n3, n4, n5, n6⟩ := hn
  obtain ⟨p1, p2, p3, p4, p5⟩ := hp
  have e21 := fi_fr n2 (i := 21) rfl
  have e22 := fi_fr n2 (i := 22) rfl
  have e23 := fi_fr n2 (i := 23) rfl
  have e24 := fi_fr n2 (i := 24) rfl
  refine ⟨⟨n1, n4, n5, n6, by omega⟩, FrP.nt n2, e21, e22, e23, by omega, fun h18 => by have := p4 h18; omega, fun i => ri_fr n2 (nin_iff.mpr (by
    simp only [WNt, List.forall_mem_cons]
    exact ⟨by omega, fun _ h => absurd h List.not_mem_nil⟩))⟩
def STp (what v : Int32) (h h' : List pC) : Prop := HI HT h' ∧ (∀ a i, ¬ (a = 110 ∧ i = 23) → ¬ (a = 111 ∧ (i = (fi h 24 + 2 * fi h 23).toNat ∨ i = (fi h 24 + 2 * fi h 23).toNat + 1)) → ct h' a i = ct h a i) ∧ ri h' 111 (fi h 24 + 2 * fi h 23).toNat = what ∧ ri h' 111 ((fi h 24 + 2 * fi h 23).toNat + 1) = v ∧ fi h' 23 = fi h 23 + 1
theorem st_fr {what v : Int32} (hp : HI HT h) (hl : fi h 23 ≤ 97) (hs : STp what v h h') : FrP h h' ∧ ∀ i, i ≠ 23 → fi h' i = fi h i := by
  obtain ⟨s1, s2, -, -, -⟩ := hs
  have r23 := (m_fld hp (i := 23) (lo := 0) (hi := 98) rfl).2
  have r24 := (m_fld hp (i := 24) (lo := 0) (hi := 2875) rfl).2
  refine ⟨fun a i n1 n2 n3 => s2 a i (fun q => n1 ⟨q.1, by omega, by omega⟩) (fun q => n3 ⟨q.1, by omega, by omega⟩), fun i hi => ?_⟩
  unfold fi
  rw [ri_ct (s2 110 i (fun q => hi q.2) (fun q => by omega))]
/-- a sign is laid behind two values: it makes one of them -/
theorem ok_two {c : Int32} (hp : PIn h) (ok1 : OKP h h1) (f1 : FrP h h1) (h18 : fi h1 18 ≠ 0) (hn : PNt h1 (fi h1 17) none h2) (ok3 : OKP h2 h3) (f3 : FrP h2 h3) (hs : STp 2 c h3 h4) (hc : ¬ c = 33) : OKP h h4 ∧ FrP h h4 ∧ fi h1 16 + 1 ≤ fi h4 16 := by
  obtain ⟨i1, q21, q22, q16, q23, qd, qT⟩ := ok1
  obtain ⟨i2, f2, n21, n22, n23, n16, n18, nri⟩ := nt_in i1 hn
  obtain ⟨i3, t21, t22, t16, t23, td, tT⟩ := ok3
  have n18 := n18 h18
  have r23 := (m_fld hp.1 (i := 23) (lo := 0) (hi := 98) rfl).2
  have r24 := (m_fld hp.1 (i := 24) (lo := 0) (hi := 2875) rfl).2
  have b3 := (m_fld i3.1 (i := 16) (lo := 0) (hi := 96) rfl).2
  have hl3 : fi h3 23 ≤ 97 := by have := i3.2.2.2.2; omega
  obtain ⟨f4, s4⟩ := st_fr i3.1 hl3 hs
  have e1 := f1.k (i := 24) (by omega) (by omega)
  have e2 := f2.k (i := 24) (by omega) (by omega)
  have e3 := f3.k (i := 24) (by omega) (by omega)
  obtain ⟨s1, s2, sw, sv, sl⟩ := hs
  have i4 : PIn h4 := by
    obtain ⟨-, z2, z3, z4, z5⟩ := i3
    refine ⟨s1, ?_, ?_, ?_, ?_⟩
    · rw [s4 16 (by omega), s4 17 (by omega)]; exact z2
    · rw [s4 17 (by omega), s4 15 (by omega)]; exact z3
    · rw [s4 18 (by omega), s4 16 (by omega), s4 17 (by omega)]; exact z4
    · have z1 := i1.2.2.2.2
      rw [s4 16 (by omega), sl, s4 24 (by omega)]
      omega
  have fr : FrP h h4 := ((f1.tr f2 q23).tr f3 (by omega)).tr f4 (by omega)
  refine ⟨⟨i4, by rw [s4 21 (by omega)]; omega, by rw [s4 22 (by omega)]; omega, by rw [s4 16 (by omega)]; omega, by omega, by rw [s4 16 (by omega)]; omega, fun n => ?_⟩, fr, by rw [s4 16 (by omega)]; omega⟩
  have p1 : hT (ri h4 111) (fi h 24).toNat (fi h1 23 - fi h 23).toNat (fi h 23).toNat n = some (n + 1) := by
    rw [hT_eq (f := ri h1 111) _ _ _ (fun j j1 j2 => ?_)]
    · exact qT n
    · rw [ri_ct (s2 111 j (by omega) (by omega)), ri_ct (f3 111 j (by omega) (by omega) (by omega)), nri]
  have p2 : hT (ri h4 111) (fi h 24).toNat (fi h3 23 - fi h1 23).toNat (fi h1 23).toNat (n + 1) = some (n + 2) := by
    rw [hT_eq (f := ri h3 111) _ _ _ (fun j j1 j2 => ri_ct (s2 111 j (by omega) (by omega)))]
    have := tT (n + 1)
    rw [n23, e2, e1] at this
    exact this
  have p3 : hT (ri h4 111) (fi h 24).toNat 1 (fi h3 23).toNat (n + 2) = some (n + 1) := by
    have ei : (fi h 24).toNat + 2 * (fi h3 23).toNat = (fi h3 24 + 2 * fi h3 23).toNat := by omega
    rw [hT, ei, sw, sv, if_pos rfl, if_neg hc, if_pos (by omega)]
    rfl
  have a1 := hT_app _ _ _ _ _ _ p1 (by rw [show (fi h 23).toNat + (fi h1 23 - fi h 23).toNat = (fi h1 23).toNat by omega]; exact p2)
  have a2 := hT_app _ _ _ _ _ _ a1 (by rw [show (fi h 23).toNat + ((fi h1 23 - fi h 23).toNat + (fi h3 23 - fi h1 23).toNat) = (fi h3 23).toNat by omega]; exact p3)
  rw [show (fi h4 23 - fi h 23).toNat = (fi h1 23 - fi h 23).toNat + (fi h3 23 - fi h1 23).toNat + 1 by omega]
  exact a2
/-- the contract of a method of the grammar, where so much of the tape is left -/
def GC (E : pX) (V : pV) (M : pM) (k : Int) (m : Nat) : Prop := ∀ (d : Nat) (h : List pC) (key : Int32), 0 ≤ key.toInt ∧ key.toInt ≤ 2 → PIn h → (97 - fi h 16).toNat ≤ m → 12 + 6 * (8 - fi h 21) + (8 - fi h 22) + k ≤ (d : Int) → ∃ (r : Int32) (h' : List pC), Run prog E V d M [.ref 110, .int key] h (some (.int r), h', 0, 0) ∧ HI HT h' ∧ FrP h h' ∧ (r = 0 ∨ (r = 1 ∧ OKP h h'))
end GRM
