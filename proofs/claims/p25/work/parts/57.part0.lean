/-! ===== part0, and the grammar as a whole ===== -/
section PRT
variable {E : pX} {V : pV} {h h1 h2 h3 h4 : List pC}
/-- a field of the reference becomes v -/
theorem fld_put {fs : List Value} {i : Nat} {lo hi : Int} {v : Int32} (hh : HI HT h) (ho : pobj h 110 = some (8, fs)) (hx : MX[i]? = some (0, lo, hi, 0)) (hv : lo ≤ v.toInt ∧ v.toInt ≤ hi) : HI HT (h.set 110 (.inr (.inr (8, fs.set i (.int v))))) ∧ (∀ a j, ¬ (a = 110 ∧ j = i) → ct (h.set 110 (.inr (.inr (8, fs.set i (.int v))))) a j = ct h a j) ∧ fi (h.set 110 (.inr (.inr (8, fs.set i (.int v))))) i = v.toInt := by
  have w : wrC h 110 i v = h.set 110 (.inr (.inr (8, fs.set i (.int v)))) := by
    unfold wrC
    rw [pobj_at ho]
  rw [← w]
  obtain ⟨k1, k2, -⟩ := wrC_self (a := 110) (i := i) (v := v) (k := 10) (lo := (i : Int)) (hi := (i : Int)) (p := (v.toInt, v.toInt)) hh (by
    unfold fitsT
    rw [HTm]
    dsimp only
    simp only [Bool.and_eq_true, decide_eq_true_eq]
    refine ⟨⟨⟨trivial, by omega⟩, trivial⟩, ?_⟩
    rw [Int.toNat_natCast, hx]
    dsimp only
    simp only [Bool.and_eq_true, decide_eq_true_eq]
    exact ⟨⟨trivial, hv.1⟩, hv.2⟩) (Int.le_refl _) (Int.le_refl _) ⟨Int.le_refl _, Int.le_refl _⟩
  refine ⟨k1, fun a j n => wrC_ct n, ?_⟩
  unfold fi ri
  rw [k2]
def oneF (i : Nat) (h h' : List pC) : Prop := ∀ a j, ¬ (a = 110 ∧ j = i) → ct h' a j = ct h a j
theorem oneF.k {i j : Nat} (hf : oneF i h h1) (hj : j ≠ i) : fi h1 j = fi h j := by
  unfold fi
  rw [ri_ct (hf 110 j (fun q => hj q.2))]
theorem oneF.s {i : Nat} (hf : oneF i h h1) (j : Nat) : ri h1 111 j = ri h 111 j := ri_ct (hf 111 j (fun q => by omega))
theorem oneF.p {i : Nat} (hi : (16 ≤ i ∧ i ≤ 23) ∨ i = 25) (hf : oneF i h h1) : FrP h h1 := fun a j n1 n2 _ => hf a j (fun q => by
  rcases hi with hi | hi
  · exact n1 ⟨q.1, by omega, by omega⟩
  · exact n2 ⟨q.1, by omega⟩)
theorem i32_1 {v : Int32} (h1 : -2147483648 ≤ v.toInt) (h2 : v.toInt ≤ 2147483646) : (v + 1).toInt = v.toInt + 1 := by
  rw [Int32.toInt_add, show (1 : Int32).toInt = 1 from rfl]
  exact bm32 (by unfold mI; omega) (by unfold MI; omega)
theorem i32_m1 {v : Int32} (h1 : -2147483647 ≤ v.toInt) (h2 : v.toInt ≤ 2147483647) : (v - 1).toInt = v.toInt - 1 := by
  rw [Int32.toInt_sub, show (1 : Int32).toInt = 1 from rfl]
  exact bm32 (by unfold mI; omega) (by unfold MI; omega)
/-- one step that leaves a value: a number or a name -/
theorem ok_one {what v : Int32} (hp : PIn h) (h18 : fi h 18 ≠ 0) (hs : STp what v h h1) (hw : ¬ what = 2 ∧ (what = 0 ∨ (0 ≤ v.toInt ∧ v.toInt < 128))) (h25 : HI HT h2) (f25 : oneF 25 h1 h2) (hn : PNt h2 (fi h2 17) none h3) : OKP h h3 ∧ FrP h h3 := by
  have r23 := (m_fld hp.1 (i := 23) (lo := 0) (hi := 98) rfl).2
  have r24 := (m_fld hp.1 (i := 24) (lo := 0) (hi := 2875) rfl).2
  have r17 := (m_fld hp.1 (i := 17) (lo := 0) (hi := 96) rfl).2
  obtain ⟨z1, z2, z3, z4, z5⟩ := hp
  have z4 := z4 h18
  have hl : fi h 23 ≤ 97 := by omega
  obtain ⟨g1, s4⟩ := st_fr z1 hl hs
  obtain ⟨s1, s2, sw, sv, sl⟩ := hs
  have r15 := (m_fld z1 (i := 15) (lo := 0) (hi := 96) rfl).2
  obtain ⟨-, n1, n2, n3, n4, n5, n6⟩ := hn
  have e17 : fi h2 17 = fi h 17 := by rw [f25.k (by omega), s4 17 (by omega)]
  have e16 : fi h2 16 = fi h 16 := by rw [f25.k (by omega), s4 16 (by omega)]
  have e23 : fi h2 23 = fi h 23 + 1 := by rw [f25.k (by omega), sl]
  have e24 : fi h2 24 = fi h 24 := by rw [f25.k (by omega), s4 24 (by omega)]
  have m21 := fi_fr n2 (i := 21) rfl
  have m22 := fi_fr n2 (i := 22) rfl
  have m23 := fi_fr n2 (i := 23) rfl
  have m24 := fi_fr n2 (i := 24) rfl
  have m21' : fi h2 21 = fi h 21 := by rw [f25.k (by omega), s4 21 (by omega)]
  have m22' : fi h2 22 = fi h 22 := by rw [f25.k (by omega), s4 22 (by omega)]
  have fr : FrP h h3 := (g1.tr (oneF.p (Or.inr rfl) f25) (by omega)).tr (FrP.nt n2) (by omega)
  refine ⟨⟨⟨n1, n4, n5, n6, by omega⟩, by omega, by omega, by omega, by omega, by omega, fun n => ?_⟩, fr⟩
  have ei : (fi h 24).toNat + 2 * (fi h 23).toNat = (fi h 24 + 2 * fi h 23).toNat := by omega
  have er : ∀ i, ri h3 111 i = ri h1 111 i := fun i => by
    rw [ri_fr n2 (nin_iff.mpr (by
      simp only [WNt, List.forall_mem_cons]
      exact ⟨by omega, fun _ h => absurd h List.not_mem_nil⟩)), f25.s]
  rw [show (fi h3 23 - fi h 23).toNat = 1 by omega, hT, er, er, ei, sw, sv, if_neg hw.1, if_pos hw.2]
  rfl
theorem isName_e {d : Nat} (key c : Int32) (hk : 0 ≤ key.toInt ∧ key.toInt ≤ 2) : ∃ r : Int32, (r = 0 ∨ (r = 1 ∧ 100 ≤ c.toInt ∧ c.toInt < 128)) ∧ Run prog E V (d + 1) mX8_isName [.int key, .int c] h (some (.int r), h, 0, 0) := by
  have st : ∀ r : Int32, RA prog E V (d + 1) mX8_isName 0 [some (.int key), some (.int c)] [] h (some (.int r), h, 0, 0) → Run prog E V (d + 1) mX8_isName [.int key, .int c] h (some (.int r), h, 0, 0) := fun r k => ⟨Nat.le_of_ble_eq_true rfl, ⟨_, _, rfl⟩, k⟩
  have h3 : key.toInt = 0 ∨ key.toInt = 1 ∨ key.toInt = 2 := by omega
  rcases h3 with hk' | hk' | hk'
  · obtain rfl : key = 0 := i32_eq.mpr hk'
    by_cases e0 : c = 116
    · refine ⟨1, Or.inr ⟨rfl, by rw [e0]; decide, by rw [e0]; decide⟩, st _ ?_⟩
      refine RA.steps 2 rfl ?_
      refine RA.steps 2 rfl ?_
      refine RA.if2T rfl (decide_eq_true e0) ?_
      refine RA.steps 2 rfl ?_
      exact RA.ret rfl rfl
    by_cases e1 : c = 115
    · refine ⟨1, Or.inr ⟨rfl, by rw [e1]; decide, by rw [e1]; decide⟩, st _ ?_⟩
      refine RA.steps 2 rfl ?_
      refine RA.steps 2 rfl ?_
      refine RA.if2F rfl (decide_eq_false e0) ?_
      refine RA.steps 2 rfl ?_
      refine RA.if2T rfl (decide_eq_true e1) ?_
      refine RA.steps 2 rfl ?_
      exact RA.ret rfl rfl
    by_cases e2 : c = 108
    · refine ⟨1, Or.inr ⟨rfl, by rw [e2]; decide, by rw [e2]; decide⟩, st _ ?_⟩
      refine RA.steps 2 rfl ?_
      refine RA.steps 2 rfl ?_
      refine RA.if2F rfl (decide_eq_false e0) ?_
      refine RA.steps 2 rfl ?_
      refine RA.if2F rfl (decide_eq_false e1) ?_
      refine RA.steps 2 rfl ?_
      refine RA.if2F rfl (decide_eq_false (Decidable.not_not.mpr e2)) ?_
      refine RA.steps 2 rfl ?_
      exact RA.ret rfl rfl
    refine ⟨0, Or.inl rfl, st _ ?_⟩
    refine RA.steps 2 rfl ?_
    refine RA.steps 2 rfl ?_
    refine RA.if2F rfl (decide_eq_false e0) ?_
    refine RA.steps 2 rfl ?_
    refine RA.if2F rfl (decide_eq_false e1) ?_
    refine RA.steps 2 rfl ?_
    refine RA.if2T rfl (decide_eq_true e2) ?_
    refine RA.steps 1 rfl ?_
    exact RA.ret rfl rfl
  · obtain rfl : key = 1 := i32_eq.mpr hk'
    by_cases e0 : c = 110
    · refine ⟨1, Or.inr ⟨rfl, by rw [e0]; decide, by rw [e0]; decide⟩, st _ ?_⟩
      refine RA.steps 2 rfl ?_
      refine RA.steps 2 rfl ?_
      refine RA.if2T rfl (decide_eq_true e0) ?_
      refine RA.steps 2 rfl ?_
      exact RA.ret rfl rfl
    by_cases e1 : c = 102
    · refine ⟨1, Or.inr ⟨rfl, by rw [e1]; decide, by rw [e1]; decide⟩, st _ ?_⟩
      refine RA.steps 2 rfl ?_
      refine RA.steps 2 rfl ?_
      refine RA.if2F rfl (decide_eq_false e0) ?_
      refine RA.steps 2 rfl ?_
      refine RA.if2F rfl (decide_eq_false (Decidable.not_not.mpr e1)) ?_
      refine RA.steps 2 rfl ?_
      exact RA.ret rfl rfl
    refine ⟨0, Or.inl rfl, st _ ?_⟩
    refine RA.steps 2 rfl ?_
    refine RA.steps 2 rfl ?_
    refine RA.if2F rfl (decide_eq_false e0) ?_
    refine RA.steps 2 rfl ?_
    refine RA.if2T rfl (decide_eq_true e1) ?_
    refine RA.steps 1 rfl ?_
    exact RA.ret rfl rfl
  · obtain rfl : key = 2 := i32_eq.mpr hk'
    by_cases e0 : c = 116
    · refine ⟨1, Or.inr ⟨rfl, by rw [e0]; decide, by rw [e0]; decide⟩, st _ ?_⟩
      refine RA.steps 2 rfl ?_
      refine RA.steps 2 rfl ?_
      refine RA.if2T rfl (decide_eq_true e0) ?_
      refine RA.steps 2 rfl ?_
      exact RA.ret rfl rfl
    by_cases e1 : c = 115
    · refine ⟨1, Or.inr ⟨rfl, by rw [e1]; decide, by rw [e1]; decide⟩, st _ ?_⟩
      refine RA.steps 2 rfl ?_
      refine RA.steps 2 rfl ?_
      refine RA.if2F rfl (decide_eq_false e0) ?_
      refine RA.steps 2 rfl ?_
      refine RA.if2F rfl (decide_eq_false (Decidable.not_not.mpr e1)) ?_
      refine RA.steps 2 rfl ?_
      exact RA.ret rfl rfl
    refine ⟨0, Or.inl rfl, st _ ?_⟩
    refine RA.steps 2 rfl ?_
    refine RA.steps 2 rfl ?_
    refine RA.if2F rfl (decide_eq_false e0) ?_
    refine RA.steps 2 rfl ?_
    refine RA.if2T rfl (decide_eq_true e1) ?_
    refine RA.steps 1 rfl ?_
    exact RA.ret rfl rfl
theorem gm_part0 {m : Nat} (hE : ∀ m' < m, GC E V mX8_either 5 m') (hP : ∀ m' < m, GC E V mX8_part0 0 m') : GC E V mX8_part0 0 m := by
  intro d0 h key hk hp hm hd
  have r21 := (m_fld hp.1 (i := 21) (lo := 0) (hi := 8) rfl).2
  have r22 := (m_fld hp.1 (i := 22) (lo := 0) (hi := 8) rfl).2
  have r23 := (m_fld hp.1 (i := 23) (lo := 0) (hi := 98) rfl).2
  have r24 := (m_fld hp.1 (i := 24) (lo := 0) (hi := 2875) rfl).2
  have r16 := (m_fld hp.1 (i := 16) (lo := 0) (hi := 96) rfl).2
  have r15 := (m_fld hp.1 (i := 15) (lo := 0) (hi := 96) rfl).2
  obtain ⟨d, rfl⟩ : ∃ d', d0 = d' + 9 := ⟨d0 - 9, by omega⟩
  obtain ⟨fs, ho, -⟩ := hi_obj hp.1 HTm
  obtain ⟨c18, -⟩ := m_fld hp.1 (i := 18) (lo := 0) (hi := 4) rfl
  obtain ⟨c19, -⟩ := m_fld hp.1 (i := 19) (lo := -2147483648) (hi := 2147483647) rfl
  obtain ⟨c20, -⟩ := m_fld hp.1 (i := 20) (lo := -2147483648) (hi := 2147483647) rfl
  obtain ⟨c21, -⟩ := m_fld hp.1 (i := 21) (lo := 0) (hi := 8) rfl
  obtain ⟨c22, -⟩ := m_fld hp.1 (i := 22) (lo := 0) (hi := 8) rfl
  have hl : fi h 23 ≤ 97 := by have := hp.2.2.2.2; omega
  have start : ∀ (r : Int32) (h' : List pC), RA prog E V (d + 9) mX8_part0 0 [some (.ref 110), some (.int key)] [] h (some (.int r), h', 0, 0) → Run prog E V (d + 9) mX8_part0 [.ref 110, .int key] h (some (.int r), h', 0, 0) := fun r h' k => ⟨Nat.le_of_ble_eq_true rfl, ⟨_, _, rfl⟩, k⟩
  have ret0 : ∀ (i : Nat) (h' : List pC), (i = 66 ∨ i = 88 ∨ i = 106) → RA prog E V (d + 9) mX8_part0 i [some (.ref 110), some (.int key)] [] h' (some (.int 0), h', 0, 0) := by
    intro i h' hi
    rcases hi with rfl | rfl | rfl
    · refine RA.steps 1 rfl ?_
      exact RA.ret rfl rfl
    · refine RA.steps 1 rfl ?_
      exact RA.ret rfl rfl
    · refine RA.steps 1 rfl ?_
      exact RA.ret rfl rfl
  -- a step, one more said, the next token
  have leaf : ∀ (i : Nat) (what v : Int32), (i = 8 ∨ i = 35) → ¬ what = 2 ∧ (what = 0 ∨ (0 ≤ v.toInt ∧ v.toInt < 128)) → fi h 18 ≠ 0 → ∃ h3 : List pC, (RA prog E V (d + 9) mX8_part0 i [some (.ref 110), some (.int key)] [.int v, .int what, .ref 110] h (some (.int 1), h3, 0, 0)) ∧ OKP h h3 ∧ FrP h h3 := by
    intro i what v hi hw h18
    obtain ⟨h1, q1, s1, s2, s3, s4, s5⟩ := step_x (E := E) (V := V) (d := d + 7) what v hp.1 hl hp.2.2.2.2.2
    obtain ⟨fs1, ho1, -⟩ := hi_obj s1 HTm
    obtain ⟨c25, -⟩ := m_fld s1 (i := 25) (lo := -2147483648) (hi := 2147483647) rfl
    obtain ⟨u1, u2, u3⟩ := fld_put (i := 25) (lo := -2147483648) (hi := 2147483647) (v := ri h1 110 25 + 1) s1 ho1 rfl ⟨i32_lo _, i32_hi _⟩
    have e17 : fi (h1.set 110 (.inr (.inr (8, fs1.set 25 (.int (ri h1 110 25 + 1)))))) 17 = fi h 17 := by
      rw [oneF.k (i := 25) u2 (by omega), (st_fr hp.1 hl ⟨s1, s2, s3, s4, s5⟩).2 17 (by omega)]
    have e15 : fi (h1.set 110 (.inr (.inr (8, fs1.set 25 (.int (ri h1 110 25 + 1)))))) 15 = fi h 15 := by
      rw [oneF.k (i := 25) u2 (by omega), (st_fr hp.1 hl ⟨s1, s2, s3, s4, s5⟩).2 15 (by omega)]
    obtain ⟨h3, q3, n3⟩ := next_x (E := E) (V := V) (d := d) u1 (by rw [e17, e15]; exact hp.2.2.1)
    obtain ⟨k1, k2⟩ := ok_one hp h18 ⟨s1, s2, s3, s4, s5⟩ hw u1 u2 n3
    refine ⟨h3, ?_, k1, k2⟩
    rcases hi with rfl | rfl
    · refine call110 rfl rfl rfl rfl hp.1 rfl (Nat.le_of_ble_eq_true rfl) q1 ?_
      refine RA.steps 2 rfl ?_
      refine RA.getf rfl ho1 rfl (fld_at ho1 c25) ?_
      refine RA.steps (i' := 14) (L' := [some (.ref 110), some (.int key)]) (st' := [.int (ri h1 110 25 + 1), .ref 110]) (h' := h1) 2 rfl ?_
      refine RA.putf rfl ho1 rfl rfl ?_
      refine RA.steps 1 rfl ?_
      refine call110 rfl rfl rfl rfl u1 rfl (Nat.le_of_ble_eq_true rfl) q3 ?_
      refine RA.steps 1 rfl ?_
      exact RA.ret rfl rfl
    · refine call110 rfl rfl rfl rfl hp.1 rfl (Nat.le_of_ble_eq_true rfl) q1 ?_
      refine RA.steps 2 rfl ?_
      refine RA.getf rfl ho1 rfl (fld_at ho1 c25) ?_
      refine RA.steps (i' := 41) (L' := [some (.ref 110), some (.int key)]) (st' := [.int (ri h1 110 25 + 1), .ref 110]) (h' := h1) 2 rfl ?_
      refine RA.putf rfl ho1 rfl rfl ?_
      refine RA.steps 1 rfl ?_
      refine call110 rfl rfl rfl rfl u1 rfl (Nat.le_of_ble_eq_true rfl) q3 ?_
      refine RA.steps 1 rfl ?_
      exact RA.ret rfl rfl
  by_cases t2 : ri h 110 18 = 2
  · obtain ⟨h3, q, k1, k2⟩ := leaf 8 0 (ri h 110 19) (Or.inl rfl) ⟨by decide, Or.inl rfl⟩ (by unfold fi; rw [t2]; decide)
    refine ⟨1, h3, start _ _ ?_, k1.1.1, k2, Or.inr ⟨rfl, k1⟩⟩
    refine RA.steps 1 rfl ?_
    refine RA.getf rfl ho rfl (fld_at ho c18) ?_
    refine RA.steps 1 rfl ?_
    refine RA.if2F rfl (decide_eq_false (Decidable.not_not.mpr t2)) ?_
    refine RA.steps 3 rfl ?_
    refine RA.getf rfl ho rfl (fld_at ho c19) ?_
    exact q
  have p19 : ∀ res, RA prog E V (d + 9) mX8_part0 19 [some (.ref 110), some (.int key)] [] h res → RA prog E V (d + 9) mX8_part0 0 [some (.ref 110), some (.int key)] [] h res := by
    intro res k
    refine RA.steps 1 rfl ?_
    refine RA.getf rfl ho rfl (fld_at ho c18) ?_
    refine RA.steps 1 rfl ?_
    exact RA.if2T rfl (decide_eq_true t2) k
  -- a name
  have name : (∃ (r : Int32) (h' : List pC), RA prog E V (d + 9) mX8_part0 19 [some (.ref 110), some (.int key)] [] h (some (.int r), h', 0, 0) ∧ HI HT h' ∧ FrP h h' ∧ (r = 0 ∨ (r = 1 ∧ OKP h h'))) ∨ (∀ res, RA prog E V (d + 9) mX8_part0 46 [some (.ref 110), some (.int key)] [] h res → RA prog E V (d + 9) mX8_part0 19 [some (.ref 110), some (.int key)] [] h res) := by
    by_cases t1 : ri h 110 18 = 1
    · by_cases l0 : ri h 110 20 = 0
      · refine Or.inr (fun res k => ?_)
        refine RA.steps 1 rfl ?_
        refine RA.getf rfl ho rfl (fld_at ho c18) ?_
        refine RA.steps 1 rfl ?_
        refine RA.if2F rfl (decide_eq_false (Decidable.not_not.mpr t1)) ?_
        refine RA.steps 1 rfl ?_
        refine RA.getf rfl ho rfl (fld_at ho c20) ?_
        exact RA.if1T rfl (decide_eq_true l0) k
      · obtain ⟨r, hr, q0⟩ := isName_e (E := E) (V := V) (h := h) (d := d + 7) key (ri h 110 20) hk
        have pre : ∀ res, RA prog E V (d + 9) mX8_part0 30 [some (.ref 110), some (.int key)] [.int r] h res → RA prog E V (d + 9) mX8_part0 19 [some (.ref 110), some (.int key)] [] h res := by
          intro res k
          refine RA.steps 1 rfl ?_
          refine RA.getf rfl ho rfl (fld_at ho c18) ?_
          refine RA.steps 1 rfl ?_
          refine RA.if2F rfl (decide_eq_false (Decidable.not_not.mpr t1)) ?_
          refine RA.steps 1 rfl ?_
          refine RA.getf rfl ho rfl (fld_at ho c20) ?_
          refine RA.if1F rfl (decide_eq_false l0) ?_
          refine RA.steps 2 rfl ?_
          refine RA.getf rfl ho rfl (fld_at ho c20) ?_
          exact RA.call0 rfl rfl rfl q0 k
        rcases hr with rfl | ⟨rfl, v1, v2⟩
        · exact Or.inr (fun res k => pre _ (RA.if1T rfl rfl k))
        · obtain ⟨h3, q, k1, k2⟩ := leaf 35 1 (ri h 110 20) (Or.inr rfl) ⟨by decide, Or.inr ⟨by omega, v2⟩⟩ (by unfold fi; rw [t1]; decide)
          refine Or.inl ⟨1, h3, pre _ ?_, k1.1.1, k2, Or.inr ⟨rfl, k1⟩⟩
          refine RA.if1F rfl rfl ?_
          refine RA.steps 3 rfl ?_
          refine RA.getf rfl ho rfl (fld_at ho c20) ?_
          exact q
    · refine Or.inr (fun res k => ?_)
      refine RA.steps 1 rfl ?_
      refine RA.getf rfl ho rfl (fld_at ho c18) ?_
      refine RA.steps 1 rfl ?_
      exact RA.if2T rfl (decide_eq_true t1) k
  rcases name with ⟨r, h', q, w⟩ | p46
  · exact ⟨r, h', start _ _ (p19 _ q), w⟩
  have g46 : ∀ res, RA prog E V (d + 9) mX8_part0 46 [some (.ref 110), some (.int key)] [] h res → RA prog E V (d + 9) mX8_part0 0 [some (.ref 110), some (.int key)] [] h res := fun res k => p19 _ (p46 _ k)
  have s33 := isSign_x (E := E) (V := V) (d := d + 7) 33 hp.1
  have s40 := isSign_x (E := E) (V := V) (d := d + 7) 40 hp.1
  -- not
  by_cases hn : (ri h 110 18 = 3 ∧ ri h 110 20 = 33) ∧ ri h 110 22 < 8
  · obtain ⟨e33, lt8⟩ := hn
    rw [if_pos e33] at s33
    have k18 : fi h 18 ≠ 0 := by unfold fi; rw [e33.1]; decide
    have lt8' : fi h 22 < 8 := Int32.lt_iff_toInt_lt.mp lt8
    have v22 : (ri h 110 22 + 1 : Int32).toInt = fi h 22 + 1 := i32_1 (by unfold fi at r22; omega) (by unfold fi at r22; omega)
    obtain ⟨u1, u2, u3⟩ := fld_put (i := 22) (lo := 0) (hi := 8) (v := ri h 110 22 + 1) hp.1 ho rfl (by rw [v22]; omega)
    have pp : PIn (h.set 110 (.inr (.inr (8, fs.set 22 (.int (ri h 110 22 + 1)))))) := by
      obtain ⟨-, z2, z3, z4, z5⟩ := hp
      refine ⟨u1, ?_, ?_, ?_, ?_⟩
      · rw [oneF.k (i := 22) u2 (by omega), oneF.k (i := 22) u2 (by omega)]; exact z2
      · rw [oneF.k (i := 22) u2 (by omega), oneF.k (i := 22) u2 (by omega)]; exact z3
      · rw [oneF.k (i := 22) u2 (by omega), oneF.k (i := 22) u2 (by omega), oneF.k (i := 22) u2 (by omega)]; exact z4
      · rw [oneF.k (i := 22) u2 (by omega), oneF.k (i := 22) u2 (by omega), oneF.k (i := 22) u2 (by omega)]; exact z5
    have w16 := oneF.k (i := 22) (j := 16) u2 (by omega)
    have w18 := oneF.k (i := 22) (j := 18) u2 (by omega)
    have w21 := oneF.k (i := 22) (j := 21) u2 (by omega)
    have w23 := oneF.k (i := 22) (j := 23) u2 (by omega)
    have w24 := oneF.k (i := 22) (j := 24) u2 (by omega)
    have wri := oneF.s (i := 22) u2
    have wP := oneF.p (i := 22) (Or.inl (by omega)) u2
    obtain ⟨h2, q2, n2⟩ := next_x (E := E) (V := V) (d := d) u1 pp.2.2.1
    obtain ⟨i2, f2, n21, n22, n23, n16, n18, nri⟩ := nt_in pp n2
    have n18 := n18 (by rw [w18]; exact k18)
    rw [w16] at n16 n18
    rw [u3, v22] at n22
    rw [w21] at n21
    rw [w23] at n23
    obtain ⟨r3, h3, q3, i3, f3, ok3⟩ := hP (97 - fi h2 16).toNat (by omega) (d + 8) h2 key hk i2 (Nat.le_refl _) (by push_cast at hd ⊢; omega)
    have pre : ∀ res, RA prog E V (d + 9) mX8_part0 65 [some (.ref 110), some (.int key)] [.int r3] h3 res → RA prog E V (d + 9) mX8_part0 46 [some (.ref 110), some (.int key)] [] h res := by
      intro res k
      refine RA.steps 2 rfl ?_
      refine call110 rfl rfl rfl rfl hp.1 rfl (Nat.le_of_ble_eq_true rfl) s33 ?_
      refine RA.if1F rfl rfl ?_
      refine RA.steps 1 rfl ?_
      refine RA.getf rfl ho rfl (fld_at ho c22) ?_
      refine RA.steps 1 rfl ?_
      refine RA.if2F rfl (decide_eq_false (Int32.not_le.mpr lt8)) ?_
      refine RA.steps 2 rfl ?_
      refine RA.getf rfl ho rfl (fld_at ho c22) ?_
      refine RA.steps (i' := 59) (L' := [some (.ref 110), some (.int key)]) (st' := [.int (ri h 110 22 + 1), .ref 110]) (h' := h) 2 rfl ?_
      refine RA.putf rfl ho rfl rfl ?_
      refine RA.steps 1 rfl ?_
      refine call110 rfl rfl rfl rfl u1 rfl (Nat.le_of_ble_eq_true rfl) q2 ?_
      refine RA.steps 2 rfl ?_
      exact call110 rfl rfl rfl rfl i2.1 rfl (Nat.le_of_ble_eq_true rfl) q3 k
    have fr3 : FrP h h3 := (wP.tr f2 (by omega)).tr f3 (by omega)
    rcases ok3 with rfl | ⟨rfl, ok3⟩
    · exact ⟨0, h3, start _ _ (g46 _ (pre _ (RA.if1F rfl rfl (ret0 66 h3 (Or.inl rfl))))), i3, fr3, Or.inl rfl⟩
    · obtain ⟨i3', t21, t22, t16, t23, td, tT⟩ := ok3
      obtain ⟨fs3, ho3, -⟩ := hi_obj i3 HTm
      obtain ⟨c22', r22'⟩ := m_fld i3 (i := 22) (lo := 0) (hi := 8) rfl
      have b3 := (m_fld i3 (i := 16) (lo := 0) (hi := 96) rfl).2
      have v3 : (ri h3 110 22 - 1 : Int32).toInt = fi h3 22 - 1 := i32_m1 (by unfold fi at r22'; omega) (by unfold fi at r22'; omega)
      obtain ⟨x1, x2, x3⟩ := fld_put (i := 22) (lo := 0) (hi := 8) (v := ri h3 110 22 - 1) i3 ho3 rfl (by rw [v3]; omega)
      have x23 := oneF.k (i := 22) (j := 23) x2 (by omega)
      have x24 := oneF.k (i := 22) (j := 24) x2 (by omega)
      have x16 := oneF.k (i := 22) (j := 16) x2 (by omega)
      have x17 := oneF.k (i := 22) (j := 17) x2 (by omega)
      have x15 := oneF.k (i := 22) (j := 15) x2 (by omega)
      have x18 := oneF.k (i := 22) (j := 18) x2 (by omega)
      have x21 := oneF.k (i := 22) (j := 21) x2 (by omega)
      have xri := oneF.s (i := 22) x2
      have xP := oneF.p (i := 22) (Or.inl (by omega)) x2
      obtain ⟨-, y2, y3, y4, y5⟩ := i3'
      have e3 := f3.k (i := 24) (by omega) (by omega)
      have e2 := f2.k (i := 24) (by omega) (by omega)
      have hl4 : fi (h3.set 110 (.inr (.inr (8, fs3.set 22 (.int (ri h3 110 22 - 1)))))) 23 ≤ 97 := by omega
      obtain ⟨h5, q5, s1, s2, s3, s4, s5⟩ := step_x (E := E) (V := V) (d := d + 7) 2 33 x1 hl4 (by omega)
      obtain ⟨f5, s6⟩ := st_fr x1 hl4 ⟨s1, s2, s3, s4, s5⟩
      have z5 := hp.2.2.2.2
      refine ⟨1, h5, start _ _ (g46 _ (pre _ ?_)), s1, (fr3.tr xP (by omega)).tr f5 (by omega), Or.inr ⟨rfl, ⟨s1, ?_, ?_, ?_, ?_⟩, ?_, ?_, ?_, ?_, ?_, fun n => ?_⟩⟩
      · refine RA.if1T rfl rfl ?_
        refine RA.steps 2 rfl ?_
        refine RA.getf rfl ho3 rfl (fld_at ho3 c22') ?_
        refine RA.steps (i' := 73) (L' := [some (.ref 110), some (.int key)]) (st' := [.int (ri h3 110 22 - 1), .ref 110]) (h' := h3) 2 rfl ?_
        refine RA.putf rfl ho3 rfl rfl ?_
        refine RA.steps 3 rfl ?_
        refine call110 rfl rfl rfl rfl x1 rfl (Nat.le_of_ble_eq_true rfl) q5 ?_
        refine RA.steps 1 rfl ?_
        exact RA.ret rfl rfl
      · rw [s6 16 (by omega), s6 17 (by omega), x16, x17]; exact y2
      · rw [s6 17 (by omega), s6 15 (by omega), x17, x15]; exact y3
      · rw [s6 18 (by omega), s6 16 (by omega), s6 17 (by omega), x18, x16, x17]; exact y4
      · rw [s6 16 (by omega), s6 24 (by omega)]; omega
      · rw [s6 21 (by omega)]; omega
      · rw [s6 22 (by omega), x3, v3]; omega
      · rw [s6 16 (by omega)]; omega
      · omega
      · rw [s6 16 (by omega)]; omega
      · have p1 : hT (ri h5 111) (fi h 24).toNat (fi h3 23 - fi h 23).toNat (fi h 23).toNat n = some (n + 1) := by
          rw [hT_eq (f := ri h3 111) _ _ _ (fun j j1 j2 => by rw [ri_ct (s2 111 j (by omega) (by omega)), xri])]
          have := tT n
          rw [n23, e2, w24] at this
          exact this
        have p3 : hT (ri h5 111) (fi h 24).toNat 1 (fi h3 23).toNat (n + 1) = some (n + 1) := by
          have ei : (fi h 24).toNat + 2 * (fi h3 23).toNat = (fi (h3.set 110 (.inr (.inr (8, fs3.set 22 (.int (ri h3 110 22 - 1)))))) 24 + 2 * fi (h3.set 110 (.inr (.inr (8, fs3.set 22 (.int (ri h3 110 22 - 1)))))) 23).toNat := by omega
          rw [hT, ei, s3, s4, if_pos rfl, if_pos rfl, if_pos (by omega)]
          rfl
        have a1 := hT_app _ _ _ _ _ _ p1 (by rw [show (fi h 23).toNat + (fi h3 23 - fi h 23).toNat = (fi h3 23).toNat by omega]; exact p3)
        rw [show (fi h5 23 - fi h 23).toNat = (fi h3 23 - fi h 23).toNat + 1 by omega]
        exact a1
  have p80 : ∀ res, RA prog E V (d + 9) mX8_part0 80 [some (.ref 110), some (.int key)] [] h res → RA prog E V (d + 9) mX8_part0 46 [some (.ref 110), some (.int key)] [] h res := by
    intro res k
    by_cases e33 : ri h 110 18 = 3 ∧ ri h 110 20 = 33
    · rw [if_pos e33] at s33
      refine RA.steps 2 rfl ?_
      refine call110 rfl rfl rfl rfl hp.1 rfl (Nat.le_of_ble_eq_true rfl) s33 ?_
      refine RA.if1F rfl rfl ?_
      refine RA.steps 1 rfl ?_
      refine RA.getf rfl ho rfl (fld_at ho c22) ?_
      refine RA.steps 1 rfl ?_
      exact RA.if2T rfl (decide_eq_true (Int32.not_lt.mp (fun q => hn ⟨e33, q⟩))) k
    · rw [if_neg e33] at s33
      refine RA.steps 2 rfl ?_
      refine call110 rfl rfl rfl rfl hp.1 rfl (Nat.le_of_ble_eq_true rfl) s33 ?_
      exact RA.if1T rfl rfl k
  have g80 : ∀ res, RA prog E V (d + 9) mX8_part0 80 [some (.ref 110), some (.int key)] [] h res → RA prog E V (d + 9) mX8_part0 0 [some (.ref 110), some (.int key)] [] h res := fun res k => g46 _ (p80 _ k)
  by_cases e40 : ri h 110 18 = 3 ∧ ri h 110 20 = 40
  · rw [if_pos e40] at s40
    have k18 : fi h 18 ≠ 0 := by unfold fi; rw [e40.1]; decide
    by_cases d8 : ri h 110 21 = 8
    · refine ⟨0, h, start _ _ (g80 _ ?_), hp.1, FrP.rf h, Or.inl rfl⟩
      refine RA.steps 2 rfl ?_
      refine call110 rfl rfl rfl rfl hp.1 rfl (Nat.le_of_ble_eq_true rfl) s40 ?_
      refine RA.if1F rfl rfl ?_
      refine RA.steps 1 rfl ?_
      refine RA.getf rfl ho rfl (fld_at ho c21) ?_
      refine RA.steps 1 rfl ?_
      refine RA.if2F rfl (decide_eq_false (Decidable.not_not.mpr d8)) ?_
      exact ret0 88 h (Or.inr (Or.inl rfl))
    · have d8' : fi h 21 < 8 := by
        have : fi h 21 ≠ 8 := fun q => d8 (i32_eq.mpr q)
        omega
      have v21 : (ri h 110 21 + 1 : Int32).toInt = fi h 21 + 1 := i32_1 (by unfold fi at r21; omega) (by unfold fi at r21; omega)
      obtain ⟨u1, u2, u3⟩ := fld_put (i := 21) (lo := 0) (hi := 8) (v := ri h 110 21 + 1) hp.1 ho rfl (by rw [v21]; omega)
      have pp : PIn (h.set 110 (.inr (.inr (8, fs.set 21 (.int (ri h 110 21 + 1)))))) := by
        obtain ⟨-, z2, z3, z4, z5⟩ := hp
        refine ⟨u1, ?_, ?_, ?_, ?_⟩
        · rw [oneF.k (i := 21) u2 (by omega), oneF.k (i := 21) u2 (by omega)]; exact z2
        · rw [oneF.k (i := 21) u2 (by omega), oneF.k (i := 21) u2 (by omega)]; exact z3
        · rw [oneF.k (i := 21) u2 (by omega), oneF.k (i := 21) u2 (by omega), oneF.k (i := 21) u2 (by omega)]; exact z4
        · rw [oneF.k (i := 21) u2 (by omega), oneF.k (i := 21) u2 (by omega), oneF.k (i := 21) u2 (by omega)]; exact z5
      have w16 := oneF.k (i := 21) (j := 16) u2 (by omega)
      have w18 := oneF.k (i := 21) (j := 18) u2 (by omega)
      have w22 := oneF.k (i := 21) (j := 22) u2 (by omega)
      have w23 := oneF.k (i := 21) (j := 23) u2 (by omega)
      have w24 := oneF.k (i := 21) (j := 24) u2 (by omega)
      have wri := oneF.s (i := 21) u2
      have wP := oneF.p (i := 21) (Or.inl (by omega)) u2
      obtain ⟨h2, q2, n2⟩ := next_x (E := E) (V := V) (d := d) u1 pp.2.2.1
      obtain ⟨i2, f2, n21, n22, n23, n16, n18, nri⟩ := nt_in pp n2
      have n18 := n18 (by rw [w18]; exact k18)
      rw [w16] at n16 n18
      rw [u3, v21] at n21
      rw [w22] at n22
      rw [w23] at n23
      obtain ⟨r3, h3, q3, i3, f3, ok3⟩ := hE (97 - fi h2 16).toNat (by omega) (d + 8) h2 key hk i2 (Nat.le_refl _) (by push_cast at hd ⊢; omega)
      have pre : ∀ res, RA prog E V (d + 9) mX8_part0 101 [some (.ref 110), some (.int key)] [.int r3] h3 res → RA prog E V (d + 9) mX8_part0 80 [some (.ref 110), some (.int key)] [] h res := by
        intro res k
        refine RA.steps 2 rfl ?_
        refine call110 rfl rfl rfl rfl hp.1 rfl (Nat.le_of_ble_eq_true rfl) s40 ?_
        refine RA.if1F rfl rfl ?_
        refine RA.steps 1 rfl ?_
        refine RA.getf rfl ho rfl (fld_at ho c21) ?_
        refine RA.steps 1 rfl ?_
        refine RA.if2T rfl (decide_eq_true d8) ?_
        refine RA.steps 2 rfl ?_
        refine RA.getf rfl ho rfl (fld_at ho c21) ?_
        refine RA.steps (i' := 95) (L' := [some (.ref 110), some (.int key)]) (st' := [.int (ri h 110 21 + 1), .ref 110]) (h' := h) 2 rfl ?_
        refine RA.putf rfl ho rfl rfl ?_
        refine RA.steps 1 rfl ?_
        refine call110 rfl rfl rfl rfl u1 rfl (Nat.le_of_ble_eq_true rfl) q2 ?_
        refine RA.steps 2 rfl ?_
        exact call110 rfl rfl rfl rfl i2.1 rfl (Nat.le_of_ble_eq_true rfl) q3 k
      have fr3 : FrP h h3 := (wP.tr f2 (by omega)).tr f3 (by omega)
      rcases ok3 with rfl | ⟨rfl, ok3⟩
      · refine ⟨0, h3, start _ _ (g80 _ (pre _ ?_)), i3, fr3, Or.inl rfl⟩
        refine RA.if1T rfl rfl ?_
        exact ret0 106 h3 (Or.inr (Or.inr rfl))
      · have s41 := isSign_x (E := E) (V := V) (d := d + 7) 41 i3
        by_cases e41 : ri h3 110 18 = 3 ∧ ri h3 110 20 = 41
        · rw [if_pos e41] at s41
          obtain ⟨i3', t21, t22, t16, t23, td, tT⟩ := ok3
          obtain ⟨fs3, ho3, -⟩ := hi_obj i3 HTm
          obtain ⟨c21', r21'⟩ := m_fld i3 (i := 21) (lo := 0) (hi := 8) rfl
          have b3 := (m_fld i3 (i := 16) (lo := 0) (hi := 96) rfl).2
          have v3 : (ri h3 110 21 - 1 : Int32).toInt = fi h3 21 - 1 := i32_m1 (by unfold fi at r21'; omega) (by unfold fi at r21'; omega)
          obtain ⟨x1, x2, x3⟩ := fld_put (i := 21) (lo := 0) (hi := 8) (v := ri h3 110 21 - 1) i3 ho3 rfl (by rw [v3]; omega)
          have x23 := oneF.k (i := 21) (j := 23) x2 (by omega)
          have x24 := oneF.k (i := 21) (j := 24) x2 (by omega)
          have x16 := oneF.k (i := 21) (j := 16) x2 (by omega)
          have x17 := oneF.k (i := 21) (j := 17) x2 (by omega)
          have x15 := oneF.k (i := 21) (j := 15) x2 (by omega)
          have x18 := oneF.k (i := 21) (j := 18) x2 (by omega)
          have x22 := oneF.k (i := 21) (j := 22) x2 (by omega)
          have xri := oneF.s (i := 21) x2
          have xP := oneF.p (i := 21) (Or.inl (by omega)) x2
          obtain ⟨-, y2, y3, y4, y5⟩ := i3'
          have e3 := f3.k (i := 24) (by omega) (by omega)
          have e2 := f2.k (i := 24) (by omega) (by omega)
          have pp4 : PIn (h3.set 110 (.inr (.inr (8, fs3.set 21 (.int (ri h3 110 21 - 1)))))) := ⟨x1, by rw [x16, x17]; exact y2, by rw [x17, x15]; exact y3, by rw [x18, x16, x17]; exact y4, by omega⟩
          obtain ⟨h5, q5, n5⟩ := next_x (E := E) (V := V) (d := d) x1 pp4.2.2.1
          obtain ⟨i5, f5, m21, m22, m23, m16, m18, mri⟩ := nt_in pp4 n5
          have m18 := m18 (by rw [x18]; unfold fi; rw [e41.1]; decide)
          refine ⟨1, h5, start _ _ (g80 _ (pre _ ?_)), i5.1, (fr3.tr xP (by omega)).tr f5 (by omega), Or.inr ⟨rfl, i5, by omega, by omega, by omega, by omega, by omega, fun n => ?_⟩⟩
          · refine RA.if1F rfl rfl ?_
            refine RA.steps 2 rfl ?_
            refine call110 rfl rfl rfl rfl i3 rfl (Nat.le_of_ble_eq_true rfl) s41 ?_
            refine RA.if1T rfl rfl ?_
            refine RA.steps 2 rfl ?_
            refine RA.getf rfl ho3 rfl (fld_at ho3 c21') ?_
            refine RA.steps (i' := 113) (L' := [some (.ref 110), some (.int key)]) (st' := [.int (ri h3 110 21 - 1), .ref 110]) (h' := h3) 2 rfl ?_
            refine RA.putf rfl ho3 rfl rfl ?_
            refine RA.steps 1 rfl ?_
            refine call110 rfl rfl rfl rfl x1 rfl (Nat.le_of_ble_eq_true rfl) q5 ?_
            refine RA.steps 1 rfl ?_
            exact RA.ret rfl rfl
          · rw [hT_eq (f := ri h3 111) _ _ _ (fun j j1 j2 => by rw [mri, xri])]
            have := tT n
            rw [n23, e2, w24] at this
            rw [show (fi h5 23 - fi h 23).toNat = (fi h3 23 - fi h 23).toNat by omega]
            exact this
        · rw [if_neg e41] at s41
          refine ⟨0, h3, start _ _ (g80 _ (pre _ ?_)), i3, fr3, Or.inl rfl⟩
          refine RA.if1F rfl rfl ?_
          refine RA.steps 2 rfl ?_
          refine call110 rfl rfl rfl rfl i3 rfl (Nat.le_of_ble_eq_true rfl) s41 ?_
          refine RA.if1F rfl rfl ?_
          exact ret0 106 h3 (Or.inr (Or.inr rfl))
  · rw [if_neg e40] at s40
    refine ⟨0, h, start _ _ (g80 _ ?_), hp.1, FrP.rf h, Or.inl rfl⟩
    refine RA.steps 2 rfl ?_
    refine call110 rfl rfl rfl rfl hp.1 rfl (Nat.le_of_ble_eq_true rfl) s40 ?_
    refine RA.if1T rfl rfl ?_
    exact ret0 88 h (Or.inr (Or.inl rfl))
/-- the grammar as a whole -/
theorem gm_all : ∀ m : Nat, GC E V mX8_part0 0 m ∧ GC E V mX8_either 5 m := by
  intro m
  induction m using Nat.strongRecOn with
  | _ m ih =>
    have p0 : ∀ m' ≤ m, GC E V mX8_part0 0 m' := fun m' hm => gm_part0 (fun j hj => (ih j (by omega)).2) (fun j hj => (ih j (by omega)).1)
    have p1 : ∀ m' ≤ m, GC E V mX8_term 1 m' := fun m' hm => gm_term (fun j hj => p0 j (by omega))
    have p2 : ∀ m' ≤ m, GC E V mX8_sum 2 m' := fun m' hm => gm_sum (fun j hj => p1 j (by omega))
    have p3 : ∀ m' ≤ m, GC E V mX8_test 3 m' := fun m' hm => gm_test (fun j hj => p2 j (by omega))
    have p4 : ∀ m' ≤ m, GC E V mX8_both 4 m' := fun m' hm => gm_both (fun j hj => p3 j (by omega))
    exact ⟨p0 m (Nat.le_refl m), gm_either (fun j hj => p4 j (by omega))⟩
end PRT
