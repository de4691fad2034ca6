/-! ===== the grammar, method by method: signs between (printed by program) ===== -/
section GRA
variable {E : pX} {V : pV} {h : List pC}
theorem call110 {d i pc n x y : Nat} {v : Value} {ts : List Nat} {M N : pM} {L : pL} {st rest : List Value} {h1 h2 : List pC} {r : Option Value} {res : pR} (he : (m_code M)[i]? = some (pc, .invokevirtual n, x, y, v, ts)) (hN : prog[x]? = some N) (hk : m_k N = 1) (hc : 8 = m_c N) (hh : HI HT h1) (hd : st.drop y = .ref 110 :: rest) (h8 : pcs rest ≤ 8) (hr : Run prog E V d N (.ref 110 :: (st.take y).reverse) h1 (r, h2, 0, 0)) (k : RA prog E V (d + 1) M (i + 1) L (r.toList ++ rest) h2 res) : RA prog E V (d + 1) M i L st h1 res := by
  obtain ⟨o, ho, ho8⟩ := mobj hh
  exact RA.call0 he rfl (pcallV hN hd ho hk (ho8.trans hc) h8) hr k
theorem gm_term {m : Nat} (hY : ∀ m' ≤ m, GC E V mX8_part0 0 m') : GC E V mX8_term 1 m := by
  intro d0 h key hk hp hm hd
  obtain ⟨d, rfl⟩ : ∃ d', d0 = d' + 9 := ⟨d0 - 9, by
    have r21 := (m_fld hp.1 (i := 21) (lo := 0) (hi := 8) rfl).2
    have r22 := (m_fld hp.1 (i := 22) (lo := 0) (hi := 8) rfl).2
    omega⟩
  have loop : ∀ (M : Nat) (h1 : List pC) (l2 : Option Value), (97 - fi h1 16).toNat = M → OKP h h1 → FrP h h1 → ∃ (r : Int32) (h' : List pC), RA prog E V (d + 9) mX8_term 6 [some (.ref 110), some (.int key), l2] [] h1 (some (.int r), h', 0, 0) ∧ HI HT h' ∧ FrP h h' ∧ (r = 0 ∨ (r = 1 ∧ OKP h h')) := by
    intro M
    induction M using Nat.strongRecOn with
    | _ M ih =>
      intro h1 l2 hM ok1 f1
      obtain ⟨fs, ho, -⟩ := hi_obj ok1.1.1 HTm
      obtain ⟨c20, -⟩ := m_fld ok1.1.1 (i := 20) (lo := -2147483648) (hi := 2147483647) rfl
      have go : ∀ c : Int32, (c = 42 ∨ c = 47) → ri h1 110 18 = 3 → ri h1 110 20 = c → ∃ (r : Int32) (h' : List pC), RA prog E V (d + 9) mX8_term 14 [some (.ref 110), some (.int key), l2] [] h1 (some (.int r), h', 0, 0) ∧ HI HT h' ∧ FrP h h' ∧ (r = 0 ∨ (r = 1 ∧ OKP h h')) := by
        intro c hc h18 h20
        have k18 : fi h1 18 ≠ 0 := by unfold fi; rw [h18]; decide
        obtain ⟨h2, r2, n2⟩ := next_x (E := E) (V := V) (d := d) ok1.1.1 ok1.1.2.2.1
        obtain ⟨i2, f2, n21, n22, n23, n16, n18, -⟩ := nt_in ok1.1 n2
        have n18 := n18 k18
        have z1 := ok1.2.1
        have z2 := ok1.2.2.1
        have z3 := ok1.2.2.2.1
        obtain ⟨r3, h3, q3, i3, f3, ok3⟩ := hY (97 - fi h2 16).toNat (by omega) (d + 8) h2 key hk i2 (Nat.le_refl _) (by push_cast at hd ⊢; omega)
        have pre : ∀ res, RA prog E V (d + 9) mX8_term 22 [some (.ref 110), some (.int key), some (.int c)] [.int r3] h3 res → RA prog E V (d + 9) mX8_term 14 [some (.ref 110), some (.int key), l2] [] h1 res := by
          intro res k
          refine RA.steps 1 rfl ?_
          refine RA.getf rfl ho rfl (fld_at ho c20) ?_
          rw [h20]
          refine RA.steps 2 rfl ?_
          refine call110 rfl rfl rfl rfl ok1.1.1 rfl (Nat.le_of_ble_eq_true rfl) r2 ?_
          refine RA.steps 2 rfl ?_
          exact call110 rfl rfl rfl rfl i2.1 rfl (Nat.le_of_ble_eq_true rfl) q3 k
        rcases ok3 with rfl | ⟨rfl, ok3⟩
        · refine ⟨0, h3, pre _ ?_, i3, (f1.tr f2 ok1.2.2.2.2.1).tr f3 (by have := ok1.2.2.2.2.1; omega), Or.inl rfl⟩
          refine RA.if1F rfl rfl ?_
          refine RA.steps 1 rfl ?_
          exact RA.ret rfl rfl
        · have hl3 : fi h3 23 ≤ 97 := by
            have b3 := (m_fld i3 (i := 16) (lo := 0) (hi := 96) rfl).2
            have := ok3.1.2.2.2.2
            omega
          obtain ⟨h4, r4, s1, s2, s3, s4, s5⟩ := step_x (E := E) (V := V) (d := d + 7) 2 c i3 hl3 ok3.1.2.2.2.2.2
          obtain ⟨ok4, f4, n4⟩ := ok_two hp ok1 f1 k18 n2 ok3 f3 (c := c) (h4 := h4) ⟨s1, s2, s3, s4, s5⟩ (by rcases hc with rfl | rfl <;> decide)
          obtain ⟨r, h', q, w⟩ := ih (97 - fi h4 16).toNat (by have b4 := (m_fld s1 (i := 16) (lo := 0) (hi := 96) rfl).2; omega) h4 (some (.int c)) rfl ok4 f4
          refine ⟨r, h', pre _ ?_, w⟩
          refine RA.if1T rfl rfl ?_
          refine RA.steps 3 rfl ?_
          refine call110 rfl rfl rfl rfl i3 rfl (Nat.le_of_ble_eq_true rfl) r4 ?_
          exact RA.steps 1 rfl q
      have s1 := isSign_x (E := E) (V := V) (d := d + 7) 42 ok1.1.1
      have s2 := isSign_x (E := E) (V := V) (d := d + 7) 47 ok1.1.1
      by_cases e1 : ri h1 110 18 = 3 ∧ ri h1 110 20 = 42
      · rw [if_pos e1] at s1
        obtain ⟨r, h', q, w⟩ := go 42 (Or.inl rfl) e1.1 e1.2
        refine ⟨r, h', ?_, w⟩
        refine RA.steps 2 rfl ?_
        refine call110 rfl rfl rfl rfl ok1.1.1 rfl (Nat.le_of_ble_eq_true rfl) s1 ?_
        exact RA.if1T rfl rfl q
      · rw [if_neg e1] at s1
        by_cases e2 : ri h1 110 18 = 3 ∧ ri h1 110 20 = 47
        · rw [if_pos e2] at s2
          obtain ⟨r, h', q, w⟩ := go 47 (Or.inr rfl) e2.1 e2.2
          refine ⟨r, h', ?_, w⟩
          refine RA.steps 2 rfl ?_
          refine call110 rfl rfl rfl rfl ok1.1.1 rfl (Nat.le_of_ble_eq_true rfl) s1 ?_
          refine RA.if1F rfl rfl ?_
          refine RA.steps 2 rfl ?_
          refine call110 rfl rfl rfl rfl ok1.1.1 rfl (Nat.le_of_ble_eq_true rfl) s2 ?_
          exact RA.if1F rfl rfl q
        · rw [if_neg e2] at s2
          refine ⟨1, h1, ?_, ok1.1.1, f1, Or.inr ⟨rfl, ok1⟩⟩
          refine RA.steps 2 rfl ?_
          refine call110 rfl rfl rfl rfl ok1.1.1 rfl (Nat.le_of_ble_eq_true rfl) s1 ?_
          refine RA.if1F rfl rfl ?_
          refine RA.steps 2 rfl ?_
          refine call110 rfl rfl rfl rfl ok1.1.1 rfl (Nat.le_of_ble_eq_true rfl) s2 ?_
          refine RA.if1T rfl rfl ?_
          refine RA.steps 1 rfl ?_
          exact RA.ret rfl rfl
  obtain ⟨r1, h1, q1, i1, f1, ok1⟩ := hY (97 - fi h 16).toNat hm (d + 8) h key hk hp (Nat.le_refl _) (by push_cast at hd ⊢; omega)
  have st : ∀ r h', RA prog E V (d + 9) mX8_term 3 [some (.ref 110), some (.int key), none] [.int r1] h1 (some (.int r), h', 0, 0) → Run prog E V (d + 9) mX8_term [.ref 110, .int key] h (some (.int r), h', 0, 0) := by
    intro r h' k
    refine ⟨Nat.le_of_ble_eq_true rfl, ⟨_, _, rfl⟩, ?_⟩
    refine RA.steps 2 rfl ?_
    exact call110 rfl rfl rfl rfl hp.1 rfl (Nat.le_of_ble_eq_true rfl) q1 k
  rcases ok1 with rfl | ⟨rfl, ok1⟩
  · refine ⟨0, h1, st _ _ ?_, i1, f1, Or.inl rfl⟩
    refine RA.if1F rfl rfl ?_
    refine RA.steps 1 rfl ?_
    exact RA.ret rfl rfl
  · obtain ⟨r, h', q, w⟩ := loop (97 - fi h1 16).toNat h1 none rfl ok1 f1
    exact ⟨r, h', st _ _ (RA.if1T rfl rfl q), w⟩
theorem gm_sum {m : Nat} (hY : ∀ m' ≤ m, GC E V mX8_term 1 m') : GC E V mX8_sum 2 m := by
  intro d0 h key hk hp hm hd
  obtain ⟨d, rfl⟩ : ∃ d', d0 = d' + 9 := ⟨d0 - 9, by
    have r21 := (m_fld hp.1 (i := 21) (lo := 0) (hi := 8) rfl).2
    have r22 := (m_fld hp.1 (i := 22) (lo := 0) (hi := 8) rfl).2
    omega⟩
  have loop : ∀ (M : Nat) (h1 : List pC) (l2 : Option Value), (97 - fi h1 16).toNat = M → OKP h h1 → FrP h h1 → ∃ (r : Int32) (h' : List pC), RA prog E V (d + 9) mX8_sum 6 [some (.ref 110), some (.int key), l2] [] h1 (some (.int r), h', 0, 0) ∧ HI HT h' ∧ FrP h h' ∧ (r = 0 ∨ (r = 1 ∧ OKP h h')) := by
    intro M
    induction M using Nat.strongRecOn with
    | _ M ih =>
      intro h1 l2 hM ok1 f1
      obtain ⟨fs, ho, -⟩ := hi_obj ok1.1.1 HTm
      obtain ⟨c20, -⟩ := m_fld ok1.1.1 (i := 20) (lo := -2147483648) (hi := 2147483647) rfl
      have go : ∀ c : Int32, (c = 43 ∨ c = 45) → ri h1 110 18 = 3 → ri h1 110 20 = c → ∃ (r : Int32) (h' : List pC), RA prog E V (d + 9) mX8_sum 14 [some (.ref 110), some (.int key), l2] [] h1 (some (.int r), h', 0, 0) ∧ HI HT h' ∧ FrP h h' ∧ (r = 0 ∨ (r = 1 ∧ OKP h h')) := by
        intro c hc h18 h20
        have k18 : fi h1 18 ≠ 0 := by unfold fi; rw [h18]; decide
        obtain ⟨h2, r2, n2⟩ := next_x (E := E) (V := V) (d := d) ok1.1.1 ok1.1.2.2.1
        obtain ⟨i2, f2, n21, n22, n23, n16, n18, -⟩ := nt_in ok1.1 n2
        have n18 := n18 k18
        have z1 := ok1.2.1
        have z2 := ok1.2.2.1
        have z3 := ok1.2.2.2.1
        obtain ⟨r3, h3, q3, i3, f3, ok3⟩ := hY (97 - fi h2 16).toNat (by omega) (d + 8) h2 key hk i2 (Nat.le_refl _) (by push_cast at hd ⊢; omega)
        have pre : ∀ res, RA prog E V (d + 9) mX8_sum 22 [some (.ref 110), some (.int key), some (.int c)] [.int r3] h3 res → RA prog E V (d + 9) mX8_sum 14 [some (.ref 110), some (.int key), l2] [] h1 res := by
          intro res k
          refine RA.steps 1 rfl ?_
          refine RA.getf rfl ho rfl (fld_at ho c20) ?_
          rw [h20]
          refine RA.steps 2 rfl ?_
          refine call110 rfl rfl rfl rfl ok1.1.1 rfl (Nat.le_of_ble_eq_true rfl) r2 ?_
          refine RA.steps 2 rfl ?_
          exact call110 rfl rfl rfl rfl i2.1 rfl (Nat.le_of_ble_eq_true rfl) q3 k
        rcases ok3 with rfl | ⟨rfl, ok3⟩
        · refine ⟨0, h3, pre _ ?_, i3, (f1.tr f2 ok1.2.2.2.2.1).tr f3 (by have := ok1.2.2.2.2.1; omega), Or.inl rfl⟩
          refine RA.if1F rfl rfl ?_
          refine RA.steps 1 rfl ?_
          exact RA.ret rfl rfl
        · have hl3 : fi h3 23 ≤ 97 := by
            have b3 := (m_fld i3 (i := 16) (lo := 0) (hi := 96) rfl).2
            have := ok3.1.2.2.2.2
            omega
          obtain ⟨h4, r4, s1, s2, s3, s4, s5⟩ := step_x (E := E) (V := V) (d := d + 7) 2 c i3 hl3 ok3.1.2.2.2.2.2
          obtain ⟨ok4, f4, n4⟩ := ok_two hp ok1 f1 k18 n2 ok3 f3 (c := c) (h4 := h4) ⟨s1, s2, s3, s4, s5⟩ (by rcases hc with rfl | rfl <;> decide)
          obtain ⟨r, h', q, w⟩ := ih (97 - fi h4 16).toNat (by have b4 := (m_fld s1 (i := 16) (lo := 0) (hi := 96) rfl).2; omega) h4 (some (.int c)) rfl ok4 f4
          refine ⟨r, h', pre _ ?_, w⟩
          refine RA.if1T rfl rfl ?_
          refine RA.steps 3 rfl ?_
          refine call110 rfl rfl rfl rfl i3 rfl (Nat.le_of_ble_eq_true rfl) r4 ?_
          exact RA.steps 1 rfl q
      have s1 := isSign_x (E := E) (V := V) (d := d + 7) 43 ok1.1.1
      have s2 := isSign_x (E := E) (V := V) (d := d + 7) 45 ok1.1.1
      by_cases e1 : ri h1 110 18 = 3 ∧ ri h1 110 20 = 43
      · rw [if_pos e1] at s1
        obtain ⟨r, h', q, w⟩ := go 43 (Or.inl rfl) e1.1 e1.2
        refine ⟨r, h', ?_, w⟩
        refine RA.steps 2 rfl ?_
        refine call110 rfl rfl rfl rfl ok1.1.1 rfl (Nat.le_of_ble_eq_true rfl) s1 ?_
        exact RA.if1T rfl rfl q
      · rw [if_neg e1] at s1
        by_cases e2 : ri h1 110 18 = 3 ∧ ri h1 110 20 = 45
        · rw [if_pos e2] at s2
          obtain ⟨r, h', q, w⟩ := go 45 (Or.inr rfl) e2.1 e2.2
          refine ⟨r, h', ?_, w⟩
          refine RA.steps 2 rfl ?_
          refine call110 rfl rfl rfl rfl ok1.1.1 rfl (Nat.le_of_ble_eq_true rfl) s1 ?_
          refine RA.if1F rfl rfl ?_
          refine RA.steps 2 rfl ?_
          refine call110 rfl rfl rfl rfl ok1.1.1 rfl (Nat.le_of_ble_eq_true rfl) s2 ?_
          exact RA.if1F rfl rfl q
        · rw [if_neg e2] at s2
          refine ⟨1, h1, ?_, ok1.1.1, f1, Or.inr ⟨rfl, ok1⟩⟩
          refine RA.steps 2 rfl ?_
          refine call110 rfl rfl rfl rfl ok1.1.1 rfl (Nat.le_of_ble_eq_true rfl) s1 ?_
          refine RA.if1F rfl rfl ?_
          refine RA.steps 2 rfl ?_
          refine call110 rfl rfl rfl rfl ok1.1.1 rfl (Nat.le_of_ble_eq_true rfl) s2 ?_
          refine RA.if1T rfl rfl ?_
          refine RA.steps 1 rfl ?_
          exact RA.ret rfl rfl
  obtain ⟨r1, h1, q1, i1, f1, ok1⟩ := hY (97 - fi h 16).toNat hm (d + 8) h key hk hp (Nat.le_refl _) (by push_cast at hd ⊢; omega)
  have st : ∀ r h', RA prog E V (d + 9) mX8_sum 3 [some (.ref 110), some (.int key), none] [.int r1] h1 (some (.int r), h', 0, 0) → Run prog E V (d + 9) mX8_sum [.ref 110, .int key] h (some (.int r), h', 0, 0) := by
    intro r h' k
    refine ⟨Nat.le_of_ble_eq_true rfl, ⟨_, _, rfl⟩, ?_⟩
    refine RA.steps 2 rfl ?_
    exact call110 rfl rfl rfl rfl hp.1 rfl (Nat.le_of_ble_eq_true rfl) q1 k
  rcases ok1 with rfl | ⟨rfl, ok1⟩
  · refine ⟨0, h1, st _ _ ?_, i1, f1, Or.inl rfl⟩
    refine RA.if1F rfl rfl ?_
    refine RA.steps 1 rfl ?_
    exact RA.ret rfl rfl
  · obtain ⟨r, h', q, w⟩ := loop (97 - fi h1 16).toNat h1 none rfl ok1 f1
    exact ⟨r, h', st _ _ (RA.if1T rfl rfl q), w⟩
theorem gm_both {m : Nat} (hY : ∀ m' ≤ m, GC E V mX8_test 3 m') : GC E V mX8_both 4 m := by
  intro d0 h key hk hp hm hd
  obtain ⟨d, rfl⟩ : ∃ d', d0 = d' + 9 := ⟨d0 - 9, by
    have r21 := (m_fld hp.1 (i := 21) (lo := 0) (hi := 8) rfl).2
    have r22 := (m_fld hp.1 (i := 22) (lo := 0) (hi := 8) rfl).2
    omega⟩
  have loop : ∀ (M : Nat) (h1 : List pC), (97 - fi h1 16).toNat = M → OKP h h1 → FrP h h1 → ∃ (r : Int32) (h' : List pC), RA prog E V (d + 9) mX8_both 6 [some (.ref 110), some (.int key)] [] h1 (some (.int r), h', 0, 0) ∧ HI HT h' ∧ FrP h h' ∧ (r = 0 ∨ (r = 1 ∧ OKP h h')) := by
    intro M
    induction M using Nat.strongRecOn with
    | _ M ih =>
      intro h1 hM ok1 f1
      have s1 := isSign_x (E := E) (V := V) (d := d + 7) 38 ok1.1.1
      by_cases e1 : ri h1 110 18 = 3 ∧ ri h1 110 20 = 38
      · rw [if_pos e1] at s1
        have k18 : fi h1 18 ≠ 0 := by unfold fi; rw [e1.1]; decide
        obtain ⟨h2, r2, n2⟩ := next_x (E := E) (V := V) (d := d) ok1.1.1 ok1.1.2.2.1
        obtain ⟨i2, f2, n21, n22, n23, n16, n18, -⟩ := nt_in ok1.1 n2
        have n18 := n18 k18
        have z1 := ok1.2.1
        have z2 := ok1.2.2.1
        have z3 := ok1.2.2.2.1
        obtain ⟨r3, h3, q3, i3, f3, ok3⟩ := hY (97 - fi h2 16).toNat (by omega) (d + 8) h2 key hk i2 (Nat.le_refl _) (by push_cast at hd ⊢; omega)
        have pre : ∀ res, RA prog E V (d + 9) mX8_both 15 [some (.ref 110), some (.int key)] [.int r3] h3 res → RA prog E V (d + 9) mX8_both 6 [some (.ref 110), some (.int key)] [] h1 res := by
          intro res k
          refine RA.steps 2 rfl ?_
          refine call110 rfl rfl rfl rfl ok1.1.1 rfl (Nat.le_of_ble_eq_true rfl) s1 ?_
          refine RA.if1F rfl rfl ?_
          refine RA.steps 1 rfl ?_
          refine call110 rfl rfl rfl rfl ok1.1.1 rfl (Nat.le_of_ble_eq_true rfl) r2 ?_
          refine RA.steps 2 rfl ?_
          exact call110 rfl rfl rfl rfl i2.1 rfl (Nat.le_of_ble_eq_true rfl) q3 k
        rcases ok3 with rfl | ⟨rfl, ok3⟩
        · refine ⟨0, h3, pre _ ?_, i3, (f1.tr f2 ok1.2.2.2.2.1).tr f3 (by have := ok1.2.2.2.2.1; omega), Or.inl rfl⟩
          refine RA.if1F rfl rfl ?_
          refine RA.steps 1 rfl ?_
          exact RA.ret rfl rfl
        · have hl3 : fi h3 23 ≤ 97 := by
            have b3 := (m_fld i3 (i := 16) (lo := 0) (hi := 96) rfl).2
            have := ok3.1.2.2.2.2
            omega
          obtain ⟨h4, r4, s1, s2, s3, s4, s5⟩ := step_x (E := E) (V := V) (d := d + 7) 2 38 i3 hl3 ok3.1.2.2.2.2.2
          obtain ⟨ok4, f4, n4⟩ := ok_two hp ok1 f1 k18 n2 ok3 f3 (c := 38) (h4 := h4) ⟨s1, s2, s3, s4, s5⟩ (by decide)
          obtain ⟨r, h', q, w⟩ := ih (97 - fi h4 16).toNat (by have b4 := (m_fld s1 (i := 16) (lo := 0) (hi := 96) rfl).2; omega) h4 rfl ok4 f4
          refine ⟨r, h', pre _ ?_, w⟩
          refine RA.if1T rfl rfl ?_
          refine RA.steps 3 rfl ?_
          refine call110 rfl rfl rfl rfl i3 rfl (Nat.le_of_ble_eq_true rfl) r4 ?_
          exact RA.steps 1 rfl q
      · rw [if_neg e1] at s1
        refine ⟨1, h1, ?_, ok1.1.1, f1, Or.inr ⟨rfl, ok1⟩⟩
        refine RA.steps 2 rfl ?_
        refine call110 rfl rfl rfl rfl ok1.1.1 rfl (Nat.le_of_ble_eq_true rfl) s1 ?_
        refine RA.if1T rfl rfl ?_
        refine RA.steps 1 rfl ?_
        exact RA.ret rfl rfl
  obtain ⟨r1, h1, q1, i1, f1, ok1⟩ := hY (97 - fi h 16).toNat hm (d + 8) h key hk hp (Nat.le_refl _) (by push_cast at hd ⊢; omega)
  have st : ∀ r h', RA prog E V (d + 9) mX8_both 3 [some (.ref 110), some (.int key)] [.int r1] h1 (some (.int r), h', 0, 0) → Run prog E V (d + 9) mX8_both [.ref 110, .int key] h (some (.int r), h', 0, 0) := by
    intro r h' k
    refine ⟨Nat.le_of_ble_eq_true rfl, ⟨_, _, rfl⟩, ?_⟩
    refine RA.steps 2 rfl ?_
    exact call110 rfl rfl rfl rfl hp.1 rfl (Nat.le_of_ble_eq_true rfl) q1 k
  rcases ok1 with rfl | ⟨rfl, ok1⟩
  · refine ⟨0, h1, st _ _ ?_, i1, f1, Or.inl rfl⟩
    refine RA.if1F rfl rfl ?_
    refine RA.steps 1 rfl ?_
    exact RA.ret rfl rfl
  · obtain ⟨r, h', q, w⟩ := loop (97 - fi h1 16).toNat h1 rfl ok1 f1
    exact ⟨r, h', st _ _ (RA.if1T rfl rfl q), w⟩
theorem gm_either {m : Nat} (hY : ∀ m' ≤ m, GC E V mX8_both 4 m') : GC E V mX8_either 5 m := by
  intro d0 h key hk hp hm hd
  obtain ⟨d, rfl⟩ : ∃ d', d0 = d' + 9 := ⟨d0 - 9, by
    have r21 := (m_fld hp.1 (i := 21) (lo := 0) (hi := 8) rfl).2
    have r22 := (m_fld hp.1 (i := 22) (lo := 0) (hi := 8) rfl).2
    omega⟩
  have loop : ∀ (M : Nat) (h1 : List pC), (97 - fi h1 16).toNat = M → OKP h h1 → FrP h h1 → ∃ (r : Int32) (h' : List pC), RA prog E V (d + 9) mX8_either 6 [some (.ref 110), some (.int key)] [] h1 (some (.int r), h', 0, 0) ∧ HI HT h' ∧ FrP h h' ∧ (r = 0 ∨ (r = 1 ∧ OKP h h')) := by
    intro M
    induction M using Nat.strongRecOn with
    | _ M ih =>
      intro h1 hM ok1 f1
      have s1 := isSign_x (E := E) (V := V) (d := d + 7) 124 ok1.1.1
      by_cases e1 : ri h1 110 18 = 3 ∧ ri h1 110 20 = 124
      · rw [if_pos e1] at s1
        have k18 : fi h1 18 ≠ 0 := by unfold fi; rw [e1.1]; decide
        obtain ⟨h2, r2, n2⟩ := next_x (E := E) (V := V) (d := d) ok1.1.1 ok1.1.2.2.1
        obtain ⟨i2, f2, n21, n22, n23, n16, n18, -⟩ := nt_in ok1.1 n2
        have n18 := n18 k18
        have z1 := ok1.2.1
        have z2 := ok1.2.2.1
        have z3 := ok1.2.2.2.1
        obtain ⟨r3, h3, q3, i3, f3, ok3⟩ := hY (97 - fi h2 16).toNat (by omega) (d + 8) h2 key hk i2 (Nat.le_refl _) (by push_cast at hd ⊢; omega)
        have pre : ∀ res, RA prog E V (d + 9) mX8_either 15 [some (.ref 110), some (.int key)] [.int r3] h3 res → RA prog E V (d + 9) mX8_either 6 [some (.ref 110), some (.int key)] [] h1 res := by
          intro res k
          refine RA.steps 2 rfl ?_
          refine call110 rfl rfl rfl rfl ok1.1.1 rfl (Nat.le_of_ble_eq_true rfl) s1 ?_
          refine RA.if1F rfl rfl ?_
          refine RA.steps 1 rfl ?_
          refine call110 rfl rfl rfl rfl ok1.1.1 rfl (Nat.le_of_ble_eq_true rfl) r2 ?_
          refine RA.steps 2 rfl ?_
          exact call110 rfl rfl rfl rfl i2.1 rfl (Nat.le_of_ble_eq_true rfl) q3 k
        rcases ok3 with rfl | ⟨rfl, ok3⟩
        · refine ⟨0, h3, pre _ ?_, i3, (f1.tr f2 ok1.2.2.2.2.1).tr f3 (by have := ok1.2.2.2.2.1; omega), Or.inl rfl⟩
          refine RA.if1F rfl rfl ?_
          refine RA.steps 1 rfl ?_
          exact RA.ret rfl rfl
        · have hl3 : fi h3 23 ≤ 97 := by
            have b3 := (m_fld i3 (i := 16) (lo := 0) (hi := 96) rfl).2
            have := ok3.1.2.2.2.2
            omega
          obtain ⟨h4, r4, s1, s2, s3, s4, s5⟩ := step_x (E := E) (V := V) (d := d + 7) 2 124 i3 hl3 ok3.1.2.2.2.2.2
          obtain ⟨ok4, f4, n4⟩ := ok_two hp ok1 f1 k18 n2 ok3 f3 (c := 124) (h4 := h4) ⟨s1, s2, s3, s4, s5⟩ (by decide)
          obtain ⟨r, h', q, w⟩ := ih (97 - fi h4 16).toNat (by have b4 := (m_fld s1 (i := 16) (lo := 0) (hi := 96) rfl).2; omega) h4 rfl ok4 f4
          refine ⟨r, h', pre _ ?_, w⟩
          refine RA.if1T rfl rfl ?_
          refine RA.steps 3 rfl ?_
          refine call110 rfl rfl rfl rfl i3 rfl (Nat.le_of_ble_eq_true rfl) r4 ?_
          exact RA.steps 1 rfl q
      · rw [if_neg e1] at s1
        refine ⟨1, h1, ?_, ok1.1.1, f1, Or.inr ⟨rfl, ok1⟩⟩
        refine RA.steps 2 rfl ?_
        refine call110 rfl rfl rfl rfl ok1.1.1 rfl (Nat.le_of_ble_eq_true rfl) s1 ?_
        refine RA.if1T rfl rfl ?_
        refine RA.steps 1 rfl ?_
        exact RA.ret rfl rfl
  obtain ⟨r1, h1, q1, i1, f1, ok1⟩ := hY (97 - fi h 16).toNat hm (d + 8) h key hk hp (Nat.le_refl _) (by push_cast at hd ⊢; omega)
  have st : ∀ r h', RA prog E V (d + 9) mX8_either 3 [some (.ref 110), some (.int key)] [.int r1] h1 (some (.int r), h', 0, 0) → Run prog E V (d + 9) mX8_either [.ref 110, .int key] h (some (.int r), h', 0, 0) := by
    intro r h' k
    refine ⟨Nat.le_of_ble_eq_true rfl, ⟨_, _, rfl⟩, ?_⟩
    refine RA.steps 2 rfl ?_
    exact call110 rfl rfl rfl rfl hp.1 rfl (Nat.le_of_ble_eq_true rfl) q1 k
  rcases ok1 with rfl | ⟨rfl, ok1⟩
  · refine ⟨0, h1, st _ _ ?_, i1, f1, Or.inl rfl⟩
    refine RA.if1F rfl rfl ?_
    refine RA.steps 1 rfl ?_
    exact RA.ret rfl rfl
  · obtain ⟨r, h', q, w⟩ := loop (97 - fi h1 16).toNat h1 rfl ok1 f1
    exact ⟨r, h', st _ _ (RA.if1T rfl rfl q), w⟩
theorem gm_test {m : Nat} (hY : ∀ m' ≤ m, GC E V mX8_sum 2 m') : GC E V mX8_test 3 m := by
  intro d0 h key hk hp hm hd
  obtain ⟨d, rfl⟩ : ∃ d', d0 = d' + 9 := ⟨d0 - 9, by
    have r21 := (m_fld hp.1 (i := 21) (lo := 0) (hi := 8) rfl).2
    have r22 := (m_fld hp.1 (i := 22) (lo := 0) (hi := 8) rfl).2
    omega⟩
  have loop : ∀ (M : Nat) (h1 : List pC) (l2 : Option Value), (97 - fi h1 16).toNat = M → OKP h h1 → FrP h h1 → ∃ (r : Int32) (h' : List pC), RA prog E V (d + 9) mX8_test 6 [some (.ref 110), some (.int key), l2] [] h1 (some (.int r), h', 0, 0) ∧ HI HT h' ∧ FrP h h' ∧ (r = 0 ∨ (r = 1 ∧ OKP h h')) := by
    intro M h1 l2 hM ok1 f1
    obtain ⟨fs, ho, -⟩ := hi_obj ok1.1.1 HTm
    obtain ⟨c20, -⟩ := m_fld ok1.1.1 (i := 20) (lo := -2147483648) (hi := 2147483647) rfl
    have go : ∀ c : Int32, (c = 60 ∨ c = 61 ∨ c = 62) → ri h1 110 18 = 3 → ri h1 110 20 = c → ∃ (r : Int32) (h' : List pC), RA prog E V (d + 9) mX8_test 18 [some (.ref 110), some (.int key), l2] [] h1 (some (.int r), h', 0, 0) ∧ HI HT h' ∧ FrP h h' ∧ (r = 0 ∨ (r = 1 ∧ OKP h h')) := by
      intro c hc h18 h20
      have k18 : fi h1 18 ≠ 0 := by unfold fi; rw [h18]; decide
      obtain ⟨h2, r2, n2⟩ := next_x (E := E) (V := V) (d := d) ok1.1.1 ok1.1.2.2.1
      obtain ⟨i2, f2, n21, n22, n23, n16, n18, -⟩ := nt_in ok1.1 n2
      have n18 := n18 k18
      have z1 := ok1.2.1
      have z2 := ok1.2.2.1
      have z3 := ok1.2.2.2.1
      obtain ⟨r3, h3, q3, i3, f3, ok3⟩ := hY (97 - fi h2 16).toNat (by omega) (d + 8) h2 key hk i2 (Nat.le_refl _) (by push_cast at hd ⊢; omega)
      have pre : ∀ res, RA prog E V (d + 9) mX8_test 26 [some (.ref 110), some (.int key), some (.int c)] [.int r3] h3 res → RA prog E V (d + 9) mX8_test 18 [some (.ref 110), some (.int key), l2] [] h1 res := by
        intro res k
        refine RA.steps 1 rfl ?_
        refine RA.getf rfl ho rfl (fld_at ho c20) ?_
        rw [h20]
        refine RA.steps 2 rfl ?_
        refine call110 rfl rfl rfl rfl ok1.1.1 rfl (Nat.le_of_ble_eq_true rfl) r2 ?_
        refine RA.steps 2 rfl ?_
        exact call110 rfl rfl rfl rfl i2.1 rfl (Nat.le_of_ble_eq_true rfl) q3 k
      rcases ok3 with rfl | ⟨rfl, ok3⟩
      · refine ⟨0, h3, pre _ ?_, i3, (f1.tr f2 ok1.2.2.2.2.1).tr f3 (by have := ok1.2.2.2.2.1; omega), Or.inl rfl⟩
        refine RA.if1F rfl rfl ?_
        refine RA.steps 1 rfl ?_
        exact RA.ret rfl rfl
      · have hl3 : fi h3 23 ≤ 97 := by
          have b3 := (m_fld i3 (i := 16) (lo := 0) (hi := 96) rfl).2
          have := ok3.1.2.2.2.2
          omega
        obtain ⟨h4, r4, s1, s2, s3, s4, s5⟩ := step_x (E := E) (V := V) (d := d + 7) 2 c i3 hl3 ok3.1.2.2.2.2.2
        obtain ⟨ok4, f4, n4⟩ := ok_two hp ok1 f1 k18 n2 ok3 f3 (c := c) (h4 := h4) ⟨s1, s2, s3, s4, s5⟩ (by rcases hc with rfl | rfl | rfl <;> decide)
        refine ⟨1, h4, pre _ ?_, s1, f4, Or.inr ⟨rfl, ok4⟩⟩
        refine RA.if1T rfl rfl ?_
        refine RA.steps 3 rfl ?_
        refine call110 rfl rfl rfl rfl i3 rfl (Nat.le_of_ble_eq_true rfl) r4 ?_
        refine RA.steps 1 rfl ?_
        exact RA.ret rfl rfl
    have s1 := isSign_x (E := E) (V := V) (d := d + 7) 60 ok1.1.1
    have s2 := isSign_x (E := E) (V := V) (d := d + 7) 61 ok1.1.1
    have s3 := isSign_x (E := E) (V := V) (d := d + 7) 62 ok1.1.1
    by_cases e1 : ri h1 110 18 = 3 ∧ ri h1 110 20 = 60
    · rw [if_pos e1] at s1
      obtain ⟨r, h', q, w⟩ := go 60 (Or.inl rfl) e1.1 e1.2
      refine ⟨r, h', ?_, w⟩
      refine RA.steps 2 rfl ?_
      refine call110 rfl rfl rfl rfl ok1.1.1 rfl (Nat.le_of_ble_eq_true rfl) s1 ?_
      exact RA.if1T rfl rfl q
    · rw [if_neg e1] at s1
      by_cases e2 : ri h1 110 18 = 3 ∧ ri h1 110 20 = 61
      · rw [if_pos e2] at s2
        obtain ⟨r, h', q, w⟩ := go 61 (Or.inr (Or.inl rfl)) e2.1 e2.2
        refine ⟨r, h', ?_, w⟩
        refine RA.steps 2 rfl ?_
        refine call110 rfl rfl rfl rfl ok1.1.1 rfl (Nat.le_of_ble_eq_true rfl) s1 ?_
        refine RA.if1F rfl rfl ?_
        refine RA.steps 2 rfl ?_
        refine call110 rfl rfl rfl rfl ok1.1.1 rfl (Nat.le_of_ble_eq_true rfl) s2 ?_
        exact RA.if1T rfl rfl q
      · rw [if_neg e2] at s2
        by_cases e3 : ri h1 110 18 = 3 ∧ ri h1 110 20 = 62
        · rw [if_pos e3] at s3
          obtain ⟨r, h', q, w⟩ := go 62 (Or.inr (Or.inr rfl)) e3.1 e3.2
          refine ⟨r, h', ?_, w⟩
          refine RA.steps 2 rfl ?_
          refine call110 rfl rfl rfl rfl ok1.1.1 rfl (Nat.le_of_ble_eq_true rfl) s1 ?_
          refine RA.if1F rfl rfl ?_
          refine RA.steps 2 rfl ?_
          refine call110 rfl rfl rfl rfl ok1.1.1 rfl (Nat.le_of_ble_eq_true rfl) s2 ?_
          refine RA.if1F rfl rfl ?_
          refine RA.steps 2 rfl ?_
          refine call110 rfl rfl rfl rfl ok1.1.1 rfl (Nat.le_of_ble_eq_true rfl) s3 ?_
          exact RA.if1F rfl rfl q
        · rw [if_neg e3] at s3
          refine ⟨1, h1, ?_, ok1.1.1, f1, Or.inr ⟨rfl, ok1⟩⟩
          refine RA.steps 2 rfl ?_
          refine call110 rfl rfl rfl rfl ok1.1.1 rfl (Nat.le_of_ble_eq_true rfl) s1 ?_
          refine RA.if1F rfl rfl ?_
          refine RA.steps 2 rfl ?_
          refine call110 rfl rfl rfl rfl ok1.1.1 rfl (Nat.le_of_ble_eq_true rfl) s2 ?_
          refine RA.if1F rfl rfl ?_
          refine RA.steps 2 rfl ?_
          refine call110 rfl rfl rfl rfl ok1.1.1 rfl (Nat.le_of_ble_eq_true rfl) s3 ?_
          refine RA.if1T rfl rfl ?_
          refine RA.steps 1 rfl ?_
          exact RA.ret rfl rfl
  obtain ⟨r1, h1, q1, i1, f1, ok1⟩ := hY (97 - fi h 16).toNat hm (d + 8) h key hk hp (Nat.le_refl _) (by push_cast at hd ⊢; omega)
  have st : ∀ r h', RA prog E V (d + 9) mX8_test 3 [some (.ref 110), some (.int key), none] [.int r1] h1 (some (.int r), h', 0, 0) → Run prog E V (d + 9) mX8_test [.ref 110, .int key] h (some (.int r), h', 0, 0) := by
    intro r h' k
    refine ⟨Nat.le_of_ble_eq_true rfl, ⟨_, _, rfl⟩, ?_⟩
    refine RA.steps 2 rfl ?_
    exact call110 rfl rfl rfl rfl hp.1 rfl (Nat.le_of_ble_eq_true rfl) q1 k
  rcases ok1 with rfl | ⟨rfl, ok1⟩
  · refine ⟨0, h1, st _ _ ?_, i1, f1, Or.inl rfl⟩
    refine RA.if1F rfl rfl ?_
    refine RA.steps 1 rfl ?_
    exact RA.ret rfl rfl
  · obtain ⟨r, h', q, w⟩ := loop (97 - fi h1 16).toNat h1 none rfl ok1 f1
    exact ⟨r, h', st _ _ (RA.if1T rfl rfl q), w⟩
end GRA
