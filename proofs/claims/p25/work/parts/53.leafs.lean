/-! ===== the reader's smaller methods: isSign, isName, isWordAt, key, step ===== -/
section LEA
variable {E : pX} {V : pV} {d : Nat} {h h' : List pC} {Post : Option Value → List pC → Prop}
theorem isSign_x (c : Int32) (hh : HI HT h) : Run prog E V (d + 1) mX8_isSign [.ref 110, .int c] h (some (.int (if ri h 110 18 = 3 ∧ ri h 110 20 = c then 1 else 0)), h, 0, 0) := by
  obtain ⟨c18, -⟩ := m_fld hh (i := 18) (lo := 0) (hi := 4) rfl
  obtain ⟨c20, -⟩ := m_fld hh (i := 20) (lo := -2147483648) (hi := 2147483647) rfl
  obtain ⟨fs, ho, -⟩ := hi_obj hh HTm
  refine ⟨Nat.le_of_ble_eq_true rfl, ⟨_, _, rfl⟩, ?_⟩
  refine RA.steps 1 rfl ?_
  refine RA.getf rfl ho rfl (fld_at ho c18) ?_
  refine RA.steps 1 rfl ?_
  by_cases h1 : ri h 110 18 = 3
  · refine RA.if2F rfl (decide_eq_false (Decidable.not_not.mpr h1)) ?_
    refine RA.steps 1 rfl ?_
    refine RA.getf rfl ho rfl (fld_at ho c20) ?_
    refine RA.steps 1 rfl ?_
    by_cases h2 : ri h 110 20 = c
    · refine RA.if2F rfl (decide_eq_false (Decidable.not_not.mpr h2)) ?_
      rw [if_pos ⟨h1, h2⟩]
      refine RA.steps 2 rfl ?_
      exact RA.ret rfl rfl
    · refine RA.if2T rfl (decide_eq_true h2) ?_
      rw [if_neg (fun q => h2 q.2)]
      refine RA.steps 1 rfl ?_
      exact RA.ret rfl rfl
  · refine RA.if2T rfl (decide_eq_true h1) ?_
    rw [if_neg (fun q => h1 q.1)]
    refine RA.steps 1 rfl ?_
    exact RA.ret rfl rfl
/-- a place of the tape -/
theorem tape_at (hh : HI HT h) : ∃ (fs : List Value) (g : Nat → Int32), pobj h 110 = some (8, fs) ∧ fs[14]? = some (.ref 124) ∧ pint h 124 = some (96, g) ∧ ∀ i, i < 96 → 0 ≤ (g i).toInt ∧ (g i).toInt ≤ 255 := by
  obtain ⟨fs, ho, hF⟩ := hi_obj hh HTm
  obtain ⟨g, p1, -, q1⟩ := hi_int (a := 124) (n := 96) (sg := [(0, 95, 0, 255)]) hh rfl
  exact ⟨fs, g, ho, hF.ref (a := 124) rfl, p1, fun i hi => q1 _ List.mem_cons_self i (Nat.zero_le _) (by show i ≤ 95; omega) hi⟩
theorem isWordAt_x (a b c e : Int32) (hh : HI HT h) (hle : fi h 17 ≤ 96) : ∃ r : Int32, (r = 0 ∨ r = 1) ∧ Run prog E V (d + 1) mX8_isWordAt [.ref 110, .int a, .int b, .int c, .int e] h (some (.int r), h, 0, 0) := by
  obtain ⟨c16, r16⟩ := m_fld hh (i := 16) (lo := 0) (hi := 96) rfl
  obtain ⟨c17, r17⟩ := m_fld hh (i := 17) (lo := 0) (hi := 96) rfl
  obtain ⟨c18, -⟩ := m_fld hh (i := 18) (lo := 0) (hi := 4) rfl
  obtain ⟨fs, g, ho, f14, p1, -⟩ := tape_at hh
  have n16 : ri h 110 16 = nI (fi h 16).toNat := toI (by omega) (by rw [Int.toNat_of_nonneg r16.1]; rfl)
  have n17 : ri h 110 17 = nI (fi h 17).toNat := toI (by omega) (by rw [Int.toNat_of_nonneg r17.1]; rfl)
  have fin : ∀ (n : Int32) (i : Nat) (r : Int32), (i = 53 ∧ r = 1) ∨ (i = 55 ∧ r = 0) → RA prog E V (d + 1) mX8_isWordAt i [some (.ref 110), some (.int a), some (.int b), some (.int c), some (.int e), some (.int n)] [] h (some (.int r), h, 0, 0) := by
    intro n i r hi
    rcases hi with ⟨rfl, rfl⟩ | ⟨rfl, rfl⟩
    · refine RA.steps 2 rfl ?_
      exact RA.ret rfl rfl
    · refine RA.steps 1 rfl ?_
      exact RA.ret rfl rfl
  have main : ∀ (n : Nat), ((n = 3 ∧ e = 0) ∨ (n = 4 ∧ ¬ e = 0)) → ∃ r : Int32, (r = 0 ∨ r = 1) ∧ RA prog E V (d + 1) mX8_isWordAt 6 [some (.ref 110), some (.int a), some (.int b), some (.int c), some (.int e), some (.int (nI n))] [] h (some (.int r), h, 0, 0) := by
    intro n hn
    by_cases h18 : ri h 110 18 = 1
    · by_cases hd : ri h 110 17 - ri h 110 16 = nI n
      · have hd2 : (fi h 16).toNat + n = (fi h 17).toNat := by
          have e1 : (ri h 110 17 - ri h 110 16).toInt = fi h 17 - fi h 16 := by
            rw [Int32.toInt_sub]
            exact bm32 (by unfold mI; unfold fi at r16 r17; omega) (by unfold MI; unfold fi at r16 r17; omega)
          rw [hd, nI_toInt (by omega)] at e1
          omega
        have pre : ∀ res, RA prog E V (d + 1) mX8_isWordAt 17 [some (.ref 110), some (.int a), some (.int b), some (.int c), some (.int e), some (.int (nI n))] [] h res → RA prog E V (d + 1) mX8_isWordAt 6 [some (.ref 110), some (.int a), some (.int b), some (.int c), some (.int e), some (.int (nI n))] [] h res := by
          intro res k
          refine RA.steps 1 rfl ?_
          refine RA.getf rfl ho rfl (fld_at ho c18) ?_
          refine RA.steps 1 rfl ?_
          refine RA.if2F rfl (decide_eq_false (Decidable.not_not.mpr h18)) ?_
          refine RA.steps 1 rfl ?_
          refine RA.getf rfl ho rfl (fld_at ho c17) ?_
          refine RA.steps 1 rfl ?_
          refine RA.getf rfl ho rfl (fld_at ho c16) ?_
          refine RA.steps (i' := 16) (L' := [some (.ref 110), some (.int a), some (.int b), some (.int c), some (.int e), some (.int (nI n))]) (st' := [.int (nI n), .int (ri h 110 17 - ri h 110 16)]) (h' := h) 2 rfl ?_
          exact RA.if2F rfl (decide_eq_false (Decidable.not_not.mpr hd)) k
        have ge : ∀ j : Nat, j < n → (fi h 16).toNat + j < 96 := fun j hj => by omega
        have ld0 : ∀ (st : List Value) res, RA prog E V (d + 1) mX8_isWordAt 22 [some (.ref 110), some (.int a), some (.int b), some (.int c), some (.int e), some (.int (nI n))] [.int (g (fi h 16).toNat)] h res → RA prog E V (d + 1) mX8_isWordAt 17 [some (.ref 110), some (.int a), some (.int b), some (.int c), some (.int e), some (.int (nI n))] [] h res := by
          intro st res k
          refine RA.steps 1 rfl ?_
          refine RA.getf rfl ho rfl f14 ?_
          refine RA.steps 1 rfl ?_
          refine RA.getf rfl ho rfl (fld_at ho c16) ?_
          rw [n16]
          refine RA.iald rfl p1 ⟨nI_pos' (by omega), by rw [nI_clamp (by omega)]; show (fi h 16).toNat < 96; omega⟩ (by rw [nI_clamp (by omega)]) ?_
          exact k
        by_cases ca : g (fi h 16).toNat = a
        · have ld1 : ∀ res, RA prog E V (d + 1) mX8_isWordAt 31 [some (.ref 110), some (.int a), some (.int b), some (.int c), some (.int e), some (.int (nI n))] [.int (g ((fi h 16).toNat + 1))] h res → RA prog E V (d + 1) mX8_isWordAt 24 [some (.ref 110), some (.int a), some (.int b), some (.int c), some (.int e), some (.int (nI n))] [] h res := by
            intro res k
            refine RA.steps 1 rfl ?_
            refine RA.getf rfl ho rfl f14 ?_
            refine RA.steps 1 rfl ?_
            refine RA.getf rfl ho rfl (fld_at ho c16) ?_
            rw [n16]
            refine RA.steps (i' := 30) (L' := [some (.ref 110), some (.int a), some (.int b), some (.int c), some (.int e), some (.int (nI n))]) (st' := [.int (nI (fi h 16).toNat + 1), .ref 124]) (h' := h) 2 rfl ?_
            rw [nI_1]
            refine RA.iald rfl p1 ⟨nI_pos' (by omega), by rw [nI_clamp (by omega)]; show (fi h 16).toNat + 1 < 96; omega⟩ (by rw [nI_clamp (by omega)]) ?_
            exact k
          have go1 : ∀ res, RA prog E V (d + 1) mX8_isWordAt 24 [some (.ref 110), some (.int a), some (.int b), some (.int c), some (.int e), some (.int (nI n))] [] h res → RA prog E V (d + 1) mX8_isWordAt 6 [some (.ref 110), some (.int a), some (.int b), some (.int c), some (.int e), some (.int (nI n))] [] h res := fun res k => pre _ (ld0 [] _ (RA.steps 1 rfl (RA.if2F rfl (decide_eq_false (Decidable.not_not.mpr ca)) k)))
          by_cases cb : g ((fi h 16).toNat + 1) = b
          · have ld2 : ∀ res, RA prog E V (d + 1) mX8_isWordAt 40 [some (.ref 110), some (.int a), some (.int b), some (.int c), some (.int e), some (.int (nI n))] [.int (g ((fi h 16).toNat + 2))] h res → RA prog E V (d + 1) mX8_isWordAt 33 [some (.ref 110), some (.int a), some (.int b), some (.int c), some (.int e), some (.int (nI n))] [] h res := by
              intro res k
              refine RA.steps 1 rfl ?_
              refine RA.getf rfl ho rfl f14 ?_
              refine RA.steps 1 rfl ?_
              refine RA.getf rfl ho rfl (fld_at ho c16) ?_
              rw [n16]
              refine RA.steps (i' := 39) (L' := [some (.ref 110), some (.int a), some (.int b), some (.int c), some (.int e), some (.int (nI n))]) (st' := [.int (nI (fi h 16).toNat + 2), .ref 124]) (h' := h) 2 rfl ?_
              rw [show nI (fi h 16).toNat + 2 = nI ((fi h 16).toNat + 2) from nI_add _ 2]
              refine RA.iald rfl p1 ⟨nI_pos' (by omega), by rw [nI_clamp (by omega)]; show (fi h 16).toNat + 2 < 96; omega⟩ (by rw [nI_clamp (by omega)]) ?_
              exact k
            have go2 : ∀ res, RA prog E V (d + 1) mX8_isWordAt 33 [some (.ref 110), some (.int a), some (.int b), some (.int c), some (.int e), some (.int (nI n))] [] h res → RA prog E V (d + 1) mX8_isWordAt 6 [some (.ref 110), some (.int a), some (.int b), some (.int c), some (.int e), some (.int (nI n))] [] h res := fun res k => go1 _ (ld1 _ (RA.steps 1 rfl (RA.if2F rfl (decide_eq_false (Decidable.not_not.mpr cb)) k)))
            by_cases cc : g ((fi h 16).toNat + 2) = c
            · have go3 : ∀ res, RA prog E V (d + 1) mX8_isWordAt 42 [some (.ref 110), some (.int a), some (.int b), some (.int c), some (.int e), some (.int (nI n))] [] h res → RA prog E V (d + 1) mX8_isWordAt 6 [some (.ref 110), some (.int a), some (.int b), some (.int c), some (.int e), some (.int (nI n))] [] h res := fun res k => go2 _ (ld2 _ (RA.steps 1 rfl (RA.if2F rfl (decide_eq_false (Decidable.not_not.mpr cc)) k)))
              by_cases ce : e = 0
              · exact ⟨1, Or.inr rfl, go3 _ (RA.steps 1 rfl (RA.if1T rfl (decide_eq_true ce) (fin _ 53 1 (Or.inl ⟨rfl, rfl⟩))))⟩
              · rcases hn with ⟨-, hn⟩ | ⟨rfl, -⟩
                · exact absurd hn ce
                · have ld3 : ∀ res, RA prog E V (d + 1) mX8_isWordAt 51 [some (.ref 110), some (.int a), some (.int b), some (.int c), some (.int e), some (.int (nI 4))] [.int (g ((fi h 16).toNat + 3))] h res → RA prog E V (d + 1) mX8_isWordAt 44 [some (.ref 110), some (.int a), some (.int b), some (.int c), some (.int e), some (.int (nI 4))] [] h res := by
                    intro res k
                    refine RA.steps 1 rfl ?_
                    refine RA.getf rfl ho rfl f14 ?_
                    refine RA.steps 1 rfl ?_
                    refine RA.getf rfl ho rfl (fld_at ho c16) ?_
                    rw [n16]
                    refine RA.steps (i' := 50) (L' := [some (.ref 110), some (.int a), some (.int b), some (.int c), some (.int e), some (.int (nI 4))]) (st' := [.int (nI (fi h 16).toNat + 3), .ref 124]) (h' := h) 2 rfl ?_
                    rw [show nI (fi h 16).toNat + 3 = nI ((fi h 16).toNat + 3) from nI_add _ 3]
                    refine RA.iald rfl p1 ⟨nI_pos' (by omega), by rw [nI_clamp (by omega)]; show (fi h 16).toNat + 3 < 96; omega⟩ (by rw [nI_clamp (by omega)]) ?_
                    exact k
                  by_cases cd : g ((fi h 16).toNat + 3) = e
                  · exact ⟨1, Or.inr rfl, go3 _ (RA.steps 1 rfl (RA.if1F rfl (decide_eq_false ce) (ld3 _ (RA.steps 1 rfl (RA.if2F rfl (decide_eq_false (Decidable.not_not.mpr cd)) (fin _ 53 1 (Or.inl ⟨rfl, rfl⟩)))))))⟩
                  · exact ⟨0, Or.inl rfl, go3 _ (RA.steps 1 rfl (RA.if1F rfl (decide_eq_false ce) (ld3 _ (RA.steps 1 rfl (RA.if2T rfl (decide_eq_true cd) (fin _ 55 0 (Or.inr ⟨rfl, rfl⟩)))))))⟩
            · exact ⟨0, Or.inl rfl, go2 _ (ld2 _ (RA.steps 1 rfl (RA.if2T rfl (decide_eq_true cc) (fin _ 55 0 (Or.inr ⟨rfl, rfl⟩)))))⟩
          · exact ⟨0, Or.inl rfl, go1 _ (ld1 _ (RA.steps 1 rfl (RA.if2T rfl (decide_eq_true cb) (fin _ 55 0 (Or.inr ⟨rfl, rfl⟩)))))⟩
        · exact ⟨0, Or.inl rfl, pre _ (ld0 [] _ (RA.steps 1 rfl (RA.if2T rfl (decide_eq_true ca) (fin _ 55 0 (Or.inr ⟨rfl, rfl⟩)))))⟩
      · refine ⟨0, Or.inl rfl, ?_⟩
        refine RA.steps 1 rfl ?_
        refine RA.getf rfl ho rfl (fld_at ho c18) ?_
        refine RA.steps 1 rfl ?_
        refine RA.if2F rfl (decide_eq_false (Decidable.not_not.mpr h18)) ?_
        refine RA.steps 1 rfl ?_
        refine RA.getf rfl ho rfl (fld_at ho c17) ?_
        refine RA.steps 1 rfl ?_
        refine RA.getf rfl ho rfl (fld_at ho c16) ?_
        refine RA.steps (i' := 16) (L' := [some (.ref 110), some (.int a), some (.int b), some (.int c), some (.int e), some (.int (nI n))]) (st' := [.int (nI n), .int (ri h 110 17 - ri h 110 16)]) (h' := h) 2 rfl ?_
        exact RA.if2T rfl (decide_eq_true hd) (fin _ 55 0 (Or.inr ⟨rfl, rfl⟩))
    · refine ⟨0, Or.inl rfl, ?_⟩
      refine RA.steps 1 rfl ?_
      refine RA.getf rfl ho rfl (fld_at ho c18) ?_
      refine RA.steps 1 rfl ?_
      exact RA.if2T rfl (decide_eq_true h18) (fin _ 55 0 (Or.inr ⟨rfl, rfl⟩))
  by_cases ce : e = 0
  · obtain ⟨r, hr, k⟩ := main 3 (Or.inl ⟨rfl, ce⟩)
    refine ⟨r, hr, Nat.le_of_ble_eq_true rfl, ⟨_, _, rfl⟩, ?_⟩
    refine RA.steps 1 rfl ?_
    refine RA.if1F rfl (decide_eq_false (Decidable.not_not.mpr ce)) ?_
    exact RA.steps 3 rfl k
  · obtain ⟨r, hr, k⟩ := main 4 (Or.inr ⟨rfl, ce⟩)
    refine ⟨r, hr, Nat.le_of_ble_eq_true rfl, ⟨_, _, rfl⟩, ?_⟩
    refine RA.steps 1 rfl ?_
    refine RA.if1T rfl (decide_eq_true ce) ?_
    exact RA.steps 2 rfl k
theorem key_x (hh : HI HT h) (hle : fi h 17 ≤ 96) : ∃ w : Int32, -1 ≤ w.toInt ∧ w.toInt ≤ 2 ∧ Run prog E V (d + 2) mX8_key [.ref 110] h (some (.int w), h, 0, 0) := by
  obtain ⟨o, ho, hc⟩ := mobj hh
  have call : ∀ (a b c e : Int32) {i : Nat} {pc n : Nat} {v : Value} {ts : List Nat} {L : pL} {res : pR} (r : Int32), (m_code mX8_key)[i]? = some (pc, .invokevirtual n, 209, 4, v, ts) → Run prog E V (d + 1) mX8_isWordAt [.ref 110, .int a, .int b, .int c, .int e] h (some (.int r), h, 0, 0) → RA prog E V (d + 2) mX8_key (i + 1) L [.int r] h res → RA prog E V (d + 2) mX8_key i L [.int e, .int c, .int b, .int a, .ref 110] h res := by
    intro a b c e i pc n v ts L res r he hr k
    exact RA.call0 he rfl (pcallV rfl rfl ho rfl hc (Nat.le_of_ble_eq_true rfl)) hr k
  obtain ⟨r1, h1, q1⟩ := isWordAt_x (E := E) (V := V) (d := d) 103 97 105 110 hh hle
  obtain ⟨r2, h2, q2⟩ := isWordAt_x (E := E) (V := V) (d := d) 102 101 101 0 hh hle
  obtain ⟨r3, h3, q3⟩ := isWordAt_x (E := E) (V := V) (d := d) 102 105 110 101 hh hle
  have st : ∀ w : Int32, RA prog E V (d + 2) mX8_key 0 (pent 1 [.ref 110]) [] h (some (.int w), h, 0, 0) → Run prog E V (d + 2) mX8_key [.ref 110] h (some (.int w), h, 0, 0) := fun w k => ⟨Nat.le_of_ble_eq_true rfl, ⟨_, _, rfl⟩, k⟩
  rcases h1 with rfl | rfl
  · rcases h2 with rfl | rfl
    · rcases h3 with rfl | rfl
      · refine ⟨-1, by decide, by decide, st _ ?_⟩
        refine RA.steps 5 rfl ?_
        refine call 103 97 105 110 0 rfl q1 ?_
        refine RA.if1T rfl rfl ?_
        refine RA.steps 5 rfl ?_
        refine call 102 101 101 0 0 rfl q2 ?_
        refine RA.if1T rfl rfl ?_
        refine RA.steps 5 rfl ?_
        refine call 102 105 110 101 0 rfl q3 ?_
        refine RA.if1T rfl rfl ?_
        refine RA.steps 1 rfl ?_
        exact RA.ret rfl rfl
      · refine ⟨2, by decide, by decide, st _ ?_⟩
        refine RA.steps 5 rfl ?_
        refine call 103 97 105 110 0 rfl q1 ?_
        refine RA.if1T rfl rfl ?_
        refine RA.steps 5 rfl ?_
        refine call 102 101 101 0 0 rfl q2 ?_
        refine RA.if1T rfl rfl ?_
        refine RA.steps 5 rfl ?_
        refine call 102 105 110 101 1 rfl q3 ?_
        refine RA.if1F rfl rfl ?_
        refine RA.steps 2 rfl ?_
        exact RA.ret rfl rfl
    · refine ⟨1, by decide, by decide, st _ ?_⟩
      refine RA.steps 5 rfl ?_
      refine call 103 97 105 110 0 rfl q1 ?_
      refine RA.if1T rfl rfl ?_
      refine RA.steps 5 rfl ?_
      refine call 102 101 101 0 1 rfl q2 ?_
      refine RA.if1F rfl rfl ?_
      refine RA.steps 1 rfl ?_
      exact RA.ret rfl rfl
  · refine ⟨0, by decide, by decide, st _ ?_⟩
    refine RA.steps 5 rfl ?_
    refine call 103 97 105 110 1 rfl q1 ?_
    refine RA.if1F rfl rfl ?_
    refine RA.steps 1 rfl ?_
    exact RA.ret rfl rfl
/-- a step of a text is laid: two ints in the row, one more -/
theorem step_x (what v : Int32) (hh : HI HT h) (hl : fi h 23 ≤ 97) (h79 : 79 ≤ fi h 24) : ∃ h', Run prog E V (d + 1) mX8_step [.ref 110, .int what, .int v] h (none, h', 0, 0) ∧ HI HT h' ∧ (∀ a i, ¬ (a = 110 ∧ i = 23) → ¬ (a = 111 ∧ (i = (fi h 24 + 2 * fi h 23).toNat ∨ i = (fi h 24 + 2 * fi h 23).toNat + 1)) → ct h' a i = ct h a i) ∧ ri h' 111 (fi h 24 + 2 * fi h 23).toNat = what ∧ ri h' 111 ((fi h 24 + 2 * fi h 23).toNat + 1) = v ∧ fi h' 23 = fi h 23 + 1 := by
  obtain ⟨c23, r23⟩ := m_fld hh (i := 23) (lo := 0) (hi := 98) rfl
  obtain ⟨c24, r24⟩ := m_fld hh (i := 24) (lo := 0) (hi := 2875) rfl
  have r24 : 79 ≤ fi h 24 ∧ fi h 24 ≤ 2875 := ⟨h79, r24.2⟩
  obtain ⟨fs, ho, hF⟩ := hi_obj hh HTm
  obtain ⟨f, p1, u1, s1⟩ := hi_int hh HT111
  have f0 : fs[0]? = some (.ref 111) := hF.ref rfl
  have n23 : ri h 110 23 = nI (fi h 23).toNat := toI (by omega) (by rw [Int.toNat_of_nonneg r23.1]; rfl)
  have n24 : ri h 110 24 = nI (fi h 24).toNat := toI (by omega) (by rw [Int.toNat_of_nonneg (by omega)]; rfl)
  have ep : (fi h 24 + 2 * fi h 23).toNat = (fi h 24).toNat + 2 * (fi h 23).toNat := by omega
  rw [ep]
  revert n23 n24 r23 r24 hl
  generalize hb : (fi h 24).toNat = b
  generalize hl' : (fi h 23).toNat = l
  intro hl r23 r24 n23 n24
  have hp : b + 2 * l + 1 < 3075 := by omega
  have hp0 : 79 ≤ b + 2 * l := by omega
  have fit : ∀ (h : List pC) (j : Nat) (w : Int32), HI HT h → 79 ≤ j → j < 3075 → HI HT (wrC h 111 j w) ∧ ct (wrC h 111 j w) 111 j = some (.int w) := by
    intro h j w hh h79 hj
    obtain ⟨k1, k2, -⟩ := wrC_self (a := 111) (i := j) (v := w) (k := 0) (lo := (j : Int)) (hi := (j : Int)) (p := (w.toInt, w.toInt)) hh (by
      unfold fitsT
      rw [HT111]
      dsimp only
      simp only [Bool.and_eq_true, decide_eq_true_eq, List.all_eq_true, Bool.or_eq_true]
      refine ⟨⟨⟨trivial, by omega⟩, by omega⟩, fun s hs => Or.inl (Or.inr ?_)⟩
      have h74 : ∀ s ∈ ((HT.getD 112 (.inl (0, []))).elim (fun t => t.2) (fun _ => []) : List (Nat × Nat × Int × Int)), s.2.1 ≤ 74 := by decide
      have := h74 s hs
      omega) (Int.le_refl _) (Int.le_refl _) ⟨Int.le_refl _, Int.le_refl _⟩
    exact ⟨k1, k2⟩
  obtain ⟨a1, a2⟩ := fit h (b + 2 * l) what hh hp0 (by omega)
  obtain ⟨b1, b2⟩ := fit (wrC h 111 (b + 2 * l) what) (b + 2 * l + 1) v a1 (by omega) hp
  have w1 : wrC h 111 (b + 2 * l) what = h.set 111 (.inl (3075, va_up f (b + 2 * l) what)) := by
    unfold wrC
    rw [pint_at p1]
  have w2 : wrC (wrC h 111 (b + 2 * l) what) 111 (b + 2 * l + 1) v = h.set 111 (.inl (3075, va_up (va_up f (b + 2 * l) what) (b + 2 * l + 1) v)) := by
    unfold wrC
    rw [pint_at p1]
    dsimp only
    rw [List.getElem?_set_self (pint_lt p1)]
    dsimp only
    rw [List.set_set]
  have ho2 : pobj (h.set 111 (.inl (3075, va_up (va_up f (b + 2 * l) what) (b + 2 * l + 1) v))) 110 = some (8, fs) := (pobj_ne (by decide)).trans ho
  have e1 : (nI l + 1 : Int32).toInt = fi h 23 + 1 := by
    rw [nI_1, nI_toInt (by omega)]
    omega
  obtain ⟨k1, k2, -⟩ := wrC_self (a := 110) (i := 23) (v := nI l + 1) (k := 10) (lo := 23) (hi := 23) (p := ((nI l + 1 : Int32).toInt, (nI l + 1 : Int32).toInt)) b1 (by
    unfold fitsT
    rw [HTm]
    dsimp only
    simp only [Bool.and_eq_true, decide_eq_true_eq]
    refine ⟨⟨⟨by decide, by decide⟩, by trivial⟩, ?_⟩
    rw [show MX[Int.toNat 23]? = some (0, 0, 98, 0) from rfl]
    dsimp only
    simp only [Bool.and_eq_true, decide_eq_true_eq]
    exact ⟨⟨trivial, by omega⟩, by omega⟩) (Int.le_refl _) (Int.le_refl _) ⟨Int.le_refl _, Int.le_refl _⟩
  have w3 : wrC (wrC (wrC h 111 (b + 2 * l) what) 111 (b + 2 * l + 1) v) 110 23 (nI l + 1) = (h.set 111 (.inl (3075, va_up (va_up f (b + 2 * l) what) (b + 2 * l + 1) v))).set 110 (.inr (.inr (8, fs.set 23 (.int (nI l + 1))))) := by
    rw [w2]
    unfold wrC
    rw [pobj_at ho2]
  have i1 : (nI b + 2 * nI l : Int32) = nI (b + 2 * l) := by rw [show (2 : Int32) = nI 2 from rfl, nI_mul, nI_add]
  refine ⟨_, ⟨Nat.le_of_ble_eq_true rfl, ⟨_, _, rfl⟩, ?_⟩, k1, fun a i n1 n2 => ?_, ?_, ?_, ?_⟩
  · rw [w3]
    refine RA.steps 1 rfl ?_
    refine RA.getf rfl ho rfl f0 ?_
    refine RA.steps 1 rfl ?_
    refine RA.getf rfl ho rfl (fld_at ho c24) ?_
    refine RA.steps 2 rfl ?_
    refine RA.getf rfl ho rfl (fld_at ho c23) ?_
    rw [n23, n24]
    refine RA.steps (i' := 10) (L' := [some (.ref 110), some (.int what), some (.int v)]) (st' := [.int what, .int (nI b + 2 * nI l), .ref 111]) (h' := h) 3 rfl ?_
    rw [i1]
    refine RA.iast rfl p1 ⟨nI_pos' (by omega), by rw [nI_clamp (by omega)]; show b + 2 * l < 3075; omega⟩ ?_
    rw [nI_clamp (by omega)]
    have ho1 : pobj (h.set 111 (.inl (3075, va_up f (b + 2 * l) what))) 110 = some (8, fs) := (pobj_ne (by decide)).trans ho
    have p2 : pint (h.set 111 (.inl (3075, va_up f (b + 2 * l) what))) 111 = some (3075, va_up f (b + 2 * l) what) := pint_set (pint_lt p1)
    refine RA.steps 1 rfl ?_
    refine RA.getf rfl ho1 rfl f0 ?_
    refine RA.steps 1 rfl ?_
    refine RA.getf rfl ho1 rfl (fld_at ho c24) ?_
    refine RA.steps 2 rfl ?_
    refine RA.getf rfl ho1 rfl (fld_at ho c23) ?_
    rw [n23, n24]
    refine RA.steps (i' := 23) (L' := [some (.ref 110), some (.int what), some (.int v)]) (st' := [.int v, .int (nI b + 2 * nI l + 1), .ref 111]) (h' := h.set 111 (.inl (3075, va_up f (b + 2 * l) what))) 5 rfl ?_
    rw [i1, nI_1]
    refine RA.iast rfl p2 ⟨nI_pos' (by omega), by rw [nI_clamp (by omega)]; show b + 2 * l + 1 < 3075; omega⟩ ?_
    rw [nI_clamp (by omega), List.set_set]
    refine RA.steps 2 rfl ?_
    refine RA.getf rfl ho2 rfl (fld_at ho c23) ?_
    rw [n23]
    refine RA.steps (i' := 29) (L' := [some (.ref 110), some (.int what), some (.int v)]) (st' := [.int (nI l + 1), .ref 110]) (h' := h.set 111 (.inl (3075, va_up (va_up f (b + 2 * l) what) (b + 2 * l + 1) v))) 2 rfl ?_
    refine RA.putf rfl ho2 rfl rfl ?_
    exact RA.ret rfl rfl
  · rw [wrC_ct n1, wrC_ct (fun q => n2 ⟨q.1, Or.inr q.2⟩), wrC_ct (fun q => n2 ⟨q.1, Or.inl q.2⟩)]
  · unfold ri
    rw [wrC_ct (by omega), wrC_ct (by omega), a2]
  · unfold ri
    rw [wrC_ct (by omega), b2]
  · unfold fi ri
    rw [k2]
    exact e1
end LEA
