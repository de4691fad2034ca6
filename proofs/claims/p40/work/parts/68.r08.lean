/-! ===== item ===== -/
section ITM
variable {E : pX} {h : List pC}
theorem slots_at (hh : HI HT h) : ∃ x : Nat × Nat × (Nat → Option Nat), h[80]? = some (.inr (.inl x)) ∧ x.2.1 = 5 ∧ ∀ k : Nat, k < 5 → x.2.2 k = some (90 + 4 * k) := by
  obtain ⟨c, hc, hy⟩ := hh.2 80 (.inr (.inl (5, 5, fun i => ([90, 94, 98, 102, 106] : List Nat)[i]?))) rfl
  rcases c with x | x | x
  · exact hy.elim
  · obtain ⟨q1, q2, q3⟩ : x.1 = 5 ∧ x.2.1 = 5 ∧ ∀ i : Nat, i < 5 → x.2.2 i = ([90, 94, 98, 102, 106] : List Nat)[i]? := hy
    refine ⟨x, hc, q2, fun k hk => ?_⟩
    rw [q3 k hk]
    match k, hk with
    | 0, _ => rfl
    | 1, _ => rfl
    | 2, _ => rfl
    | 3, _ => rfl
    | 4, _ => rfl
  · exact hy.elim
theorem slotOf_x {d u : Nat} (hh : HI HT h) (hu : u < 5) : Run prog E pV1 (d + 1) mX7_slotOf [.ref 0, .int (nI u)] h (some (.ref (90 + 4 * u)), h, 0, 0) := by
  obtain ⟨fs, ho, hF⟩ := hi_obj hh (a := 0) rfl
  obtain ⟨x, hc, hx4, hx⟩ := slots_at hh
  refine ⟨Nat.le_of_ble_eq_true rfl, ⟨_, _, rfl⟩, ?_⟩
  show RA prog E pV1 (d + 1) mX7_slotOf 0 [some (.ref 0), some (.int (nI u))] [] h (some (.ref (90 + 4 * u)), h, 0, 0)
  refine RA.steps (i' := 1) (L' := [some (.ref 0), some (.int (nI u))]) (st' := [.int (nI u)]) (h' := h) 1 rfl ?_
  refine RA.if1F rfl (decide_eq_false (Int32.not_lt.mpr (nI_cl (by omega)).1)) ?_
  refine RA.steps (i' := 4) (L' := [some (.ref 0), some (.int (nI u))]) (st' := [.ref 0, .int (nI u)]) (h' := h) 2 rfl ?_
  refine RA.getf rfl ho rfl (hF.ref (k := 6) rfl) ?_
  refine RA.alenR rfl hc hx4 ?_
  refine RA.if2F rfl (decide_eq_false (Int32.not_le.mpr (nI_lt hu (by decide)))) ?_
  refine RA.steps (i' := 8) (L' := [some (.ref 0), some (.int (nI u))]) (st' := [.ref 0]) (h' := h) 1 rfl ?_
  refine RA.getf rfl ho rfl (hF.ref (k := 6) rfl) ?_
  refine RA.steps (i' := 10) (L' := [some (.ref 0), some (.int (nI u))]) (st' := [.int (nI u), .ref 80]) (h' := h) 1 rfl ?_
  refine RA.aald rfl hc ⟨(nI_cl (by omega)).1, by rw [(nI_cl (by omega)).2, hx4]; exact hu⟩ (by rw [(nI_cl (by omega)).2]; exact hx u hu) ?_
  refine RA.steps (i' := 13) (L' := [some (.ref 0), some (.int (nI u))]) (st' := [.ref (90 + 4 * u)]) (h' := h) 1 rfl ?_
  exact RA.ret rfl rfl
theorem slotOf_n {d : Nat} {x : Int32} (hh : HI HT h) (hn : x.toInt < 0 ∨ 5 ≤ x.toInt) : Run prog E pV1 (d + 1) mX7_slotOf [.ref 0, .int x] h (some .null, h, 0, 0) := by
  obtain ⟨fs, ho, hF⟩ := hi_obj hh (a := 0) rfl
  obtain ⟨xx, hc, hx4, -⟩ := slots_at hh
  refine ⟨Nat.le_of_ble_eq_true rfl, ⟨_, _, rfl⟩, ?_⟩
  show RA prog E pV1 (d + 1) mX7_slotOf 0 [some (.ref 0), some (.int x)] [] h (some .null, h, 0, 0)
  by_cases c : x < 0
  · skip
    refine RA.steps (i' := 1) (L' := [some (.ref 0), some (.int x)]) (st' := [.int x]) (h' := h) 1 rfl ?_
    refine RA.if1T rfl (decide_eq_true c) ?_
    refine RA.steps (i' := 13) (L' := [some (.ref 0), some (.int x)]) (st' := [.null]) (h' := h) 1 rfl ?_
    exact RA.ret rfl rfl
  · have c' : ¬ x.toInt < 0 := fun q => c (Int32.lt_iff_toInt_lt.mpr q)
    have hx5 : nI 5 ≤ x := Int32.le_iff_toInt_le.mpr (by rw [nI_toInt (by decide)]; omega)
    refine RA.steps (i' := 1) (L' := [some (.ref 0), some (.int x)]) (st' := [.int x]) (h' := h) 1 rfl ?_
    refine RA.if1F rfl (decide_eq_false c) ?_
    refine RA.steps (i' := 4) (L' := [some (.ref 0), some (.int x)]) (st' := [.ref 0, .int x]) (h' := h) 2 rfl ?_
    refine RA.getf rfl ho rfl (hF.ref (k := 6) rfl) ?_
    refine RA.alenR rfl hc hx4 ?_
    refine RA.if2T rfl (decide_eq_true hx5) ?_
    refine RA.steps (i' := 13) (L' := [some (.ref 0), some (.int x)]) (st' := [.null]) (h' := h) 1 rfl ?_
    exact RA.ret rfl rfl
theorem isSl_t {d : Nat} {x : Int32} (H : (0 : Int32) ≤ x ∧ x ≤ 4) : Run prog E pV1 (d + 2) mX8_isSlot [.int x] h (some (.int 1), h, 0, 0) := by
  refine ⟨Nat.le_of_ble_eq_true rfl, ⟨_, _, rfl⟩, ?_⟩
  show RA prog E pV1 (d + 2) mX8_isSlot 0 [some (.int x)] [] h (some (.int 1), h, 0, 0)
  refine RA.steps (i' := 4) (L' := [some (.int x)]) (st' := [.long (Int32.toInt64 4), .long (Int32.toInt64 0), .long x.toInt64]) (h' := h) 4 rfl ?_
  refine RA.call0 (N := mX8_isIn) (as := [.long x.toInt64, .long (Int32.toInt64 0), .long (Int32.toInt64 4)]) (rest := []) rfl rfl rfl (isIn_t H) ?_
  exact RA.ret rfl rfl
theorem isSl_f {d : Nat} {x : Int32} (H : ¬ ((0 : Int32) ≤ x ∧ x ≤ 4)) : Run prog E pV1 (d + 2) mX8_isSlot [.int x] h (some (.int 0), h, 0, 0) := by
  refine ⟨Nat.le_of_ble_eq_true rfl, ⟨_, _, rfl⟩, ?_⟩
  show RA prog E pV1 (d + 2) mX8_isSlot 0 [some (.int x)] [] h (some (.int 0), h, 0, 0)
  refine RA.steps (i' := 4) (L' := [some (.int x)]) (st' := [.long (Int32.toInt64 4), .long (Int32.toInt64 0), .long x.toInt64]) (h' := h) 4 rfl ?_
  refine RA.call0 (N := mX8_isIn) (as := [.long x.toInt64, .long (Int32.toInt64 0), .long (Int32.toInt64 4)]) (rest := []) rfl rfl rfl (isIn_f H) ?_
  exact RA.ret rfl rfl
theorem has_n {d a l : Nat} {x : Int32} {fs : List Value} (ho : pobj h a = some (3, fs)) (r2 : fs[2]? = some (.int (nI l))) (hl : l ≤ 24) (hn : ¬ (0 ≤ x.toInt ∧ x.toInt < l)) : Run prog E pV1 (d + 1) mX3_has [.ref a, .int x] h (some (.int 0), h, 0, 0) := by
  refine ⟨Nat.le_of_ble_eq_true rfl, ⟨_, _, rfl⟩, ?_⟩
  show RA prog E pV1 (d + 1) mX3_has 0 [some (.ref a), some (.int x)] [] h (some (.int 0), h, 0, 0)
  by_cases c : x < 0
  · skip
    refine RA.steps (i' := 1) (L' := [some (.ref a), some (.int x)]) (st' := [.int x]) (h' := h) 1 rfl ?_
    refine RA.if1T rfl (decide_eq_true c) ?_
    refine RA.steps (i' := 9) (L' := [some (.ref a), some (.int x)]) (st' := [.int 0]) (h' := h) 1 rfl ?_
    exact RA.ret rfl rfl
  · have c' : ¬ x.toInt < 0 := fun q => c (Int32.lt_iff_toInt_lt.mpr q)
    have hx5 : nI l ≤ x := Int32.le_iff_toInt_le.mpr (by rw [nI_toInt (by omega)]; omega)
    refine RA.steps (i' := 1) (L' := [some (.ref a), some (.int x)]) (st' := [.int x]) (h' := h) 1 rfl ?_
    refine RA.if1F rfl (decide_eq_false c) ?_
    refine RA.steps (i' := 4) (L' := [some (.ref a), some (.int x)]) (st' := [.ref a, .int x]) (h' := h) 2 rfl ?_
    refine RA.getf rfl ho rfl r2 ?_
    refine RA.if2T rfl (decide_eq_true hx5) ?_
    refine RA.steps (i' := 9) (L' := [some (.ref a), some (.int x)]) (st' := [.int 0]) (h' := h) 1 rfl ?_
    exact RA.ret rfl rfl
theorem slot_obj (hh : HI HT h) : ∀ u : Nat, u < 5 → (∃ fs : List Value, pobj h (90 + 4 * u) = some (5, fs) ∧ fs[1]? = some (.ref (92 + 4 * u)) ∧ fs[2]? = some (.int (ri h (90 + 4 * u) 2))) ∧ (∃ fs : List Value, pobj h (92 + 4 * u) = some (3, fs) ∧ fs[0]? = some (.ref (93 + 4 * u)) ∧ fs[2]? = some (.int (ri h (92 + 4 * u) 2))) ∧ (∃ V : Nat → Int32, pint h (93 + 4 * u) = some (24, V) ∧ ∀ j : Nat, j < 24 → ri h (93 + 4 * u) j = V j) ∧ 0 ≤ (ri h 120 u).toInt ∧ (ri h 120 u).toInt ≤ 24 := by
  have one : ∀ (a b c e : Nat) (xs ys : List AV), HT[a]? = some (.inr (.inr (5, xs))) → xs[1]? = some (5, 0, 0, b) → elT HT 7 a 2 2 = some (.inl (-2147483648, 2147483647)) → HT[b]? = some (.inr (.inr (3, ys))) → ys[0]? = some (5, 0, 0, c) → elT HT 5 b 2 2 = some (.inl (-2147483648, 2147483647)) → HT[c]? = some (.inl (24, [])) → elT HT 0 120 e e = some (.inl (0, 24)) → (∃ fs : List Value, pobj h a = some (5, fs) ∧ fs[1]? = some (.ref b) ∧ fs[2]? = some (.int (ri h a 2))) ∧ (∃ fs : List Value, pobj h b = some (3, fs) ∧ fs[0]? = some (.ref c) ∧ fs[2]? = some (.int (ri h b 2))) ∧ (∃ V : Nat → Int32, pint h c = some (24, V) ∧ ∀ j : Nat, j < 24 → ri h c j = V j) ∧ 0 ≤ (ri h 120 e).toInt ∧ (ri h 120 e).toInt ≤ 24 := fun a b c e xs ys h1 h2 h3 h4 h5 h6 h7 h8 => by
    obtain ⟨fs, ho, hF⟩ := hi_obj hh h1
    obtain ⟨gs, go, hG⟩ := hi_obj hh h4
    obtain ⟨f, p, u, -⟩ := hi_int hh h7
    have c1 := (ri_ty hh h3).1
    have c2 := (ri_ty hh h6).1
    unfold ct at c1 c2
    rw [pobj_at ho] at c1
    rw [pobj_at go] at c2
    exact ⟨⟨fs, ho, hF.ref (k := 1) h2, c1⟩, ⟨gs, go, hG.ref (k := 0) h5, c2⟩, ⟨f, p, u⟩, (ri_ty hh h8).2⟩
  intro u hu
  match u, hu with
  | 0, _ => exact one 90 92 93 0 _ _ rfl rfl rfl rfl rfl rfl rfl rfl
  | 1, _ => exact one 94 96 97 1 _ _ rfl rfl rfl rfl rfl rfl rfl rfl
  | 2, _ => exact one 98 100 101 2 _ _ rfl rfl rfl rfl rfl rfl rfl rfl
  | 3, _ => exact one 102 104 105 3 _ _ rfl rfl rfl rfl rfl rfl rfl rfl
  | 4, _ => exact one 106 108 109 4 _ _ rfl rfl rfl rfl rfl rfl rfl rfl
theorem eAd5 {u p : Nat} (hu : u < 5) : (24 * nI u + nI p : Int32) = nI (24 * u + p) := by
  have _ := hu
  rw [show (24 : Int32) = nI 24 by decide +kernel, nI_mul, nI_add]
theorem item_both (x1 x2 : Int32) (hh : HI HT h) (hr : ∀ u : Nat, u < 5 → ri h (90 + 4 * u) 2 = ri h 117 u ∧ ri h (92 + 4 * u) 2 = ri h 120 u) (hv : ∀ u i : Nat, u < 5 → i < 24 → ri h (93 + 4 * u) i = ri h 121 (24 * u + i)) : ∃ v : Int32, Run prog E pV1 120 mX7_item [.ref 0, .int x1, .int x2] h (some (.int v), h, 0, 0) ∧ Run prog E pV1 120 mX8_item [.ref 110, .int x1, .int x2] h (some (.int v), h, 0, 0) := by
  have t0 : (0 : Int32).toInt = 0 := by decide
  have t4 : (4 : Int32).toInt = 4 := by decide
  obtain ⟨fs0, ho0, hF0⟩ := hi_obj hh (a := 0) rfl
  obtain ⟨fs8, ho8, hF8⟩ := hi_obj hh (a := 110) rfl
  obtain ⟨gS_, pS, uS, -⟩ := hi_int (a := 117) (n := 5) (sg := [(0, 4, 0, 3)]) hh rfl
  obtain ⟨gZ_, pZ, uZ, -⟩ := hi_int (a := 120) (n := 5) (sg := [(0, 4, 0, 24)]) hh rfl
  obtain ⟨T, pT, uT, -⟩ := hi_int (a := 121) (n := 120) (sg := []) hh rfl
  by_cases hn : x1.toInt < 0 ∨ 5 ≤ x1.toInt
  · have hs : ¬ ((0 : Int32) ≤ x1 ∧ x1 ≤ 4) := fun q => by
      have q1 := Int32.le_iff_toInt_le.mp q.1
      have q2 := Int32.le_iff_toInt_le.mp q.2
      omega
    refine ⟨-1000000001, ⟨Nat.le_of_ble_eq_true rfl, ⟨_, _, rfl⟩, ?_⟩, ⟨Nat.le_of_ble_eq_true rfl, ⟨_, _, rfl⟩, ?_⟩⟩
    · show RA prog E pV1 120 mX7_item 0 [some (.ref 0), some (.int x1), some (.int x2), none, none] [] h (some (.int (-1000000001)), h, 0, 0)
      refine RA.steps (i' := 2) (L' := [some (.ref 0), some (.int x1), some (.int x2), none, none]) (st' := [.int x1, .ref 0]) (h' := h) 2 rfl ?_
      refine RA.call0 (N := mX7_slotOf) (as := [.ref 0, .int x1]) (rest := []) rfl rfl (pcallV rfl rfl ho0 rfl rfl (Nat.le_of_ble_eq_true rfl)) (slotOf_n (d := 118) hh hn) ?_
      refine RA.steps (i' := 7) (L' := [some (.ref 0), some (.int x1), some (.int x2), some (.null), none]) (st' := [.int (-1000000001)]) (h' := h) 4 rfl ?_
      exact RA.ret rfl rfl
    · show RA prog E pV1 120 mX8_item 0 [some (.ref 110), some (.int x1), some (.int x2), none] [] h (some (.int (-1000000001)), h, 0, 0)
      refine RA.steps (i' := 1) (L' := [some (.ref 110), some (.int x1), some (.int x2), none]) (st' := [.int x1]) (h' := h) 1 rfl ?_
      refine RA.call0 (N := mX8_isSlot) (as := [.int x1]) (rest := []) rfl rfl rfl (isSl_f (d := 117) hs) ?_
      refine RA.if1F rfl rfl ?_
      refine RA.steps (i' := 4) (L' := [some (.ref 110), some (.int x1), some (.int x2), none]) (st' := [.int (-1000000001)]) (h' := h) 1 rfl ?_
      exact RA.ret rfl rfl
  obtain ⟨u, rfl, hu0⟩ := nIof (x := x1) (by omega) (by omega)
  have hu : u < 5 := by omega
  have hs : (0 : Int32) ≤ nI u ∧ nI u ≤ 4 := ⟨(nI_cl (by omega)).1, Int32.le_iff_toInt_le.mpr (by omega)⟩
  obtain ⟨e2, el0⟩ := hr u hu
  obtain ⟨⟨fss, hos, f1, f2⟩, ⟨fsr, hor, g0, g2⟩, ⟨V, pv, uv⟩, z0, z24⟩ := slot_obj hh u hu
  have bS : 0 ≤ nI u ∧ (nI u).toNatClampNeg < 5 := ⟨(nI_cl (by omega)).1, by rw [(nI_cl (by omega)).2]; exact hu⟩
  have eS : gS_ (nI u).toNatClampNeg = ri h 117 u := by rw [(nI_cl (by omega)).2]; exact (uS u hu).symm
  obtain ⟨l, el, hl0⟩ := nIof (x := ri h 120 u) z0 (by omega)
  have hl : l ≤ 24 := by omega
  have eZ : gZ_ (nI u).toNatClampNeg = nI l := by rw [(nI_cl (by omega)).2, ← uZ u hu]; exact el
  rw [el0, el] at g2
  by_cases c0 : ri h (90 + 4 * u) 2 = 0
  · have d0 : ri h 117 u = 0 := e2.symm.trans c0
    refine ⟨-1000000011, ⟨Nat.le_of_ble_eq_true rfl, ⟨_, _, rfl⟩, ?_⟩, ⟨Nat.le_of_ble_eq_true rfl, ⟨_, _, rfl⟩, ?_⟩⟩
    · show RA prog E pV1 120 mX7_item 0 [some (.ref 0), some (.int (nI u)), some (.int x2), none, none] [] h (some (.int (-1000000011)), h, 0, 0)
      refine RA.steps (i' := 2) (L' := [some (.ref 0), some (.int (nI u)), some (.int x2), none, none]) (st' := [.int (nI u), .ref 0]) (h' := h) 2 rfl ?_
      refine RA.call0 (N := mX7_slotOf) (as := [.ref 0, .int (nI u)]) (rest := []) rfl rfl (pcallV rfl rfl ho0 rfl rfl (Nat.le_of_ble_eq_true rfl)) (slotOf_x (d := 118) hh hu) ?_
      refine RA.steps (i' := 9) (L' := [some (.ref 0), some (.int (nI u)), some (.int x2), some (.ref (90 + 4 * u)), none]) (st' := [.ref (90 + 4 * u)]) (h' := h) 4 rfl ?_
      refine RA.getf rfl hos rfl f2 ?_
      refine RA.if1F rfl (decide_eq_false (fun q => q c0)) ?_
      refine RA.steps (i' := 12) (L' := [some (.ref 0), some (.int (nI u)), some (.int x2), some (.ref (90 + 4 * u)), none]) (st' := [.int (-1000000011)]) (h' := h) 1 rfl ?_
      exact RA.ret rfl rfl
    · show RA prog E pV1 120 mX8_item 0 [some (.ref 110), some (.int (nI u)), some (.int x2), none] [] h (some (.int (-1000000011)), h, 0, 0)
      refine RA.steps (i' := 1) (L' := [some (.ref 110), some (.int (nI u)), some (.int x2), none]) (st' := [.int (nI u)]) (h' := h) 1 rfl ?_
      refine RA.call0 (N := mX8_isSlot) (as := [.int (nI u)]) (rest := []) rfl rfl rfl (isSl_t (d := 117) hs) ?_
      refine RA.if1T rfl rfl ?_
      refine RA.steps (i' := 6) (L' := [some (.ref 110), some (.int (nI u)), some (.int x2), none]) (st' := [.ref 110]) (h' := h) 1 rfl ?_
      refine RA.getf rfl ho8 rfl (hF8.ref (k := 7) rfl) ?_
      refine RA.steps (i' := 8) (L' := [some (.ref 110), some (.int (nI u)), some (.int x2), none]) (st' := [.int (nI u), .ref 117]) (h' := h) 1 rfl ?_
      refine RA.iald rfl pS bS eS ?_
      refine RA.steps (i' := 10) (L' := [some (.ref 110), some (.int (nI u)), some (.int x2), none]) (st' := [.int 2, .int (ri h 117 u)]) (h' := h) 1 rfl ?_
      refine RA.if2F rfl (decide_eq_false (fun q => absurd (d0.symm.trans q) (by decide))) ?_
      refine RA.steps (i' := 12) (L' := [some (.ref 110), some (.int (nI u)), some (.int x2), none]) (st' := [.ref 110]) (h' := h) 1 rfl ?_
      refine RA.getf rfl ho8 rfl (hF8.ref (k := 7) rfl) ?_
      refine RA.steps (i' := 14) (L' := [some (.ref 110), some (.int (nI u)), some (.int x2), none]) (st' := [.int (nI u), .ref 117]) (h' := h) 1 rfl ?_
      refine RA.iald rfl pS bS eS ?_
      refine RA.if1F rfl (decide_eq_false (fun q => q d0)) ?_
      refine RA.steps (i' := 19) (L' := [some (.ref 110), some (.int (nI u)), some (.int x2), none]) (st' := [.int (-1000000011)]) (h' := h) 2 rfl ?_
      exact RA.ret rfl rfl
  have d0 : ¬ ri h 117 u = 0 := fun q => c0 (e2.trans q)
  by_cases c2 : ri h (90 + 4 * u) 2 = 2
  rotate_left
  · have d2 : ¬ ri h 117 u = 2 := fun q => c2 (e2.trans q)
    refine ⟨-1000000012, ⟨Nat.le_of_ble_eq_true rfl, ⟨_, _, rfl⟩, ?_⟩, ⟨Nat.le_of_ble_eq_true rfl, ⟨_, _, rfl⟩, ?_⟩⟩
    · show RA prog E pV1 120 mX7_item 0 [some (.ref 0), some (.int (nI u)), some (.int x2), none, none] [] h (some (.int (-1000000012)), h, 0, 0)
      refine RA.steps (i' := 2) (L' := [some (.ref 0), some (.int (nI u)), some (.int x2), none, none]) (st' := [.int (nI u), .ref 0]) (h' := h) 2 rfl ?_
      refine RA.call0 (N := mX7_slotOf) (as := [.ref 0, .int (nI u)]) (rest := []) rfl rfl (pcallV rfl rfl ho0 rfl rfl (Nat.le_of_ble_eq_true rfl)) (slotOf_x (d := 118) hh hu) ?_
      refine RA.steps (i' := 9) (L' := [some (.ref 0), some (.int (nI u)), some (.int x2), some (.ref (90 + 4 * u)), none]) (st' := [.ref (90 + 4 * u)]) (h' := h) 4 rfl ?_
      refine RA.getf rfl hos rfl f2 ?_
      refine RA.if1T rfl (decide_eq_true c0) ?_
      refine RA.steps (i' := 14) (L' := [some (.ref 0), some (.int (nI u)), some (.int x2), some (.ref (90 + 4 * u)), none]) (st' := [.ref (90 + 4 * u)]) (h' := h) 1 rfl ?_
      refine RA.getf rfl hos rfl f2 ?_
      refine RA.steps (i' := 16) (L' := [some (.ref 0), some (.int (nI u)), some (.int x2), some (.ref (90 + 4 * u)), none]) (st' := [.int 2, .int (ri h (90 + 4 * u) 2)]) (h' := h) 1 rfl ?_
      refine RA.if2F rfl (decide_eq_false c2) ?_
      refine RA.steps (i' := 18) (L' := [some (.ref 0), some (.int (nI u)), some (.int x2), some (.ref (90 + 4 * u)), none]) (st' := [.int (-1000000012)]) (h' := h) 1 rfl ?_
      exact RA.ret rfl rfl
    · show RA prog E pV1 120 mX8_item 0 [some (.ref 110), some (.int (nI u)), some (.int x2), none] [] h (some (.int (-1000000012)), h, 0, 0)
      refine RA.steps (i' := 1) (L' := [some (.ref 110), some (.int (nI u)), some (.int x2), none]) (st' := [.int (nI u)]) (h' := h) 1 rfl ?_
      refine RA.call0 (N := mX8_isSlot) (as := [.int (nI u)]) (rest := []) rfl rfl rfl (isSl_t (d := 117) hs) ?_
      refine RA.if1T rfl rfl ?_
      refine RA.steps (i' := 6) (L' := [some (.ref 110), some (.int (nI u)), some (.int x2), none]) (st' := [.ref 110]) (h' := h) 1 rfl ?_
      refine RA.getf rfl ho8 rfl (hF8.ref (k := 7) rfl) ?_
      refine RA.steps (i' := 8) (L' := [some (.ref 110), some (.int (nI u)), some (.int x2), none]) (st' := [.int (nI u), .ref 117]) (h' := h) 1 rfl ?_
      refine RA.iald rfl pS bS eS ?_
      refine RA.steps (i' := 10) (L' := [some (.ref 110), some (.int (nI u)), some (.int x2), none]) (st' := [.int 2, .int (ri h 117 u)]) (h' := h) 1 rfl ?_
      refine RA.if2F rfl (decide_eq_false d2) ?_
      refine RA.steps (i' := 12) (L' := [some (.ref 110), some (.int (nI u)), some (.int x2), none]) (st' := [.ref 110]) (h' := h) 1 rfl ?_
      refine RA.getf rfl ho8 rfl (hF8.ref (k := 7) rfl) ?_
      refine RA.steps (i' := 14) (L' := [some (.ref 110), some (.int (nI u)), some (.int x2), none]) (st' := [.int (nI u), .ref 117]) (h' := h) 1 rfl ?_
      refine RA.iald rfl pS bS eS ?_
      refine RA.if1T rfl (decide_eq_true d0) ?_
      refine RA.steps (i' := 19) (L' := [some (.ref 110), some (.int (nI u)), some (.int x2), none]) (st' := [.int (-1000000012)]) (h' := h) 1 rfl ?_
      exact RA.ret rfl rfl
  have d2 : ri h 117 u = 2 := e2.symm.trans c2
  have l1 : (nI l - 1).toInt = (l : Int) - 1 := by
    rw [Int32.toInt_sub, nI_toInt (by omega), show (1 : Int32).toInt = 1 by decide]
    exact bm32 (by unfold mI; omega) (by unfold MI; omega)
  by_cases hb : 0 ≤ x2.toInt ∧ x2.toInt < l
  rotate_left
  · have hi : ¬ ((0 : Int32) ≤ x2 ∧ x2 ≤ nI l - 1) := fun q => hb (by
      have q1 := Int32.le_iff_toInt_le.mp q.1
      have q2 := Int32.le_iff_toInt_le.mp q.2
      omega)
    refine ⟨-1000000013, ⟨Nat.le_of_ble_eq_true rfl, ⟨_, _, rfl⟩, ?_⟩, ⟨Nat.le_of_ble_eq_true rfl, ⟨_, _, rfl⟩, ?_⟩⟩
    · show RA prog E pV1 120 mX7_item 0 [some (.ref 0), some (.int (nI u)), some (.int x2), none, none] [] h (some (.int (-1000000013)), h, 0, 0)
      refine RA.steps (i' := 2) (L' := [some (.ref 0), some (.int (nI u)), some (.int x2), none, none]) (st' := [.int (nI u), .ref 0]) (h' := h) 2 rfl ?_
      refine RA.call0 (N := mX7_slotOf) (as := [.ref 0, .int (nI u)]) (rest := []) rfl rfl (pcallV rfl rfl ho0 rfl rfl (Nat.le_of_ble_eq_true rfl)) (slotOf_x (d := 118) hh hu) ?_
      refine RA.steps (i' := 9) (L' := [some (.ref 0), some (.int (nI u)), some (.int x2), some (.ref (90 + 4 * u)), none]) (st' := [.ref (90 + 4 * u)]) (h' := h) 4 rfl ?_
      refine RA.getf rfl hos rfl f2 ?_
      refine RA.if1T rfl (decide_eq_true c0) ?_
      refine RA.steps (i' := 14) (L' := [some (.ref 0), some (.int (nI u)), some (.int x2), some (.ref (90 + 4 * u)), none]) (st' := [.ref (90 + 4 * u)]) (h' := h) 1 rfl ?_
      refine RA.getf rfl hos rfl f2 ?_
      refine RA.steps (i' := 16) (L' := [some (.ref 0), some (.int (nI u)), some (.int x2), some (.ref (90 + 4 * u)), none]) (st' := [.int 2, .int (ri h (90 + 4 * u) 2)]) (h' := h) 1 rfl ?_
      refine RA.if2T rfl (decide_eq_true c2) ?_
      refine RA.steps (i' := 20) (L' := [some (.ref 0), some (.int (nI u)), some (.int x2), some (.ref (90 + 4 * u)), none]) (st' := [.ref (90 + 4 * u)]) (h' := h) 1 rfl ?_
      refine RA.getf rfl hos rfl f1 ?_
      refine RA.steps (i' := 22) (L' := [some (.ref 0), some (.int (nI u)), some (.int x2), some (.ref (90 + 4 * u)), none]) (st' := [.int x2, .ref (92 + 4 * u)]) (h' := h) 1 rfl ?_
      refine RA.call0 (N := mX3_has) (as := [.ref (92 + 4 * u), .int x2]) (rest := []) rfl rfl (pcallV rfl rfl hor rfl rfl (Nat.le_of_ble_eq_true rfl)) (has_n (d := 118) hor g2 hl hb) ?_
      refine RA.if1F rfl rfl ?_
      refine RA.steps (i' := 25) (L' := [some (.ref 0), some (.int (nI u)), some (.int x2), some (.ref (90 + 4 * u)), none]) (st' := [.int (-1000000013)]) (h' := h) 1 rfl ?_
      exact RA.ret rfl rfl
    · show RA prog E pV1 120 mX8_item 0 [some (.ref 110), some (.int (nI u)), some (.int x2), none] [] h (some (.int (-1000000013)), h, 0, 0)
      refine RA.steps (i' := 1) (L' := [some (.ref 110), some (.int (nI u)), some (.int x2), none]) (st' := [.int (nI u)]) (h' := h) 1 rfl ?_
      refine RA.call0 (N := mX8_isSlot) (as := [.int (nI u)]) (rest := []) rfl rfl rfl (isSl_t (d := 117) hs) ?_
      refine RA.if1T rfl rfl ?_
      refine RA.steps (i' := 6) (L' := [some (.ref 110), some (.int (nI u)), some (.int x2), none]) (st' := [.ref 110]) (h' := h) 1 rfl ?_
      refine RA.getf rfl ho8 rfl (hF8.ref (k := 7) rfl) ?_
      refine RA.steps (i' := 8) (L' := [some (.ref 110), some (.int (nI u)), some (.int x2), none]) (st' := [.int (nI u), .ref 117]) (h' := h) 1 rfl ?_
      refine RA.iald rfl pS bS eS ?_
      refine RA.steps (i' := 10) (L' := [some (.ref 110), some (.int (nI u)), some (.int x2), none]) (st' := [.int 2, .int (ri h 117 u)]) (h' := h) 1 rfl ?_
      refine RA.if2T rfl (decide_eq_true d2) ?_
      refine RA.steps (i' := 24) (L' := [some (.ref 110), some (.int (nI u)), some (.int x2), none]) (st' := [.ref 110, .long (Int32.toInt64 0), .long x2.toInt64]) (h' := h) 4 rfl ?_
      refine RA.getf rfl ho8 rfl (hF8.ref (k := 10) rfl) ?_
      refine RA.steps (i' := 26) (L' := [some (.ref 110), some (.int (nI u)), some (.int x2), none]) (st' := [.int (nI u), .ref 120, .long (Int32.toInt64 0), .long x2.toInt64]) (h' := h) 1 rfl ?_
      refine RA.iald rfl pZ bS eZ ?_
      refine RA.steps (i' := 30) (L' := [some (.ref 110), some (.int (nI u)), some (.int x2), none]) (st' := [.long ((nI l) - 1).toInt64, .long (Int32.toInt64 0), .long x2.toInt64]) (h' := h) 3 rfl ?_
      refine RA.call0 (N := mX8_isIn) (as := [.long x2.toInt64, .long (Int32.toInt64 0), .long ((nI l) - 1).toInt64]) (rest := []) rfl rfl rfl (isIn_f hi) ?_
      refine RA.if1F rfl rfl ?_
      refine RA.steps (i' := 33) (L' := [some (.ref 110), some (.int (nI u)), some (.int x2), none]) (st' := [.int (-1000000013)]) (h' := h) 1 rfl ?_
      exact RA.ret rfl rfl
  obtain ⟨p, rfl, hp0⟩ := nIof (x := x2) hb.1 (by omega)
  have hpl : p < l := by omega
  have hp24 : p < 24 := by omega
  have hi : (0 : Int32) ≤ nI p ∧ nI p ≤ nI l - 1 := ⟨(nI_cl (by omega)).1, Int32.le_iff_toInt_le.mpr (by omega)⟩
  have hT : T (24 * u + p) = V p := by
    rw [← uT (24 * u + p) (by omega), ← uv p hp24]
    exact (hv u p hu hp24).symm
  have ea : atV V l p = V p := if_pos hpl
  by_cases cn : V p = -1000000005
  · skip
    refine ⟨-1000000012, ⟨Nat.le_of_ble_eq_true rfl, ⟨_, _, rfl⟩, ?_⟩, ⟨Nat.le_of_ble_eq_true rfl, ⟨_, _, rfl⟩, ?_⟩⟩
    · show RA prog E pV1 120 mX7_item 0 [some (.ref 0), some (.int (nI u)), some (.int (nI p)), none, none] [] h (some (.int (-1000000012)), h, 0, 0)
      refine RA.steps (i' := 2) (L' := [some (.ref 0), some (.int (nI u)), some (.int (nI p)), none, none]) (st' := [.int (nI u), .ref 0]) (h' := h) 2 rfl ?_
      refine RA.call0 (N := mX7_slotOf) (as := [.ref 0, .int (nI u)]) (rest := []) rfl rfl (pcallV rfl rfl ho0 rfl rfl (Nat.le_of_ble_eq_true rfl)) (slotOf_x (d := 118) hh hu) ?_
      refine RA.steps (i' := 9) (L' := [some (.ref 0), some (.int (nI u)), some (.int (nI p)), some (.ref (90 + 4 * u)), none]) (st' := [.ref (90 + 4 * u)]) (h' := h) 4 rfl ?_
      refine RA.getf rfl hos rfl f2 ?_
      refine RA.if1T rfl (decide_eq_true c0) ?_
      refine RA.steps (i' := 14) (L' := [some (.ref 0), some (.int (nI u)), some (.int (nI p)), some (.ref (90 + 4 * u)), none]) (st' := [.ref (90 + 4 * u)]) (h' := h) 1 rfl ?_
      refine RA.getf rfl hos rfl f2 ?_
      refine RA.steps (i' := 16) (L' := [some (.ref 0), some (.int (nI u)), some (.int (nI p)), some (.ref (90 + 4 * u)), none]) (st' := [.int 2, .int (ri h (90 + 4 * u) 2)]) (h' := h) 1 rfl ?_
      refine RA.if2T rfl (decide_eq_true c2) ?_
      refine RA.steps (i' := 20) (L' := [some (.ref 0), some (.int (nI u)), some (.int (nI p)), some (.ref (90 + 4 * u)), none]) (st' := [.ref (90 + 4 * u)]) (h' := h) 1 rfl ?_
      refine RA.getf rfl hos rfl f1 ?_
      refine RA.steps (i' := 22) (L' := [some (.ref 0), some (.int (nI u)), some (.int (nI p)), some (.ref (90 + 4 * u)), none]) (st' := [.int (nI p), .ref (92 + 4 * u)]) (h' := h) 1 rfl ?_
      refine RA.call0 (N := mX3_has) (as := [.ref (92 + 4 * u), .int (nI p)]) (rest := []) rfl rfl (pcallV rfl rfl hor rfl rfl (Nat.le_of_ble_eq_true rfl)) (has_c1 (d := 118) hor g2 hp24 ⟨hpl, hl⟩) ?_
      refine RA.if1T rfl rfl ?_
      refine RA.steps (i' := 27) (L' := [some (.ref 0), some (.int (nI u)), some (.int (nI p)), some (.ref (90 + 4 * u)), none]) (st' := [.ref (90 + 4 * u)]) (h' := h) 1 rfl ?_
      refine RA.getf rfl hos rfl f1 ?_
      refine RA.steps (i' := 29) (L' := [some (.ref 0), some (.int (nI u)), some (.int (nI p)), some (.ref (90 + 4 * u)), none]) (st' := [.int (nI p), .ref (92 + 4 * u)]) (h' := h) 1 rfl ?_
      refine RA.call0 (N := mX3_at) (as := [.ref (92 + 4 * u), .int (nI p)]) (rest := []) rfl rfl (pcallV rfl rfl hor rfl rfl (Nat.le_of_ble_eq_true rfl)) (at_x (d := 117) hor g0 g2 ⟨hp24, hl⟩ pv) ?_
      refine RA.steps (i' := 33) (L' := [some (.ref 0), some (.int (nI u)), some (.int (nI p)), some (.ref (90 + 4 * u)), some (.int (atV V l p))]) (st' := [.int (-1000000005), .int (atV V l p)]) (h' := h) 3 rfl ?_
      refine RA.if2F rfl (decide_eq_false (fun q => q (ea.trans cn))) ?_
      refine RA.steps (i' := 37) (L' := [some (.ref 0), some (.int (nI u)), some (.int (nI p)), some (.ref (90 + 4 * u)), some (.int (atV V l p))]) (st' := [.int (-1000000012)]) (h' := h) 2 rfl ?_
      exact RA.ret rfl rfl
    · show RA prog E pV1 120 mX8_item 0 [some (.ref 110), some (.int (nI u)), some (.int (nI p)), none] [] h (some (.int (-1000000012)), h, 0, 0)
      refine RA.steps (i' := 1) (L' := [some (.ref 110), some (.int (nI u)), some (.int (nI p)), none]) (st' := [.int (nI u)]) (h' := h) 1 rfl ?_
      refine RA.call0 (N := mX8_isSlot) (as := [.int (nI u)]) (rest := []) rfl rfl rfl (isSl_t (d := 117) hs) ?_
      refine RA.if1T rfl rfl ?_
      refine RA.steps (i' := 6) (L' := [some (.ref 110), some (.int (nI u)), some (.int (nI p)), none]) (st' := [.ref 110]) (h' := h) 1 rfl ?_
      refine RA.getf rfl ho8 rfl (hF8.ref (k := 7) rfl) ?_
      refine RA.steps (i' := 8) (L' := [some (.ref 110), some (.int (nI u)), some (.int (nI p)), none]) (st' := [.int (nI u), .ref 117]) (h' := h) 1 rfl ?_
      refine RA.iald rfl pS bS eS ?_
      refine RA.steps (i' := 10) (L' := [some (.ref 110), some (.int (nI u)), some (.int (nI p)), none]) (st' := [.int 2, .int (ri h 117 u)]) (h' := h) 1 rfl ?_
      refine RA.if2T rfl (decide_eq_true d2) ?_
      refine RA.steps (i' := 24) (L' := [some (.ref 110), some (.int (nI u)), some (.int (nI p)), none]) (st' := [.ref 110, .long (Int32.toInt64 0), .long (nI p).toInt64]) (h' := h) 4 rfl ?_
      refine RA.getf rfl ho8 rfl (hF8.ref (k := 10) rfl) ?_
      refine RA.steps (i' := 26) (L' := [some (.ref 110), some (.int (nI u)), some (.int (nI p)), none]) (st' := [.int (nI u), .ref 120, .long (Int32.toInt64 0), .long (nI p).toInt64]) (h' := h) 1 rfl ?_
      refine RA.iald rfl pZ bS eZ ?_
      refine RA.steps (i' := 30) (L' := [some (.ref 110), some (.int (nI u)), some (.int (nI p)), none]) (st' := [.long ((nI l) - 1).toInt64, .long (Int32.toInt64 0), .long (nI p).toInt64]) (h' := h) 3 rfl ?_
      refine RA.call0 (N := mX8_isIn) (as := [.long (nI p).toInt64, .long (Int32.toInt64 0), .long ((nI l) - 1).toInt64]) (rest := []) rfl rfl rfl (isIn_t hi) ?_
      refine RA.if1T rfl rfl ?_
      refine RA.steps (i' := 35) (L' := [some (.ref 110), some (.int (nI u)), some (.int (nI p)), none]) (st' := [.ref 110]) (h' := h) 1 rfl ?_
      refine RA.getf rfl ho8 rfl (hF8.ref (k := 11) rfl) ?_
      refine RA.steps (i' := 41) (L' := [some (.ref 110), some (.int (nI u)), some (.int (nI p)), none]) (st' := [.int ((24 * (nI u)) + (nI p)), .ref 121]) (h' := h) 5 rfl ?_
      rw [(eAd5 hu)]
      refine RA.iald (w := (V p)) rfl pT ⟨(nI_cl (by omega)).1, by rw [(nI_cl (by omega)).2]; show 24 * u + p < 120; omega⟩ (by rw [(nI_cl (by omega)).2]; exact hT) ?_
      refine RA.steps (i' := 45) (L' := [some (.ref 110), some (.int (nI u)), some (.int (nI p)), some (.int (V p))]) (st' := [.int (-1000000005), .int (V p)]) (h' := h) 3 rfl ?_
      refine RA.if2F rfl (decide_eq_false (fun q => q cn)) ?_
      refine RA.steps (i' := 49) (L' := [some (.ref 110), some (.int (nI u)), some (.int (nI p)), some (.int (V p))]) (st' := [.int (-1000000012)]) (h' := h) 2 rfl ?_
      exact RA.ret rfl rfl
  · skip
    refine ⟨V p, ⟨Nat.le_of_ble_eq_true rfl, ⟨_, _, rfl⟩, ?_⟩, ⟨Nat.le_of_ble_eq_true rfl, ⟨_, _, rfl⟩, ?_⟩⟩
    · show RA prog E pV1 120 mX7_item 0 [some (.ref 0), some (.int (nI u)), some (.int (nI p)), none, none] [] h (some (.int (V p)), h, 0, 0)
      rw [← ea]
      refine RA.steps (i' := 2) (L' := [some (.ref 0), some (.int (nI u)), some (.int (nI p)), none, none]) (st' := [.int (nI u), .ref 0]) (h' := h) 2 rfl ?_
      refine RA.call0 (N := mX7_slotOf) (as := [.ref 0, .int (nI u)]) (rest := []) rfl rfl (pcallV rfl rfl ho0 rfl rfl (Nat.le_of_ble_eq_true rfl)) (slotOf_x (d := 118) hh hu) ?_
      refine RA.steps (i' := 9) (L' := [some (.ref 0), some (.int (nI u)), some (.int (nI p)), some (.ref (90 + 4 * u)), none]) (st' := [.ref (90 + 4 * u)]) (h' := h) 4 rfl ?_
      refine RA.getf rfl hos rfl f2 ?_
      refine RA.if1T rfl (decide_eq_true c0) ?_
      refine RA.steps (i' := 14) (L' := [some (.ref 0), some (.int (nI u)), some (.int (nI p)), some (.ref (90 + 4 * u)), none]) (st' := [.ref (90 + 4 * u)]) (h' := h) 1 rfl ?_
      refine RA.getf rfl hos rfl f2 ?_
      refine RA.steps (i' := 16) (L' := [some (.ref 0), some (.int (nI u)), some (.int (nI p)), some (.ref (90 + 4 * u)), none]) (st' := [.int 2, .int (ri h (90 + 4 * u) 2)]) (h' := h) 1 rfl ?_
      refine RA.if2T rfl (decide_eq_true c2) ?_
      refine RA.steps (i' := 20) (L' := [some (.ref 0), some (.int (nI u)), some (.int (nI p)), some (.ref (90 + 4 * u)), none]) (st' := [.ref (90 + 4 * u)]) (h' := h) 1 rfl ?_
      refine RA.getf rfl hos rfl f1 ?_
      refine RA.steps (i' := 22) (L' := [some (.ref 0), some (.int (nI u)), some (.int (nI p)), some (.ref (90 + 4 * u)), none]) (st' := [.int (nI p), .ref (92 + 4 * u)]) (h' := h) 1 rfl ?_
      refine RA.call0 (N := mX3_has) (as := [.ref (92 + 4 * u), .int (nI p)]) (rest := []) rfl rfl (pcallV rfl rfl hor rfl rfl (Nat.le_of_ble_eq_true rfl)) (has_c1 (d := 118) hor g2 hp24 ⟨hpl, hl⟩) ?_
      refine RA.if1T rfl rfl ?_
      refine RA.steps (i' := 27) (L' := [some (.ref 0), some (.int (nI u)), some (.int (nI p)), some (.ref (90 + 4 * u)), none]) (st' := [.ref (90 + 4 * u)]) (h' := h) 1 rfl ?_
      refine RA.getf rfl hos rfl f1 ?_
      refine RA.steps (i' := 29) (L' := [some (.ref 0), some (.int (nI u)), some (.int (nI p)), some (.ref (90 + 4 * u)), none]) (st' := [.int (nI p), .ref (92 + 4 * u)]) (h' := h) 1 rfl ?_
      refine RA.call0 (N := mX3_at) (as := [.ref (92 + 4 * u), .int (nI p)]) (rest := []) rfl rfl (pcallV rfl rfl hor rfl rfl (Nat.le_of_ble_eq_true rfl)) (at_x (d := 117) hor g0 g2 ⟨hp24, hl⟩ pv) ?_
      refine RA.steps (i' := 33) (L' := [some (.ref 0), some (.int (nI u)), some (.int (nI p)), some (.ref (90 + 4 * u)), some (.int (atV V l p))]) (st' := [.int (-1000000005), .int (atV V l p)]) (h' := h) 3 rfl ?_
      refine RA.if2T rfl (decide_eq_true (fun q => cn (ea.symm.trans q))) ?_
      refine RA.steps (i' := 37) (L' := [some (.ref 0), some (.int (nI u)), some (.int (nI p)), some (.ref (90 + 4 * u)), some (.int (atV V l p))]) (st' := [.int (atV V l p)]) (h' := h) 1 rfl ?_
      exact RA.ret rfl rfl
    · show RA prog E pV1 120 mX8_item 0 [some (.ref 110), some (.int (nI u)), some (.int (nI p)), none] [] h (some (.int (V p)), h, 0, 0)
      refine RA.steps (i' := 1) (L' := [some (.ref 110), some (.int (nI u)), some (.int (nI p)), none]) (st' := [.int (nI u)]) (h' := h) 1 rfl ?_
      refine RA.call0 (N := mX8_isSlot) (as := [.int (nI u)]) (rest := []) rfl rfl rfl (isSl_t (d := 117) hs) ?_
      refine RA.if1T rfl rfl ?_
      refine RA.steps (i' := 6) (L' := [some (.ref 110), some (.int (nI u)), some (.int (nI p)), none]) (st' := [.ref 110]) (h' := h) 1 rfl ?_
      refine RA.getf rfl ho8 rfl (hF8.ref (k := 7) rfl) ?_
      refine RA.steps (i' := 8) (L' := [some (.ref 110), some (.int (nI u)), some (.int (nI p)), none]) (st' := [.int (nI u), .ref 117]) (h' := h) 1 rfl ?_
      refine RA.iald rfl pS bS eS ?_
      refine RA.steps (i' := 10) (L' := [some (.ref 110), some (.int (nI u)), some (.int (nI p)), none]) (st' := [.int 2, .int (ri h 117 u)]) (h' := h) 1 rfl ?_
      refine RA.if2T rfl (decide_eq_true d2) ?_
      refine RA.steps (i' := 24) (L' := [some (.ref 110), some (.int (nI u)), some (.int (nI p)), none]) (st' := [.ref 110, .long (Int32.toInt64 0), .long (nI p).toInt64]) (h' := h) 4 rfl ?_
      refine RA.getf rfl ho8 rfl (hF8.ref (k := 10) rfl) ?_
      refine RA.steps (i' := 26) (L' := [some (.ref 110), some (.int (nI u)), some (.int (nI p)), none]) (st' := [.int (nI u), .ref 120, .long (Int32.toInt64 0), .long (nI p).toInt64]) (h' := h) 1 rfl ?_
      refine RA.iald rfl pZ bS eZ ?_
      refine RA.steps (i' := 30) (L' := [some (.ref 110), some (.int (nI u)), some (.int (nI p)), none]) (st' := [.long ((nI l) - 1).toInt64, .long (Int32.toInt64 0), .long (nI p).toInt64]) (h' := h) 3 rfl ?_
      refine RA.call0 (N := mX8_isIn) (as := [.long (nI p).toInt64, .long (Int32.toInt64 0), .long ((nI l) - 1).toInt64]) (rest := []) rfl rfl rfl (isIn_t hi) ?_
      refine RA.if1T rfl rfl ?_
      refine RA.steps (i' := 35) (L' := [some (.ref 110), some (.int (nI u)), some (.int (nI p)), none]) (st' := [.ref 110]) (h' := h) 1 rfl ?_
      refine RA.getf rfl ho8 rfl (hF8.ref (k := 11) rfl) ?_
      refine RA.steps (i' := 41) (L' := [some (.ref 110), some (.int (nI u)), some (.int (nI p)), none]) (st' := [.int ((24 * (nI u)) + (nI p)), .ref 121]) (h' := h) 5 rfl ?_
      rw [(eAd5 hu)]
      refine RA.iald (w := (V p)) rfl pT ⟨(nI_cl (by omega)).1, by rw [(nI_cl (by omega)).2]; show 24 * u + p < 120; omega⟩ (by rw [(nI_cl (by omega)).2]; exact hT) ?_
      refine RA.steps (i' := 45) (L' := [some (.ref 110), some (.int (nI u)), some (.int (nI p)), some (.int (V p))]) (st' := [.int (-1000000005), .int (V p)]) (h' := h) 3 rfl ?_
      refine RA.if2T rfl (decide_eq_true cn) ?_
      refine RA.steps (i' := 49) (L' := [some (.ref 110), some (.int (nI u)), some (.int (nI p)), some (.int (V p))]) (st' := [.int (V p)]) (h' := h) 1 rfl ?_
      exact RA.ret rfl rfl
end ITM
