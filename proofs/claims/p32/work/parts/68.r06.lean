/-! ===== part0 against the class's turns ===== -/
section PT2
variable {E : pX} {d : Nat} {h h' h1 h2 h3 h4 : List pC} {g : Nat → Int32} {n : Nat} {key : Int32}
theorem isNm_0 (c : Int32) : Run prog E pV1 (d + 1) mX8_isName [.int 0, .int c] h (some (.int (if nmB 0 c = true then 1 else 0)), h, 0, 0) := by
  refine ⟨Nat.le_of_ble_eq_true rfl, ⟨_, _, rfl⟩, ?_⟩
  show RA prog E pV1 (d + 1) mX8_isName 0 [some (.int 0), some (.int c)] [] h (some (.int (if nmB 0 c = true then 1 else 0)), h, 0, 0)
  by_cases a0 : c = 116
  · rw [if_pos (show nmB 0 c = true by unfold nmB; rw [if_pos rfl]; exact decide_eq_true (Or.inl a0))]
    refine RA.steps (i' := 1) (L' := [some (.int 0), some (.int c)]) (st' := [.int 0]) (h' := h) 1 rfl ?_
    refine RA.sw (x := 2) rfl rfl rfl rfl (by decide) ?_
    refine RA.steps (i' := 4) (L' := [some (.int 0), some (.int c)]) (st' := [.int 116, .int c]) (h' := h) 2 rfl ?_
    refine RA.if2T rfl (decide_eq_true a0) ?_
    refine RA.steps (i' := 14) (L' := [some (.int 0), some (.int c)]) (st' := [.int 1]) (h' := h) 2 rfl ?_
    exact RA.ret rfl rfl
  by_cases a1 : c = 115
  · rw [if_pos (show nmB 0 c = true by unfold nmB; rw [if_pos rfl]; exact decide_eq_true (Or.inr (Or.inl a1)))]
    refine RA.steps (i' := 1) (L' := [some (.int 0), some (.int c)]) (st' := [.int 0]) (h' := h) 1 rfl ?_
    refine RA.sw (x := 2) rfl rfl rfl rfl (by decide) ?_
    refine RA.steps (i' := 4) (L' := [some (.int 0), some (.int c)]) (st' := [.int 116, .int c]) (h' := h) 2 rfl ?_
    refine RA.if2F rfl (decide_eq_false a0) ?_
    refine RA.steps (i' := 7) (L' := [some (.int 0), some (.int c)]) (st' := [.int 115, .int c]) (h' := h) 2 rfl ?_
    refine RA.if2T rfl (decide_eq_true a1) ?_
    refine RA.steps (i' := 14) (L' := [some (.int 0), some (.int c)]) (st' := [.int 1]) (h' := h) 2 rfl ?_
    exact RA.ret rfl rfl
  by_cases a2 : c = 108
  · rw [if_pos (show nmB 0 c = true by unfold nmB; rw [if_pos rfl]; exact decide_eq_true (Or.inr (Or.inr (a2))))]
    refine RA.steps (i' := 1) (L' := [some (.int 0), some (.int c)]) (st' := [.int 0]) (h' := h) 1 rfl ?_
    refine RA.sw (x := 2) rfl rfl rfl rfl (by decide) ?_
    refine RA.steps (i' := 4) (L' := [some (.int 0), some (.int c)]) (st' := [.int 116, .int c]) (h' := h) 2 rfl ?_
    refine RA.if2F rfl (decide_eq_false a0) ?_
    refine RA.steps (i' := 7) (L' := [some (.int 0), some (.int c)]) (st' := [.int 115, .int c]) (h' := h) 2 rfl ?_
    refine RA.if2F rfl (decide_eq_false a1) ?_
    refine RA.steps (i' := 10) (L' := [some (.int 0), some (.int c)]) (st' := [.int 108, .int c]) (h' := h) 2 rfl ?_
    refine RA.if2F rfl (decide_eq_false (fun z => z a2)) ?_
    refine RA.steps (i' := 14) (L' := [some (.int 0), some (.int c)]) (st' := [.int 1]) (h' := h) 2 rfl ?_
    exact RA.ret rfl rfl
  · rw [if_neg (show ¬ nmB 0 c = true by unfold nmB; rw [if_pos rfl]; exact fun y => (fun z => z.elim a0 (fun z => z.elim a1 a2)) (of_decide_eq_true y))]
    refine RA.steps (i' := 1) (L' := [some (.int 0), some (.int c)]) (st' := [.int 0]) (h' := h) 1 rfl ?_
    refine RA.sw (x := 2) rfl rfl rfl rfl (by decide) ?_
    refine RA.steps (i' := 4) (L' := [some (.int 0), some (.int c)]) (st' := [.int 116, .int c]) (h' := h) 2 rfl ?_
    refine RA.if2F rfl (decide_eq_false a0) ?_
    refine RA.steps (i' := 7) (L' := [some (.int 0), some (.int c)]) (st' := [.int 115, .int c]) (h' := h) 2 rfl ?_
    refine RA.if2F rfl (decide_eq_false a1) ?_
    refine RA.steps (i' := 10) (L' := [some (.int 0), some (.int c)]) (st' := [.int 108, .int c]) (h' := h) 2 rfl ?_
    refine RA.if2T rfl (decide_eq_true a2) ?_
    refine RA.steps (i' := 14) (L' := [some (.int 0), some (.int c)]) (st' := [.int 0]) (h' := h) 1 rfl ?_
    exact RA.ret rfl rfl
theorem isNm_1 (c : Int32) : Run prog E pV1 (d + 1) mX8_isName [.int 1, .int c] h (some (.int (if nmB 1 c = true then 1 else 0)), h, 0, 0) := by
  refine ⟨Nat.le_of_ble_eq_true rfl, ⟨_, _, rfl⟩, ?_⟩
  show RA prog E pV1 (d + 1) mX8_isName 0 [some (.int 1), some (.int c)] [] h (some (.int (if nmB 1 c = true then 1 else 0)), h, 0, 0)
  by_cases a0 : c = 110
  · rw [if_pos (show nmB 1 c = true by unfold nmB; rw [if_neg (by decide), if_pos rfl]; exact decide_eq_true (Or.inl a0))]
    refine RA.steps (i' := 1) (L' := [some (.int 1), some (.int c)]) (st' := [.int 1]) (h' := h) 1 rfl ?_
    refine RA.sw (x := 15) rfl rfl rfl rfl (by decide) ?_
    refine RA.steps (i' := 17) (L' := [some (.int 1), some (.int c)]) (st' := [.int 110, .int c]) (h' := h) 2 rfl ?_
    refine RA.if2T rfl (decide_eq_true a0) ?_
    refine RA.steps (i' := 24) (L' := [some (.int 1), some (.int c)]) (st' := [.int 1]) (h' := h) 2 rfl ?_
    exact RA.ret rfl rfl
  by_cases a1 : c = 102
  · rw [if_pos (show nmB 1 c = true by unfold nmB; rw [if_neg (by decide), if_pos rfl]; exact decide_eq_true (Or.inr (a1)))]
    refine RA.steps (i' := 1) (L' := [some (.int 1), some (.int c)]) (st' := [.int 1]) (h' := h) 1 rfl ?_
    refine RA.sw (x := 15) rfl rfl rfl rfl (by decide) ?_
    refine RA.steps (i' := 17) (L' := [some (.int 1), some (.int c)]) (st' := [.int 110, .int c]) (h' := h) 2 rfl ?_
    refine RA.if2F rfl (decide_eq_false a0) ?_
    refine RA.steps (i' := 20) (L' := [some (.int 1), some (.int c)]) (st' := [.int 102, .int c]) (h' := h) 2 rfl ?_
    refine RA.if2F rfl (decide_eq_false (fun z => z a1)) ?_
    refine RA.steps (i' := 24) (L' := [some (.int 1), some (.int c)]) (st' := [.int 1]) (h' := h) 2 rfl ?_
    exact RA.ret rfl rfl
  · rw [if_neg (show ¬ nmB 1 c = true by unfold nmB; rw [if_neg (by decide), if_pos rfl]; exact fun y => (fun z => z.elim a0 a1) (of_decide_eq_true y))]
    refine RA.steps (i' := 1) (L' := [some (.int 1), some (.int c)]) (st' := [.int 1]) (h' := h) 1 rfl ?_
    refine RA.sw (x := 15) rfl rfl rfl rfl (by decide) ?_
    refine RA.steps (i' := 17) (L' := [some (.int 1), some (.int c)]) (st' := [.int 110, .int c]) (h' := h) 2 rfl ?_
    refine RA.if2F rfl (decide_eq_false a0) ?_
    refine RA.steps (i' := 20) (L' := [some (.int 1), some (.int c)]) (st' := [.int 102, .int c]) (h' := h) 2 rfl ?_
    refine RA.if2T rfl (decide_eq_true a1) ?_
    refine RA.steps (i' := 24) (L' := [some (.int 1), some (.int c)]) (st' := [.int 0]) (h' := h) 1 rfl ?_
    exact RA.ret rfl rfl
theorem isNm_2 (c : Int32) : Run prog E pV1 (d + 1) mX8_isName [.int 2, .int c] h (some (.int (if nmB 2 c = true then 1 else 0)), h, 0, 0) := by
  refine ⟨Nat.le_of_ble_eq_true rfl, ⟨_, _, rfl⟩, ?_⟩
  show RA prog E pV1 (d + 1) mX8_isName 0 [some (.int 2), some (.int c)] [] h (some (.int (if nmB 2 c = true then 1 else 0)), h, 0, 0)
  by_cases a0 : c = 116
  · rw [if_pos (show nmB 2 c = true by unfold nmB; rw [if_neg (by decide), if_neg (by decide)]; exact decide_eq_true (Or.inl a0))]
    refine RA.steps (i' := 1) (L' := [some (.int 2), some (.int c)]) (st' := [.int 2]) (h' := h) 1 rfl ?_
    refine RA.sw (x := 25) rfl rfl rfl rfl (by decide) ?_
    refine RA.steps (i' := 27) (L' := [some (.int 2), some (.int c)]) (st' := [.int 116, .int c]) (h' := h) 2 rfl ?_
    refine RA.if2T rfl (decide_eq_true a0) ?_
    refine RA.steps (i' := 34) (L' := [some (.int 2), some (.int c)]) (st' := [.int 1]) (h' := h) 2 rfl ?_
    exact RA.ret rfl rfl
  by_cases a1 : c = 115
  · rw [if_pos (show nmB 2 c = true by unfold nmB; rw [if_neg (by decide), if_neg (by decide)]; exact decide_eq_true (Or.inr (a1)))]
    refine RA.steps (i' := 1) (L' := [some (.int 2), some (.int c)]) (st' := [.int 2]) (h' := h) 1 rfl ?_
    refine RA.sw (x := 25) rfl rfl rfl rfl (by decide) ?_
    refine RA.steps (i' := 27) (L' := [some (.int 2), some (.int c)]) (st' := [.int 116, .int c]) (h' := h) 2 rfl ?_
    refine RA.if2F rfl (decide_eq_false a0) ?_
    refine RA.steps (i' := 30) (L' := [some (.int 2), some (.int c)]) (st' := [.int 115, .int c]) (h' := h) 2 rfl ?_
    refine RA.if2F rfl (decide_eq_false (fun z => z a1)) ?_
    refine RA.steps (i' := 34) (L' := [some (.int 2), some (.int c)]) (st' := [.int 1]) (h' := h) 2 rfl ?_
    exact RA.ret rfl rfl
  · rw [if_neg (show ¬ nmB 2 c = true by unfold nmB; rw [if_neg (by decide), if_neg (by decide)]; exact fun y => (fun z => z.elim a0 a1) (of_decide_eq_true y))]
    refine RA.steps (i' := 1) (L' := [some (.int 2), some (.int c)]) (st' := [.int 2]) (h' := h) 1 rfl ?_
    refine RA.sw (x := 25) rfl rfl rfl rfl (by decide) ?_
    refine RA.steps (i' := 27) (L' := [some (.int 2), some (.int c)]) (st' := [.int 116, .int c]) (h' := h) 2 rfl ?_
    refine RA.if2F rfl (decide_eq_false a0) ?_
    refine RA.steps (i' := 30) (L' := [some (.int 2), some (.int c)]) (st' := [.int 115, .int c]) (h' := h) 2 rfl ?_
    refine RA.if2T rfl (decide_eq_true a1) ?_
    refine RA.steps (i' := 34) (L' := [some (.int 2), some (.int c)]) (st' := [.int 0]) (h' := h) 1 rfl ?_
    exact RA.ret rfl rfl
theorem isNm_x {key : Int32} (hk : key = 0 ∨ key = 1 ∨ key = 2) (c : Int32) : Run prog E pV1 (d + 1) mX8_isName [.int key, .int c] h (some (.int (if nmB key c = true then 1 else 0)), h, 0, 0) := by
  rcases hk with rfl | rfl | rfl
  · exact isNm_0 c
  · exact isNm_1 c
  · exact isNm_2 c
/-- the class takes a piece -/
theorem cst_pc {b : Nat} {gl pc : Int32} {st : List Int32} (k1 : kd g n b = 1 ∨ kd g n b = 2) (hg : gl = 0) (hp : pceB g key (kd g n b) b (wEnd g n b) = true) : cst g n key (b, gl, st, 1, pc) = some (some (nxb g n b, glu (nI (kd g n b)) (wEnd g n b) (nxb g n b), snots st, 0, pc + 1)) := by
  have e : gon g key (kd g n b) b (wEnd g n b) gl st 1 pc = some (some (snots st, 0, pc + 1)) := by
    unfold gon
    rw [if_neg (by omega), if_pos ⟨rfl, hg, hp⟩]
  unfold cst
  rw [if_neg (by show kd g n b ≠ 0; omega)]
  show (match gon g key (kd g n b) b (wEnd g n b) gl st 1 pc with
    | none => none
    | some none => some none
    | some (some q) => some (some (nxb g n b, glu (nI (kd g n b)) (wEnd g n b) (nxb g n b), q))) = _
  rw [e]
/-- the class takes a bracket or a `!` -/
theorem cst_ah {b : Nat} {gl pc : Int32} {st : List Int32} (k3 : kd g n b = 3) (hc : (g b = 40 ∧ cn1 40 st < 8) ∨ (g b = 33 ∧ cn1 33 st < 8)) : cst g n key (b, gl, st, 1, pc) = some (some (nxb g n b, glu (nI (kd g n b)) (wEnd g n b) (nxb g n b), g b :: st, 1, pc)) := by
  have e : gon g key (kd g n b) b (wEnd g n b) gl st 1 pc = some (some (g b :: st, 1, pc)) := by
    unfold gon
    rw [if_pos k3, if_pos rfl, if_pos hc]
  unfold cst
  rw [if_neg (by show kd g n b ≠ 0; omega)]
  show (match gon g key (kd g n b) b (wEnd g n b) gl st 1 pc with
    | none => none
    | some none => some none
    | some (some q) => some (some (nxb g n b, glu (nI (kd g n b)) (wEnd g n b) (nxb g n b), q))) = _
  rw [e]
/-- the class takes a bracket's end -/
theorem cst_cl {b : Nat} {gl pc : Int32} {st W : List Int32} (k3 : kd g n b = 3) (hc : g b = 41) (hW : ∀ x ∈ W, 1 ≤ rk x) : cst g n key (b, gl, W ++ (40 :: st), 0, pc) = some (some (nxb g n b, glu (nI (kd g n b)) (wEnd g n b) (nxb g n b), snots st, 0, pc)) := by
  have u : unw 1 (W ++ (40 :: st)) = 40 :: st := unw_app (Nat.le_refl 1) (by show rk 40 < 1; rw [rk_40]; decide) W hW
  have c4 : 0 < cn1 40 (W ++ (40 :: st)) := by
    rw [← unw_cn rk_40 (r := 1) (Nat.le_refl 1), u, cn_c1]
    omega
  have e : gon g key (kd g n b) b (wEnd g n b) gl (W ++ (40 :: st)) 0 pc = some (some (snots st, 0, pc)) := by
    unfold gon
    rw [if_pos k3, if_neg (by decide), if_pos ⟨hc, c4⟩, u, if_pos (show tp (40 :: st) = 40 from rfl)]
    rfl
  unfold cst
  rw [if_neg (by show kd g n b ≠ 0; omega)]
  show (match gon g key (kd g n b) b (wEnd g n b) gl (W ++ (40 :: st)) 0 pc with
    | none => none
    | some none => some none
    | some (some q) => some (some (nxb g n b, glu (nI (kd g n b)) (wEnd g n b) (nxb g n b), q))) = _
  rw [e]
theorem cst_no {b : Nat} {gl pc wa : Int32} {st : List Int32} (hn : kd g n b = 0 ∨ gon g key (kd g n b) b (wEnd g n b) gl st wa pc = some none) : cst g n key (b, gl, st, wa, pc) = some none := by
  unfold cst
  by_cases k0 : kd g n b = 0
  · rw [if_pos k0]
  · rw [if_neg k0]
    show (match gon g key (kd g n b) b (wEnd g n b) gl st wa pc with
      | none => none
      | some none => some none
      | some (some q) => some (some (nxb g n b, glu (nI (kd g n b)) (wEnd g n b) (nxb g n b), q))) = _
    rw [hn.resolve_left k0]
/-- nothing that either could have taken follows: the class is at a fault, or at the end -/
theorem cst_fo {b : Nat} {gl pc : Int32} {S : List Int32} (fo : Fo 1 g n b S) (hc : ¬ (kd g n b = 3 ∧ g b = 41 ∧ 0 < cn1 40 S)) : cst g n key (b, gl, S, 0, pc) = some none := by
  refine cst_no ?_
  by_cases k3 : kd g n b = 3
  · refine Or.inr ?_
    obtain ⟨f1, f2⟩ := fo k3
    have r5 := rk_le (g b)
    unfold gon
    rw [if_pos k3, if_neg (by decide), if_neg (fun z => hc ⟨k3, z⟩)]
    by_cases r0 : rk (g b) = 0
    · rw [if_pos r0]
    · have r3 : rk (g b) = 3 := by
        by_cases e : rk (g b) = 3
        · exact e
        · exact absurd rfl (f1 (rk (g b)) (by omega) r5 e)
      rw [if_neg r0, if_pos r3, if_pos (f2 (by decide) r3)]
  · by_cases k0 : kd g n b = 0
    · exact Or.inl k0
    · refine Or.inr ?_
      unfold gon
      rw [if_neg k3, if_neg (fun z => absurd z.1 (by decide))]
/-- nothing that part0 takes: the class is at a fault, or at the end -/
theorem NO.here {b : Nat} {gl pc : Int32} {st : List Int32} (t : TS g n b gl st h) (hn : kd g n b = 0 ∨ gon g key (kd g n b) b (wEnd g n b) gl st 1 pc = some none) : NO g n key b gl st pc h := ⟨0, _, rfl, cst_no hn, fun z => absurd z.2.1 (show ¬ (1 : Int32) = 0 by decide), t.2.1.2.1⟩
theorem gon_sg {b : Nat} {gl pc : Int32} {st : List Int32} (k3 : kd g n b = 3) (h1 : ¬ (g b = 40 ∧ cn1 40 st < 8)) (h2 : ¬ (g b = 33 ∧ cn1 33 st < 8)) : gon g key (kd g n b) b (wEnd g n b) gl st 1 pc = some none := by
  unfold gon
  rw [if_pos k3, if_pos rfl, if_neg (fun z => z.elim h1 h2)]
theorem TS.f25 {b : Nat} {gl : Int32} {st : List Int32} {i : Nat} (t : TS g n b gl st h) (hi : i = 19 ∨ i = 23 ∨ i = 25) (u : oneF i h h1) : TS g n b gl st h1 := t.fr (fun j => ri_ct (u 124 j (fun q => by omega))) (fun k hk => ri_ct (u 110 k (fun q => by omega)))
/-- a piece was read: on both sides the same -/
theorem YS.leaf {b : Nat} {gl : Int32} {st : List Int32} (k1 : kd g n b = 1 ∨ kd g n b = 2) (hg : gl = 0) (hp : pceB g key (kd g n b) b (wEnd g n b) = true) (t : TS g n (nxb g n b) (glu (nI (kd g n b)) (wEnd g n b) (nxb g n b)) st h3) (e25 : ri h3 110 25 = ri h 110 25 + 1) : YS 6 6 g n key b gl st (ri h 110 25) h3 := ⟨1, _, _, [], by rw [its_1 (cst_pc k1 hg hp), bs_6, e25]; rfl, t, fun x hx => absurd hx List.not_mem_nil, fun _ => ⟨fun r h1 h2 => by omega, fun h1 => by omega⟩⟩
theorem gd_part0 {m : Nat} (hE : ∀ m' < m, GD E mX8_either 5 1 m') (hP : ∀ m' < m, GD E mX8_part0 0 6 m') : GD E mX8_part0 0 6 m := by
  intro d0 h key g n b gl st hk hp ht hs hm hd
  have tsg := tk_sign ht
  have r21 := (m_fld hp.1 (i := 21) (lo := 0) (hi := 8) rfl).2
  have r22 := (m_fld hp.1 (i := 22) (lo := 0) (hi := 8) rfl).2
  have r23 := (m_fld hp.1 (i := 23) (lo := 0) (hi := 98) rfl).2
  have r24 := (m_fld hp.1 (i := 24) (lo := 0) (hi := 2875) rfl).2
  have r16 := (m_fld hp.1 (i := 16) (lo := 0) (hi := 96) rfl).2
  have r15 := (m_fld hp.1 (i := 15) (lo := 0) (hi := 96) rfl).2
  obtain ⟨d, rfl⟩ : ∃ d', d0 = d' + 9 := ⟨d0 - 9, by omega⟩
  obtain ⟨fs, ho, -⟩ := hi_obj hp.1 HTm
  obtain ⟨c18, -⟩ := m_fld hp.1 (i := 18) (lo := 0) (hi := 4) rfl
  obtain ⟨c19, -⟩ := m_fld hp.1 (i := 19) (lo := -2147483648) (hi := 2147483647) rfl
  obtain ⟨c20, -⟩ := m_fld hp.1 (i := 20) (lo := -2147483648) (hi := 2147483647) rfl
  obtain ⟨c21, -⟩ := m_fld hp.1 (i := 21) (lo := 0) (hi := 8) rfl
  obtain ⟨c22, -⟩ := m_fld hp.1 (i := 22) (lo := 0) (hi := 8) rfl
  have hl : fi h 23 ≤ 97 := by have := hp.2.2.2.2; omega
  have start : ∀ (r : Int32) (h' : List pC), RA prog E pV1 (d + 9) mX8_part0 0 [some (.ref 110), some (.int key)] [] h (some (.int r), h', 0, 0) → Run prog E pV1 (d + 9) mX8_part0 [.ref 110, .int key] h (some (.int r), h', 0, 0) := fun r h' k => ⟨Nat.le_of_ble_eq_true rfl, ⟨_, _, rfl⟩, k⟩
  have ret0 : ∀ (i : Nat) (h' : List pC), (i = 66 ∨ i = 88 ∨ i = 106) → RA prog E pV1 (d + 9) mX8_part0 i [some (.ref 110), some (.int key)] [] h' (some (.int 0), h', 0, 0) := by
    intro i h' hi
    rcases hi with rfl | rfl | rfl
    · refine RA.steps 1 rfl ?_
      exact RA.ret rfl rfl
    · refine RA.steps 1 rfl ?_
      exact RA.ret rfl rfl
    · refine RA.steps 1 rfl ?_
      exact RA.ret rfl rfl
  -- a step, one more said, the next token
  have leaf : ∀ (i : Nat) (what v : Int32), (i = 8 ∨ i = 35) → ¬ what = 2 ∧ (what = 0 ∨ (0 ≤ v.toInt ∧ v.toInt < 128)) → fi h 18 ≠ 0 → ∃ h3 : List pC, (RA prog E pV1 (d + 9) mX8_part0 i [some (.ref 110), some (.int key)] [.int v, .int what, .ref 110] h (some (.int 1), h3, 0, 0)) ∧ OKP h h3 ∧ FrP h h3 ∧ (ri h 110 18 ≠ 4 → TS g n (nxb g n b) (glu (nI (kd g n b)) (wEnd g n b) (nxb g n b)) st h3 ∧ ri h3 110 25 = ri h 110 25 + 1) := by
    intro i what v hi hw h18
    obtain ⟨h1, q1, s1, s2, s3, s4, s5⟩ := step_x (E := E) (V := pV1) (d := d + 7) what v hp.1 hl hp.2.2.2.2.2
    obtain ⟨fs1, ho1, -⟩ := hi_obj s1 HTm
    obtain ⟨c25, -⟩ := m_fld s1 (i := 25) (lo := -2147483648) (hi := 2147483647) rfl
    obtain ⟨u1, u2, u3⟩ := fld_put (i := 25) (lo := -2147483648) (hi := 2147483647) (v := ri h1 110 25 + 1) s1 ho1 rfl ⟨i32_lo _, i32_hi _⟩
    have e17 : fi (h1.set 110 (.inr (.inr (8, fs1.set 25 (.int (ri h1 110 25 + 1)))))) 17 = fi h 17 := by
      rw [oneF.k (i := 25) u2 (by omega), (st_fr hp.1 hl ⟨s1, s2, s3, s4, s5⟩).2 17 (by omega)]
    have e15 : fi (h1.set 110 (.inr (.inr (8, fs1.set 25 (.int (ri h1 110 25 + 1)))))) 15 = fi h 15 := by
      rw [oneF.k (i := 25) u2 (by omega), (st_fr hp.1 hl ⟨s1, s2, s3, s4, s5⟩).2 15 (by omega)]
    obtain ⟨h3, q3, n3⟩ := next_x (E := E) (V := pV1) (d := d) u1 (by rw [e17, e15]; exact hp.2.2.1)
    obtain ⟨k1, k2⟩ := ok_one hp h18 ⟨s1, s2, s3, s4, s5⟩ hw u1 u2 n3
    have kx : ri h 110 18 ≠ 4 → TS g n (nxb g n b) (glu (nI (kd g n b)) (wEnd g n b) (nxb g n b)) st h3 ∧ ri h3 110 25 = ri h 110 25 + 1 := fun w4 => by
      obtain ⟨t1, a25⟩ := STp.ts hp.1 hl ⟨s1, s2, s3, s4, s5⟩ ht
      have t2 := t1.f25 (Or.inr (Or.inr rfl)) u2
      have b18 : ri (h1.set 110 (.inr (.inr (8, fs1.set 25 (.int (ri h1 110 25 + 1)))))) 110 18 = ri h 110 18 := Int32.toInt_inj.mp (by
        have q1 := oneF.k (i := 25) (j := 18) u2 (by omega)
        have q2 := (st_fr hp.1 hl ⟨s1, s2, s3, s4, s5⟩).2 18 (by omega)
        unfold fi at q1 q2
        rw [q1, q2])
      obtain ⟨t3, e25, -⟩ := t2.nx u1 (by rw [b18]; exact w4) (fun z => h18 (by have y := tsg.2.mpr z; unfold fi; rw [y]; decide)) q3 n3
      refine ⟨t3, ?_⟩
      rw [e25, ← a25]
      exact Int32.toInt_inj.mp (by unfold fi at u3; exact u3)
    refine ⟨h3, ?_, k1, k2, kx⟩
    rcases hi with rfl | rfl
    · refine call110 rfl rfl rfl rfl hp.1 rfl (Nat.le_of_ble_eq_true rfl) q1 ?_
      refine RA.steps 2 rfl ?_
      refine RA.getf rfl ho1 rfl (fld_at ho1 c25) ?_
      refine RA.steps (i' := 14) (L' := [some (.ref 110), some (.int key)]) (st' := [.int (ri h1 110 25 + 1), .ref 110]) (h' := h1) 2 rfl ?_
      refine RA.putf rfl ho1 rfl rfl ?_
      refine RA.steps 1 rfl ?_
      refine call110 rfl rfl rfl rfl u1 rfl (Nat.le_of_ble_eq_true rfl) q3 ?_
      refine RA.steps 1 rfl ?_
      exact RA.ret rfl rfl
    · refine call110 rfl rfl rfl rfl hp.1 rfl (Nat.le_of_ble_eq_true rfl) q1 ?_
      refine RA.steps 2 rfl ?_
      refine RA.getf rfl ho1 rfl (fld_at ho1 c25) ?_
      refine RA.steps (i' := 41) (L' := [some (.ref 110), some (.int key)]) (st' := [.int (ri h1 110 25 + 1), .ref 110]) (h' := h1) 2 rfl ?_
      refine RA.putf rfl ho1 rfl rfl ?_
      refine RA.steps 1 rfl ?_
      refine call110 rfl rfl rfl rfl u1 rfl (Nat.le_of_ble_eq_true rfl) q3 ?_
      refine RA.steps 1 rfl ?_
      exact RA.ret rfl rfl
  by_cases t2 : ri h 110 18 = 2
  · obtain ⟨h3, q, k1, k2, kx⟩ := leaf 8 0 (ri h 110 19) (Or.inl rfl) ⟨by decide, Or.inl rfl⟩ (by unfold fi; rw [t2]; decide)
    have kd2 : kd g n b = 2 ∧ gl = 0 ∧ wEnd g n b - b ≤ 4 := by
      have y := ht.2.2.1
      rw [t2] at y
      rcases kd_cases g n b with ⟨_, e⟩ | ⟨_, _, e⟩ | ⟨_, _, _, e⟩ | ⟨_, _, _, e⟩
      · rw [e, tkc_0] at y
        exact absurd y (by decide)
      · rw [e, tkc_1] at y
        split at y <;> exact absurd y (by decide)
      · rw [e, tkc_2] at y
        by_cases c : gl = 0 ∧ wEnd g n b - b ≤ 4
        · exact ⟨e, c.1, c.2⟩
        · rw [if_neg c] at y
          exact absurd y (by decide)
      · rw [e, tkc_3] at y
        exact absurd y (by decide)
    obtain ⟨x1, x2⟩ := kx (by rw [t2]; decide)
    refine ⟨1, h3, start _ _ ?_, k1.1.1, k2, Or.inr ⟨rfl, k1, YS.leaf (Or.inr kd2.1) kd2.2.1 (by unfold pceB; rw [kd2.1, if_pos rfl]; exact decide_eq_true kd2.2.2) x1 x2⟩⟩
    refine RA.steps 1 rfl ?_
    refine RA.getf rfl ho rfl (fld_at ho c18) ?_
    refine RA.steps 1 rfl ?_
    refine RA.if2F rfl (decide_eq_false (Decidable.not_not.mpr t2)) ?_
    refine RA.steps 3 rfl ?_
    refine RA.getf rfl ho rfl (fld_at ho c19) ?_
    exact q
  have p19 : ∀ res, RA prog E pV1 (d + 9) mX8_part0 19 [some (.ref 110), some (.int key)] [] h res → RA prog E pV1 (d + 9) mX8_part0 0 [some (.ref 110), some (.int key)] [] h res := by
    intro res k
    refine RA.steps 1 rfl ?_
    refine RA.getf rfl ho rfl (fld_at ho c18) ?_
    refine RA.steps 1 rfl ?_
    exact RA.if2T rfl (decide_eq_true t2) k
  -- a name
  have name : (∃ (r : Int32) (h' : List pC), RA prog E pV1 (d + 9) mX8_part0 19 [some (.ref 110), some (.int key)] [] h (some (.int r), h', 0, 0) ∧ HI HT h' ∧ FrP h h' ∧ RES 6 g n key b gl st h r h') ∨ ((ri h 110 18 = 1 → ri h 110 20 = 0 ∨ nmB key (ri h 110 20) = false) ∧ ∀ res, RA prog E pV1 (d + 9) mX8_part0 46 [some (.ref 110), some (.int key)] [] h res → RA prog E pV1 (d + 9) mX8_part0 19 [some (.ref 110), some (.int key)] [] h res) := by
    by_cases t1 : ri h 110 18 = 1
    · by_cases l0 : ri h 110 20 = 0
      · refine Or.inr ⟨fun _ => Or.inl l0, fun res k => ?_⟩
        refine RA.steps 1 rfl ?_
        refine RA.getf rfl ho rfl (fld_at ho c18) ?_
        refine RA.steps 1 rfl ?_
        refine RA.if2F rfl (decide_eq_false (Decidable.not_not.mpr t1)) ?_
        refine RA.steps 1 rfl ?_
        refine RA.getf rfl ho rfl (fld_at ho c20) ?_
        exact RA.if1T rfl (decide_eq_true l0) k
      · obtain ⟨r, hr, q0, hrb⟩ : ∃ r : Int32, (r = 0 ∨ (r = 1 ∧ 100 ≤ (ri h 110 20).toInt ∧ (ri h 110 20).toInt < 128)) ∧ Run prog E pV1 (d + 8) mX8_isName [.int key, .int (ri h 110 20)] h (some (.int r), h, 0, 0) ∧ (r = if nmB key (ri h 110 20) = true then 1 else 0) := by
          obtain ⟨r, hr, q0⟩ := isName_e (E := E) (V := pV1) (h := h) (d := d + 7) key (ri h 110 20) (by rcases hk with rfl | rfl | rfl <;> decide)
          have q1 := isNm_x (E := E) (h := h) (d := d + 7) hk (ri h 110 20)
          exact ⟨r, hr, q0, Value.int.inj (Option.some.inj (Prod.mk.inj (Run.det q0 q1)).1)⟩
        have pre : ∀ res, RA prog E pV1 (d + 9) mX8_part0 30 [some (.ref 110), some (.int key)] [.int r] h res → RA prog E pV1 (d + 9) mX8_part0 19 [some (.ref 110), some (.int key)] [] h res := by
          intro res k
          refine RA.steps 1 rfl ?_
          refine RA.getf rfl ho rfl (fld_at ho c18) ?_
          refine RA.steps 1 rfl ?_
          refine RA.if2F rfl (decide_eq_false (Decidable.not_not.mpr t1)) ?_
          refine RA.steps 1 rfl ?_
          refine RA.getf rfl ho rfl (fld_at ho c20) ?_
          refine RA.if1F rfl (decide_eq_false l0) ?_
          refine RA.steps 2 rfl ?_
          refine RA.getf rfl ho rfl (fld_at ho c20) ?_
          exact RA.call0 rfl rfl rfl q0 k
        rcases hr with rfl | ⟨rfl, v1, v2⟩
        · refine Or.inr ⟨fun _ => Or.inr ?_, fun res k => pre _ (RA.if1T rfl rfl k)⟩
          cases e : nmB key (ri h 110 20) with
          | false => rfl
          | true =>
            rw [e, if_pos rfl] at hrb
            exact absurd hrb (by decide)
        · obtain ⟨h3, q, k1, k2, kx⟩ := leaf 35 1 (ri h 110 20) (Or.inr rfl) ⟨by decide, Or.inr ⟨by omega, v2⟩⟩ (by unfold fi; rw [t1]; decide)
          have hnm : nmB key (ri h 110 20) = true := by
            cases e : nmB key (ri h 110 20) with
            | true => rfl
            | false =>
              rw [e, if_neg (by decide)] at hrb
              exact absurd hrb (by decide)
          have kd1 : kd g n b = 1 ∧ gl = 0 := by
            have y := ht.2.2.1
            rw [t1] at y
            rcases kd_cases g n b with ⟨_, e⟩ | ⟨_, _, e⟩ | ⟨_, _, _, e⟩ | ⟨_, _, _, e⟩
            · rw [e, tkc_0] at y
              exact absurd y (by decide)
            · rw [e, tkc_1] at y
              by_cases c : gl = 0
              · exact ⟨e, c⟩
              · rw [if_neg c] at y
                exact absurd y (by decide)
            · rw [e, tkc_2] at y
              split at y <;> exact absurd y (by decide)
            · rw [e, tkc_3] at y
              exact absurd y (by decide)
          have l20 := ht.2.2.2.1 kd1.1
          have len1 : wEnd g n b - b = 1 := by
            by_cases c : wEnd g n b - b = 1
            · exact c
            · rw [if_neg c] at l20
              exact absurd l20 l0
          rw [if_pos len1] at l20
          obtain ⟨x1, x2⟩ := kx (by rw [t1]; decide)
          refine Or.inl ⟨1, h3, pre _ ?_, k1.1.1, k2, Or.inr ⟨rfl, k1, YS.leaf (Or.inl kd1.1) kd1.2 (by unfold pceB; rw [kd1.1, if_neg (by decide), decide_eq_true len1, ← l20, hnm]; rfl) x1 x2⟩⟩
          refine RA.if1F rfl rfl ?_
          refine RA.steps 3 rfl ?_
          refine RA.getf rfl ho rfl (fld_at ho c20) ?_
          exact q
    · refine Or.inr ⟨fun z => absurd z t1, fun res k => ?_⟩
      refine RA.steps 1 rfl ?_
      refine RA.getf rfl ho rfl (fld_at ho c18) ?_
      refine RA.steps 1 rfl ?_
      exact RA.if2T rfl (decide_eq_true t1) k
  rcases name with ⟨r, h', q, w⟩ | ⟨nmf, p46⟩
  · exact ⟨r, h', start _ _ (p19 _ q), w⟩
  have g46 : ∀ res, RA prog E pV1 (d + 9) mX8_part0 46 [some (.ref 110), some (.int key)] [] h res → RA prog E pV1 (d + 9) mX8_part0 0 [some (.ref 110), some (.int key)] [] h res := fun res k => p19 _ (p46 _ k)
  have s33 := isSign_x (E := E) (V := pV1) (d := d + 7) 33 hp.1
  have s40 := isSign_x (E := E) (V := pV1) (d := d + 7) 40 hp.1
  -- not
  by_cases hn : (ri h 110 18 = 3 ∧ ri h 110 20 = 33) ∧ ri h 110 22 < 8
  · obtain ⟨e33, lt8⟩ := hn
    rw [if_pos e33] at s33
    have k18 : fi h 18 ≠ 0 := by unfold fi; rw [e33.1]; decide
    have lt8' : fi h 22 < 8 := Int32.lt_iff_toInt_lt.mp lt8
    have v22 : (ri h 110 22 + 1 : Int32).toInt = fi h 22 + 1 := i32_1 (by unfold fi at r22; omega) (by unfold fi at r22; omega)
    obtain ⟨u1, u2, u3⟩ := fld_put (i := 22) (lo := 0) (hi := 8) (v := ri h 110 22 + 1) hp.1 ho rfl (by rw [v22]; omega)
    have pp : PIn (h.set 110 (.inr (.inr (8, fs.set 22 (.int (ri h 110 22 + 1)))))) := by
      obtain ⟨-, z2, z3, z4, z5⟩ := hp
      refine ⟨u1, ?_, ?_, ?_, ?_⟩
      · rw [oneF.k (i := 22) u2 (by omega), oneF.k (i := 22) u2 (by omega)]; exact z2
      · rw [oneF.k (i := 22) u2 (by omega), oneF.k (i := 22) u2 (by omega)]; exact z3
      · rw [oneF.k (i := 22) u2 (by omega), oneF.k (i := 22) u2 (by omega), oneF.k (i := 22) u2 (by omega)]; exact z4
      · rw [oneF.k (i := 22) u2 (by omega), oneF.k (i := 22) u2 (by omega), oneF.k (i := 22) u2 (by omega)]; exact z5
    have w16 := oneF.k (i := 22) (j := 16) u2 (by omega)
    have w18 := oneF.k (i := 22) (j := 18) u2 (by omega)
    have w21 := oneF.k (i := 22) (j := 21) u2 (by omega)
    have w23 := oneF.k (i := 22) (j := 23) u2 (by omega)
    have w24 := oneF.k (i := 22) (j := 24) u2 (by omega)
    have wri := oneF.s (i := 22) u2
    have wP := oneF.p (i := 22) (Or.inl (by omega)) u2
    obtain ⟨h2, q2, n2⟩ := next_x (E := E) (V := pV1) (d := d) u1 pp.2.2.1
    obtain ⟨i2, f2, n21, n22, n23, n16, n18, nri⟩ := nt_in pp n2
    have n18 := n18 (by rw [w18]; exact k18)
    rw [w16] at n16 n18
    rw [u3, v22] at n22
    rw [w21] at n21
    rw [w23] at n23
    have k3 := tsg.1.mp e33.1
    have gb : g b = 33 := by rw [← ht.2.2.2.2.1 k3]; exact e33.2
    have c33 : cn1 33 st < 8 := by
      have y := ht.2.2.2.2.2.2
      omega
    have st1 := cst_ah (key := key) (gl := gl) (pc := ri h 110 25) k3 (Or.inr ⟨gb, c33⟩)
    have tu : TS g n b gl (33 :: st) (h.set 110 (.inr (.inr (8, fs.set 22 (.int (ri h 110 22 + 1)))))) := by
      obtain ⟨⟨y1, a1, a2⟩, ⟨y2, y3, y4⟩, y5, y6, y7, y8, y9⟩ := ht
      have w : ∀ j, j ≠ 22 → ri (h.set 110 (.inr (.inr (8, fs.set 22 (.int (ri h 110 22 + 1)))))) 110 j = ri h 110 j := fun j hj => ri_ct (u2 110 j (fun q => hj q.2))
      refine ⟨⟨fun j hj => by rw [ri_ct (u2 124 j (fun q => by omega))]; exact y1 j hj, a1, a2⟩, ⟨by rw [w 15 (by decide)]; exact y2, by rw [w 16 (by decide)]; exact y3, by rw [w 17 (by decide)]; exact y4⟩, by rw [w 18 (by decide)]; exact y5, fun q => by rw [w 20 (by decide)]; exact y6 q, fun q => by rw [w 20 (by decide)]; exact y7 q, ?_, ?_⟩
      · rw [cn_c0 (by decide), w21]
        exact y8
      · rw [cn_c1, u3, v22, y9]
        rfl
    obtain ⟨t2', e25, nb⟩ := tu.nx u1 (by rw [ri_ct (u2 110 18 (fun q => by omega)), e33.1]; decide) (by omega) q2 n2
    have e25' : ri h2 110 25 = ri h 110 25 := by rw [e25, ri_ct (u2 110 25 (fun q => by omega))]
    have i1 : its g n key 1 (b, gl, st, 1, ri h 110 25) = some (nxb g n b, glu (nI (kd g n b)) (wEnd g n b) (nxb g n b), 33 :: st, 1, ri h2 110 25) := by
      rw [its_1 st1, gb, e25']
      rfl
    obtain ⟨r3, h3, q3, i3, f3, ok3⟩ := hP (97 - fi h2 16).toNat (by omega) (d + 8) h2 key g n _ _ (33 :: st) hk i2 t2' (fun z => absurd z (by decide)) (Nat.le_refl _) (by push_cast at hd ⊢; omega)
    have pre : ∀ res, RA prog E pV1 (d + 9) mX8_part0 65 [some (.ref 110), some (.int key)] [.int r3] h3 res → RA prog E pV1 (d + 9) mX8_part0 46 [some (.ref 110), some (.int key)] [] h res := by
      intro res k
      refine RA.steps 2 rfl ?_
      refine call110 rfl rfl rfl rfl hp.1 rfl (Nat.le_of_ble_eq_true rfl) s33 ?_
      refine RA.if1F rfl rfl ?_
      refine RA.steps 1 rfl ?_
      refine RA.getf rfl ho rfl (fld_at ho c22) ?_
      refine RA.steps 1 rfl ?_
      refine RA.if2F rfl (decide_eq_false (Int32.not_le.mpr lt8)) ?_
      refine RA.steps 2 rfl ?_
      refine RA.getf rfl ho rfl (fld_at ho c22) ?_
      refine RA.steps (i' := 59) (L' := [some (.ref 110), some (.int key)]) (st' := [.int (ri h 110 22 + 1), .ref 110]) (h' := h) 2 rfl ?_
      refine RA.putf rfl ho rfl rfl ?_
      refine RA.steps 1 rfl ?_
      refine call110 rfl rfl rfl rfl u1 rfl (Nat.le_of_ble_eq_true rfl) q2 ?_
      refine RA.steps 2 rfl ?_
      exact call110 rfl rfl rfl rfl i2.1 rfl (Nat.le_of_ble_eq_true rfl) q3 k
    have fr3 : FrP h h3 := (wP.tr f2 (by omega)).tr f3 (by omega)
    rcases ok3 with ⟨rfl, no3⟩ | ⟨rfl, ok3, y3_⟩
    · exact ⟨0, h3, start _ _ (g46 _ (pre _ (RA.if1F rfl rfl (ret0 66 h3 (Or.inl rfl))))), i3, fr3, Or.inl ⟨rfl, no3.cmp i1⟩⟩
    · obtain ⟨i3', t21, t22, t16, t23, td, tT⟩ := ok3
      obtain ⟨fs3, ho3, -⟩ := hi_obj i3 HTm
      obtain ⟨c22', r22'⟩ := m_fld i3 (i := 22) (lo := 0) (hi := 8) rfl
      have b3 := (m_fld i3 (i := 16) (lo := 0) (hi := 96) rfl).2
      have v3 : (ri h3 110 22 - 1 : Int32).toInt = fi h3 22 - 1 := i32_m1 (by unfold fi at r22'; omega) (by unfold fi at r22'; omega)
      obtain ⟨x1, x2, x3⟩ := fld_put (i := 22) (lo := 0) (hi := 8) (v := ri h3 110 22 - 1) i3 ho3 rfl (by rw [v3]; omega)
      have x23 := oneF.k (i := 22) (j := 23) x2 (by omega)
      have x24 := oneF.k (i := 22) (j := 24) x2 (by omega)
      have x16 := oneF.k (i := 22) (j := 16) x2 (by omega)
      have x17 := oneF.k (i := 22) (j := 17) x2 (by omega)
      have x15 := oneF.k (i := 22) (j := 15) x2 (by omega)
      have x18 := oneF.k (i := 22) (j := 18) x2 (by omega)
      have x21 := oneF.k (i := 22) (j := 21) x2 (by omega)
      have xri := oneF.s (i := 22) x2
      have xP := oneF.p (i := 22) (Or.inl (by omega)) x2
      obtain ⟨-, y2, y3, y4, y5⟩ := i3'
      have e3 := f3.k (i := 24) (by omega) (by omega)
      have e2 := f2.k (i := 24) (by omega) (by omega)
      have hl4 : fi (h3.set 110 (.inr (.inr (8, fs3.set 22 (.int (ri h3 110 22 - 1)))))) 23 ≤ 97 := by omega
      obtain ⟨h5, q5, s1, s2, s3, s4, s5⟩ := step_x (E := E) (V := pV1) (d := d + 7) 2 33 x1 hl4 (by omega)
      obtain ⟨f5, s6⟩ := st_fr x1 hl4 ⟨s1, s2, s3, s4, s5⟩
      have z5 := hp.2.2.2.2
      have y5_ : YS 6 6 g n key b gl st (ri h 110 25) h5 := by
        obtain ⟨k9, b9, gl9, W9, e9, t9, hW9, fo9⟩ := y3_
        have w9 : ∀ j, j ≠ 22 → j ≠ 23 → ri h5 110 j = ri h3 110 j := fun j j1 j2 => by
          have a := s6 j j2
          rw [oneF.k (i := 22) x2 j1] at a
          exact Int32.toInt_inj.mp a
        refine ⟨1 + k9, b9, gl9, W9, ?_, ?_, hW9, fun _ => ⟨fun r r1 r2 => by omega, fun r1 => by omega⟩⟩
        · rw [its_add i1 e9, bs_6, bs_6, w9 25 (by decide) (by decide), snots, if_pos rfl]
        · obtain ⟨⟨y1, a1, a2⟩, ⟨y2, y3, y4⟩, y5, y6, y7, y8, y9⟩ := t9
          refine ⟨⟨fun j hj => by rw [ri_ct (s2 124 j (fun q => by omega) (fun q => by omega)), ri_ct (x2 124 j (fun q => by omega))]; exact y1 j hj, a1, a2⟩, ⟨by rw [w9 15 (by decide) (by decide)]; exact y2, by rw [w9 16 (by decide) (by decide)]; exact y3, by rw [w9 17 (by decide) (by decide)]; exact y4⟩, by rw [w9 18 (by decide) (by decide)]; exact y5, fun q => by rw [w9 20 (by decide) (by decide)]; exact y6 q, fun q => by rw [w9 20 (by decide) (by decide)]; exact y7 q, ?_, ?_⟩
          · rw [cn_c0 (by decide)] at y8
            unfold fi
            rw [w9 21 (by decide) (by decide)]
            exact y8
          · rw [cn_c1] at y9
            rw [s6 22 (by omega), x3, v3, y9]
            push_cast
            omega
      refine ⟨1, h5, start _ _ (g46 _ (pre _ ?_)), s1, (fr3.tr xP (by omega)).tr f5 (by omega), Or.inr ⟨rfl, ⟨⟨s1, ?_, ?_, ?_, ?_⟩, ?_, ?_, ?_, ?_, ?_, fun n => ?_⟩, y5_⟩⟩
      · refine RA.if1T rfl rfl ?_
        refine RA.steps 2 rfl ?_
        refine RA.getf rfl ho3 rfl (fld_at ho3 c22') ?_
        refine RA.steps (i' := 73) (L' := [some (.ref 110), some (.int key)]) (st' := [.int (ri h3 110 22 - 1), .ref 110]) (h' := h3) 2 rfl ?_
        refine RA.putf rfl ho3 rfl rfl ?_
        refine RA.steps 3 rfl ?_
        refine call110 rfl rfl rfl rfl x1 rfl (Nat.le_of_ble_eq_true rfl) q5 ?_
        refine RA.steps 1 rfl ?_
        exact RA.ret rfl rfl
      · rw [s6 16 (by omega), s6 17 (by omega), x16, x17]; exact y2
      · rw [s6 17 (by omega), s6 15 (by omega), x17, x15]; exact y3
      · rw [s6 18 (by omega), s6 16 (by omega), s6 17 (by omega), x18, x16, x17]; exact y4
      · rw [s6 16 (by omega), s6 24 (by omega)]; omega
      · rw [s6 21 (by omega)]; omega
      · rw [s6 22 (by omega), x3, v3]; omega
      · rw [s6 16 (by omega)]; omega
      · omega
      · rw [s6 16 (by omega)]; omega
      · have p1 : hT (ri h5 111) (fi h 24).toNat (fi h3 23 - fi h 23).toNat (fi h 23).toNat n = some (n + 1) := by
          rw [hT_eq (f := ri h3 111) _ _ _ (fun j j1 j2 => by rw [ri_ct (s2 111 j (by omega) (by omega)), xri])]
          have := tT n
          rw [n23, e2, w24] at this
          exact this
        have p3 : hT (ri h5 111) (fi h 24).toNat 1 (fi h3 23).toNat (n + 1) = some (n + 1) := by
          have ei : (fi h 24).toNat + 2 * (fi h3 23).toNat = (fi (h3.set 110 (.inr (.inr (8, fs3.set 22 (.int (ri h3 110 22 - 1)))))) 24 + 2 * fi (h3.set 110 (.inr (.inr (8, fs3.set 22 (.int (ri h3 110 22 - 1)))))) 23).toNat := by omega
          rw [hT, ei, s3, s4, if_pos rfl, if_pos rfl, if_pos (by omega)]
          rfl
        have a1 := hT_app _ _ _ _ _ _ p1 (by rw [show (fi h 23).toNat + (fi h3 23 - fi h 23).toNat = (fi h3 23).toNat by omega]; exact p3)
        rw [show (fi h5 23 - fi h 23).toNat = (fi h3 23 - fi h 23).toNat + 1 by omega]
        exact a1
  have p80 : ∀ res, RA prog E pV1 (d + 9) mX8_part0 80 [some (.ref 110), some (.int key)] [] h res → RA prog E pV1 (d + 9) mX8_part0 46 [some (.ref 110), some (.int key)] [] h res := by
    intro res k
    by_cases e33 : ri h 110 18 = 3 ∧ ri h 110 20 = 33
    · rw [if_pos e33] at s33
      refine RA.steps 2 rfl ?_
      refine call110 rfl rfl rfl rfl hp.1 rfl (Nat.le_of_ble_eq_true rfl) s33 ?_
      refine RA.if1F rfl rfl ?_
      refine RA.steps 1 rfl ?_
      refine RA.getf rfl ho rfl (fld_at ho c22) ?_
      refine RA.steps 1 rfl ?_
      exact RA.if2T rfl (decide_eq_true (Int32.not_lt.mp (fun q => hn ⟨e33, q⟩))) k
    · rw [if_neg e33] at s33
      refine RA.steps 2 rfl ?_
      refine call110 rfl rfl rfl rfl hp.1 rfl (Nat.le_of_ble_eq_true rfl) s33 ?_
      exact RA.if1T rfl rfl k
  have g80 : ∀ res, RA prog E pV1 (d + 9) mX8_part0 80 [some (.ref 110), some (.int key)] [] h res → RA prog E pV1 (d + 9) mX8_part0 0 [some (.ref 110), some (.int key)] [] h res := fun res k => g46 _ (p80 _ k)
  by_cases e40 : ri h 110 18 = 3 ∧ ri h 110 20 = 40
  · rw [if_pos e40] at s40
    have k18 : fi h 18 ≠ 0 := by unfold fi; rw [e40.1]; decide
    by_cases d8 : ri h 110 21 = 8
    · have k3 := tsg.1.mp e40.1
      have gb : g b = 40 := by rw [← ht.2.2.2.2.1 k3]; exact e40.2
      have c40 : ¬ cn1 40 st < 8 := by
        have y := ht.2.2.2.2.2.1
        unfold fi at y
        rw [d8, show (8 : Int32).toInt = 8 by decide] at y
        omega
      refine ⟨0, h, start _ _ (g80 _ ?_), hp.1, FrP.rf h, Or.inl ⟨rfl, NO.here ht (Or.inr (gon_sg k3 (fun z => c40 z.2) (fun z => absurd (gb.symm.trans z.1) (by decide))))⟩⟩
      refine RA.steps 2 rfl ?_
      refine call110 rfl rfl rfl rfl hp.1 rfl (Nat.le_of_ble_eq_true rfl) s40 ?_
      refine RA.if1F rfl rfl ?_
      refine RA.steps 1 rfl ?_
      refine RA.getf rfl ho rfl (fld_at ho c21) ?_
      refine RA.steps 1 rfl ?_
      refine RA.if2F rfl (decide_eq_false (Decidable.not_not.mpr d8)) ?_
      exact ret0 88 h (Or.inr (Or.inl rfl))
    · have d8' : fi h 21 < 8 := by
        have : fi h 21 ≠ 8 := fun q => d8 (i32_eq.mpr q)
        omega
      have v21 : (ri h 110 21 + 1 : Int32).toInt = fi h 21 + 1 := i32_1 (by unfold fi at r21; omega) (by unfold fi at r21; omega)
      obtain ⟨u1, u2, u3⟩ := fld_put (i := 21) (lo := 0) (hi := 8) (v := ri h 110 21 + 1) hp.1 ho rfl (by rw [v21]; omega)
      have pp : PIn (h.set 110 (.inr (.inr (8, fs.set 21 (.int (ri h 110 21 + 1)))))) := by
        obtain ⟨-, z2, z3, z4, z5⟩ := hp
        refine ⟨u1, ?_, ?_, ?_, ?_⟩
        · rw [oneF.k (i := 21) u2 (by omega), oneF.k (i := 21) u2 (by omega)]; exact z2
        · rw [oneF.k (i := 21) u2 (by omega), oneF.k (i := 21) u2 (by omega)]; exact z3
        · rw [oneF.k (i := 21) u2 (by omega), oneF.k (i := 21) u2 (by omega), oneF.k (i := 21) u2 (by omega)]; exact z4
        · rw [oneF.k (i := 21) u2 (by omega), oneF.k (i := 21) u2 (by omega), oneF.k (i := 21) u2 (by omega)]; exact z5
      have w16 := oneF.k (i := 21) (j := 16) u2 (by omega)
      have w18 := oneF.k (i := 21) (j := 18) u2 (by omega)
      have w22 := oneF.k (i := 21) (j := 22) u2 (by omega)
      have w23 := oneF.k (i := 21) (j := 23) u2 (by omega)
      have w24 := oneF.k (i := 21) (j := 24) u2 (by omega)
      have wri := oneF.s (i := 21) u2
      have wP := oneF.p (i := 21) (Or.inl (by omega)) u2
      obtain ⟨h2, q2, n2⟩ := next_x (E := E) (V := pV1) (d := d) u1 pp.2.2.1
      obtain ⟨i2, f2, n21, n22, n23, n16, n18, nri⟩ := nt_in pp n2
      have n18 := n18 (by rw [w18]; exact k18)
      rw [w16] at n16 n18
      rw [u3, v21] at n21
      rw [w22] at n22
      rw [w23] at n23
      have k3 := tsg.1.mp e40.1
      have gb : g b = 40 := by rw [← ht.2.2.2.2.1 k3]; exact e40.2
      have c40 : cn1 40 st < 8 := by
        have y := ht.2.2.2.2.2.1
        omega
      have st1 := cst_ah (key := key) (gl := gl) (pc := ri h 110 25) k3 (Or.inl ⟨gb, c40⟩)
      have tu : TS g n b gl (40 :: st) (h.set 110 (.inr (.inr (8, fs.set 21 (.int (ri h 110 21 + 1)))))) := by
        obtain ⟨⟨y1, a1, a2⟩, ⟨y2, y3, y4⟩, y5, y6, y7, y8, y9⟩ := ht
        have w : ∀ j, j ≠ 21 → ri (h.set 110 (.inr (.inr (8, fs.set 21 (.int (ri h 110 21 + 1)))))) 110 j = ri h 110 j := fun j hj => ri_ct (u2 110 j (fun q => hj q.2))
        refine ⟨⟨fun j hj => by rw [ri_ct (u2 124 j (fun q => by omega))]; exact y1 j hj, a1, a2⟩, ⟨by rw [w 15 (by decide)]; exact y2, by rw [w 16 (by decide)]; exact y3, by rw [w 17 (by decide)]; exact y4⟩, by rw [w 18 (by decide)]; exact y5, fun q => by rw [w 20 (by decide)]; exact y6 q, fun q => by rw [w 20 (by decide)]; exact y7 q, ?_, ?_⟩
        · rw [cn_c1, u3, v21, y8]
          rfl
        · rw [cn_c0 (by decide), w22]
          exact y9
      obtain ⟨t2', e25, nb⟩ := tu.nx u1 (by rw [ri_ct (u2 110 18 (fun q => by omega)), e40.1]; decide) (by omega) q2 n2
      have e25' : ri h2 110 25 = ri h 110 25 := by rw [e25, ri_ct (u2 110 25 (fun q => by omega))]
      have i1 : its g n key 1 (b, gl, st, 1, ri h 110 25) = some (nxb g n b, glu (nI (kd g n b)) (wEnd g n b) (nxb g n b), 40 :: st, 1, ri h2 110 25) := by
        rw [its_1 st1, gb, e25']
        rfl
      obtain ⟨r3, h3, q3, i3, f3, ok3⟩ := hE (97 - fi h2 16).toNat (by omega) (d + 8) h2 key g n _ _ (40 :: st) hk i2 t2' (fun _ => ⟨show ¬ (40 : Int32) = 33 by decide, by show rk 40 < 1; rw [rk_40]; decide⟩) (Nat.le_refl _) (by push_cast at hd ⊢; omega)
      have pre : ∀ res, RA prog E pV1 (d + 9) mX8_part0 101 [some (.ref 110), some (.int key)] [.int r3] h3 res → RA prog E pV1 (d + 9) mX8_part0 80 [some (.ref 110), some (.int key)] [] h res := by
        intro res k
        refine RA.steps 2 rfl ?_
        refine call110 rfl rfl rfl rfl hp.1 rfl (Nat.le_of_ble_eq_true rfl) s40 ?_
        refine RA.if1F rfl rfl ?_
        refine RA.steps 1 rfl ?_
        refine RA.getf rfl ho rfl (fld_at ho c21) ?_
        refine RA.steps 1 rfl ?_
        refine RA.if2T rfl (decide_eq_true d8) ?_
        refine RA.steps 2 rfl ?_
        refine RA.getf rfl ho rfl (fld_at ho c21) ?_
        refine RA.steps (i' := 95) (L' := [some (.ref 110), some (.int key)]) (st' := [.int (ri h 110 21 + 1), .ref 110]) (h' := h) 2 rfl ?_
        refine RA.putf rfl ho rfl rfl ?_
        refine RA.steps 1 rfl ?_
        refine call110 rfl rfl rfl rfl u1 rfl (Nat.le_of_ble_eq_true rfl) q2 ?_
        refine RA.steps 2 rfl ?_
        exact call110 rfl rfl rfl rfl i2.1 rfl (Nat.le_of_ble_eq_true rfl) q3 k
      have fr3 : FrP h h3 := (wP.tr f2 (by omega)).tr f3 (by omega)
      rcases ok3 with ⟨rfl, no3⟩ | ⟨rfl, ok3, y3_⟩
      · refine ⟨0, h3, start _ _ (g80 _ (pre _ ?_)), i3, fr3, Or.inl ⟨rfl, no3.cmp i1⟩⟩
        refine RA.if1T rfl rfl ?_
        exact ret0 106 h3 (Or.inr (Or.inr rfl))
      · have s41 := isSign_x (E := E) (V := pV1) (d := d + 7) 41 i3
        by_cases e41 : ri h3 110 18 = 3 ∧ ri h3 110 20 = 41
        · rw [if_pos e41] at s41
          obtain ⟨i3', t21, t22, t16, t23, td, tT⟩ := ok3
          obtain ⟨fs3, ho3, -⟩ := hi_obj i3 HTm
          obtain ⟨c21', r21'⟩ := m_fld i3 (i := 21) (lo := 0) (hi := 8) rfl
          have b3 := (m_fld i3 (i := 16) (lo := 0) (hi := 96) rfl).2
          have v3 : (ri h3 110 21 - 1 : Int32).toInt = fi h3 21 - 1 := i32_m1 (by unfold fi at r21'; omega) (by unfold fi at r21'; omega)
          obtain ⟨x1, x2, x3⟩ := fld_put (i := 21) (lo := 0) (hi := 8) (v := ri h3 110 21 - 1) i3 ho3 rfl (by rw [v3]; omega)
          have x23 := oneF.k (i := 21) (j := 23) x2 (by omega)
          have x24 := oneF.k (i := 21) (j := 24) x2 (by omega)
          have x16 := oneF.k (i := 21) (j := 16) x2 (by omega)
          have x17 := oneF.k (i := 21) (j := 17) x2 (by omega)
          have x15 := oneF.k (i := 21) (j := 15) x2 (by omega)
          have x18 := oneF.k (i := 21) (j := 18) x2 (by omega)
          have x22 := oneF.k (i := 21) (j := 22) x2 (by omega)
          have xri := oneF.s (i := 21) x2
          have xP := oneF.p (i := 21) (Or.inl (by omega)) x2
          obtain ⟨-, y2, y3, y4, y5⟩ := i3'
          have e3 := f3.k (i := 24) (by omega) (by omega)
          have e2 := f2.k (i := 24) (by omega) (by omega)
          have pp4 : PIn (h3.set 110 (.inr (.inr (8, fs3.set 21 (.int (ri h3 110 21 - 1)))))) := ⟨x1, by rw [x16, x17]; exact y2, by rw [x17, x15]; exact y3, by rw [x18, x16, x17]; exact y4, by omega⟩
          obtain ⟨h5, q5, n5⟩ := next_x (E := E) (V := pV1) (d := d) x1 pp4.2.2.1
          obtain ⟨i5, f5, m21, m22, m23, m16, m18, mri⟩ := nt_in pp4 n5
          have m18 := m18 (by rw [x18]; unfold fi; rw [e41.1]; decide)
          have y5_ : YS 6 6 g n key b gl st (ri h 110 25) h5 := by
            obtain ⟨k9, b9, gl9, W9, e9, t9, hW9, fo9⟩ := y3_
            rw [bs_n (by decide)] at e9
            have k39 := (tk_sign t9).1.mp e41.1
            have gb9 : g b9 = 41 := by rw [← t9.2.2.2.2.1 k39]; exact e41.2
            have st9 := cst_cl (key := key) (gl := gl9) (pc := ri h3 110 25) (st := st) k39 gb9 (fun x hx => (hW9 x hx).1)
            have w9 : ∀ j, j ≠ 21 → ri (h3.set 110 (.inr (.inr (8, fs3.set 21 (.int (ri h3 110 21 - 1)))))) 110 j = ri h3 110 j := fun j hj => ri_ct (x2 110 j (fun q => hj q.2))
            have t9' : TS g n b9 gl9 st (h3.set 110 (.inr (.inr (8, fs3.set 21 (.int (ri h3 110 21 - 1)))))) := by
              obtain ⟨⟨y1, a1, a2⟩, ⟨y2, y3, y4⟩, y5, y6, y7, y8, y9⟩ := t9
              refine ⟨⟨fun j hj => by rw [ri_ct (x2 124 j (fun q => by omega))]; exact y1 j hj, a1, a2⟩, ⟨by rw [w9 15 (by decide)]; exact y2, by rw [w9 16 (by decide)]; exact y3, by rw [w9 17 (by decide)]; exact y4⟩, by rw [w9 18 (by decide)]; exact y5, fun q => by rw [w9 20 (by decide)]; exact y6 q, fun q => by rw [w9 20 (by decide)]; exact y7 q, ?_, ?_⟩
              · rw [cn_c1] at y8
                rw [x3, v3, y8]
                push_cast
                omega
              · rw [cn_c0 (by decide)] at y9
                rw [x22]
                exact y9
            obtain ⟨t10, e10, -⟩ := t9'.nx x1 (by rw [w9 18 (by decide), e41.1]; decide) (by omega) q5 n5
            rw [w9 25 (by decide)] at e10
            refine ⟨1 + (k9 + 1), _, _, [], ?_, t10, fun x hx => absurd hx List.not_mem_nil, fun _ => ⟨fun r r1 r2 => by omega, fun r1 => by omega⟩⟩
            rw [its_add i1 (its_add e9 (by rw [its_1 st9]; rfl)), bs_6, e10]
            rfl
          refine ⟨1, h5, start _ _ (g80 _ (pre _ ?_)), i5.1, (fr3.tr xP (by omega)).tr f5 (by omega), Or.inr ⟨rfl, ⟨i5, by omega, by omega, by omega, by omega, by omega, fun n => ?_⟩, y5_⟩⟩
          · refine RA.if1F rfl rfl ?_
            refine RA.steps 2 rfl ?_
            refine call110 rfl rfl rfl rfl i3 rfl (Nat.le_of_ble_eq_true rfl) s41 ?_
            refine RA.if1T rfl rfl ?_
            refine RA.steps 2 rfl ?_
            refine RA.getf rfl ho3 rfl (fld_at ho3 c21') ?_
            refine RA.steps (i' := 113) (L' := [some (.ref 110), some (.int key)]) (st' := [.int (ri h3 110 21 - 1), .ref 110]) (h' := h3) 2 rfl ?_
            refine RA.putf rfl ho3 rfl rfl ?_
            refine RA.steps 1 rfl ?_
            refine call110 rfl rfl rfl rfl x1 rfl (Nat.le_of_ble_eq_true rfl) q5 ?_
            refine RA.steps 1 rfl ?_
            exact RA.ret rfl rfl
          · rw [hT_eq (f := ri h3 111) _ _ _ (fun j j1 j2 => by rw [mri, xri])]
            have := tT n
            rw [n23, e2, w24] at this
            rw [show (fi h5 23 - fi h 23).toNat = (fi h3 23 - fi h 23).toNat by omega]
            exact this
        · rw [if_neg e41] at s41
          have no_ : NO g n key b gl st (ri h 110 25) h3 := by
            obtain ⟨k9, b9, gl9, W9, e9, t9, hW9, fo9⟩ := y3_
            rw [bs_n (by decide)] at e9 fo9
            exact ⟨1 + k9, _, its_add i1 e9, cst_fo fo9 (fun z => e41 ⟨(tk_sign t9).1.mpr z.1, (t9.2.2.2.2.1 z.1).trans z.2.1⟩), fun z => absurd z.2.2 (by
              have y := unw_app (r := 1) (st := 40 :: st) (Nat.le_refl 1) (by show rk 40 < 1; rw [rk_40]; decide) W9 (fun x hx => (hW9 x hx).1)
              show ¬ cn1 40 (W9 ++ (40 :: st)) = 0
              rw [← unw_cn rk_40 (r := 1) (Nat.le_refl 1), y, cn_c1]
              omega), t9.2.1.2.1⟩
          refine ⟨0, h3, start _ _ (g80 _ (pre _ ?_)), i3, fr3, Or.inl ⟨rfl, no_⟩⟩
          refine RA.if1F rfl rfl ?_
          refine RA.steps 2 rfl ?_
          refine call110 rfl rfl rfl rfl i3 rfl (Nat.le_of_ble_eq_true rfl) s41 ?_
          refine RA.if1F rfl rfl ?_
          exact ret0 106 h3 (Or.inr (Or.inr rfl))
  · rw [if_neg e40] at s40
    have no_ : NO g n key b gl st (ri h 110 25) h := by
      refine NO.here ht ?_
      have y18 := ht.2.2.1
      have y20 := ht.2.2.2.1
      rcases kd_cases g n b with ⟨_, e⟩ | ⟨_, _, e⟩ | ⟨_, _, _, e⟩ | ⟨_, _, _, e⟩
      · exact Or.inl e
      · refine Or.inr ?_
        unfold gon
        rw [if_neg (by omega), if_neg (fun z => ?_)]
        rw [e, tkc_1, if_pos z.2.1] at y18
        have zp := z.2.2
        unfold pceB at zp
        rw [e, if_neg (by decide), Bool.and_eq_true] at zp
        have l1 := of_decide_eq_true zp.1
        have y := y20 e
        rw [if_pos l1] at y
        rcases nmf y18 with w | w
        · have cl := kd_bL e
          have c0 := Int32.le_iff_toInt_le.mp cl.1
          rw [← y, w] at c0
          exact absurd c0 (by decide)
        · rw [y, zp.2] at w
          exact absurd w (by decide)
      · refine Or.inr ?_
        unfold gon
        rw [if_neg (by omega), if_neg (fun z => ?_)]
        have zp := z.2.2
        unfold pceB at zp
        rw [e, if_pos rfl] at zp
        rw [e, tkc_2, if_pos ⟨z.2.1, of_decide_eq_true zp⟩] at y18
        exact t2 y18
      · have s3 := tsg.1.mpr e
        have y := ht.2.2.2.2.1 e
        refine Or.inr (gon_sg e (fun z => e40 ⟨s3, y.trans z.1⟩) (fun z => hn ⟨⟨s3, y.trans z.1⟩, Int32.lt_iff_toInt_lt.mpr ?_⟩))
        have y9 := ht.2.2.2.2.2.2
        rw [show (8 : Int32).toInt = 8 by decide]
        unfold fi at y9
        omega
    refine ⟨0, h, start _ _ (g80 _ ?_), hp.1, FrP.rf h, Or.inl ⟨rfl, no_⟩⟩
    refine RA.steps 2 rfl ?_
    refine call110 rfl rfl rfl rfl hp.1 rfl (Nat.le_of_ble_eq_true rfl) s40 ?_
    refine RA.if1T rfl rfl ?_
    exact ret0 88 h (Or.inr (Or.inl rfl))
/-- the grammar as a whole, with the class's turns -/
theorem gd_all : ∀ m : Nat, GD E mX8_part0 0 6 m ∧ GD E mX8_either 5 1 m := by
  intro m
  induction m using Nat.strongRecOn with
  | _ m ih =>
    have p : ∀ m' ≤ m, GD E mX8_part0 0 6 m' := fun m' hm => by
      by_cases e : m' = m
      · rw [e]
        exact gd_part0 (fun k hk => (ih k hk).2) (fun k hk => (ih k hk).1)
      · exact (ih m' (by omega)).1
    have t : ∀ m' ≤ m, GD E mX8_term 1 5 m' := fun m' hm => gd_term (fun k hk => p k (by omega))
    have s : ∀ m' ≤ m, GD E mX8_sum 2 4 m' := fun m' hm => gd_sum (fun k hk => t k (by omega))
    have u : ∀ m' ≤ m, GD E mX8_test 3 3 m' := fun m' hm => gd_test (fun k hk => s k (by omega))
    have v : ∀ m' ≤ m, GD E mX8_both 4 2 m' := fun m' hm => gd_both (fun k hk => u k (by omega))
    exact ⟨p m (Nat.le_refl m), gd_either v⟩
end PT2
