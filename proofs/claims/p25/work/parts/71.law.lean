/-! ===== the walk of the law (printed by program) ===== -/
def lE (L : Nat) (xs : Nat → Int32) : pX := fun k => if k = 0 then some (L, xs) else none
def lT (T : Nat) : pL := [some (.retAddr 0), some (.ref 0), some (.ref 110), some (.int (nI T))]
def lkeys : List (Int × Nat) := [(0, 22), (1, 59), (2, 86), (3, 113), (4, 140), (5, 167), (6, 204), (7, 231), (8, 248), (9, 265), (10, 282), (11, 309), (12, 336), (13, 373), (14, 400), (15, 407), (16, 414), (17, 431), (18, 448), (19, 465), (20, 492), (21, 499), (22, 536), (23, 563), (24, 590), (25, 597), (26, 614), (27, 651), (28, 668), (29, 675), (30, 702), (31, 719), (32, 756), (33, 793), (34, 810), (35, 827), (36, 884), (37, 921), (38, 948), (39, 975), (40, 1002), (41, 1019), (42, 1036), (43, 1043), (44, 1050)]
theorem l_psw {z k : Int} {t d : Nat} {r : List (Int × Nat)} (h : ¬ z = k) : psw z ((k, t) :: r) d = psw z r d := if_neg h
theorem l_neT {a b : Int32} {k : Int} (h : ¬ a = b) (hb : b.toInt = k) : ¬ a.toInt = k := fun q => h (Int32.toInt_inj.mp (q.trans hb.symm))
section LAW
variable {xs : Nat → Int32} {L T c i pc x y : Nat} {v : Value} {ts : List Nat} {st rest : List Value} {h h2 : List pC} {res : pR} {N : pM} {r : Option Value} {Lc : pL}
theorem law_iald {k : Int32} (he : (m_code mL_law)[i]? = some (pc, .iaload, x, y, v, ts)) (hk : k = nI c) (hc : T + c < L) (hL : L ≤ 3072) (kk : RA prog (lE L xs) pV1 121 mL_law (i + 1) Lc (.int (xs (T + c)) :: st) h res) : RA prog (lE L xs) pV1 121 mL_law i Lc (.int (nI T + k) :: .retAddr 0 :: st) h res := by
  subst hk
  rw [nI_add]
  refine RA.step0 he rfl rfl ?_ kk
  show (match lE L xs 0 with
    | some x => if 0 ≤ nI (T + c) ∧ (nI (T + c)).toNatClampNeg < x.1 then pnx i Lc (.int (x.2 (nI (T + c)).toNatClampNeg) :: st) h else none
    | none => none) = _
  unfold lE
  rw [if_pos rfl]
  dsimp only
  rw [nI_clamp (by omega), if_pos ⟨nI_pos' (by omega), hc⟩]
  rfl
theorem law_ial0 (he : (m_code mL_law)[i]? = some (pc, .iaload, x, y, v, ts)) (hc : T < L) (hL : L ≤ 3072) (kk : RA prog (lE L xs) pV1 121 mL_law (i + 1) Lc (.int (xs T) :: st) h res) : RA prog (lE L xs) pV1 121 mL_law i Lc (.int (nI T) :: .retAddr 0 :: st) h res := by
  refine RA.step0 he rfl rfl ?_ kk
  show (match lE L xs 0 with
    | some x => if 0 ≤ nI T ∧ (nI T).toNatClampNeg < x.1 then pnx i Lc (.int (x.2 (nI T).toNatClampNeg) :: st) h else none
    | none => none) = _
  unfold lE
  rw [if_pos rfl]
  dsimp only
  rw [nI_clamp (by omega), if_pos ⟨nI_pos' (by omega), hc⟩]
  rfl
theorem law_call {a n : Nat} {E : pX} (he : (m_code mL_law)[i]? = some (pc, .invokevirtual n, x, y, v, ts)) (hN : prog[x]? = some N) (hk : m_k N = 1) (ho : ∃ o, pobj h a = some o ∧ o.1 = m_c N) (hd : st.drop y = .ref a :: rest) (h8 : pcs rest ≤ 8) (hr : Run prog E pV1 120 N (.ref a :: (st.take y).reverse) h (r, h2, 0, 0)) (k : RA prog E pV1 121 mL_law (i + 1) Lc (r.toList ++ rest) h2 res) : RA prog E pV1 121 mL_law i Lc st h res := by
  obtain ⟨o, ho, hc⟩ := ho
  exact RA.call0 he rfl (pcallV hN hd ho hk hc h8) hr k

set_option maxRecDepth 100000 in
theorem law_0 (hT : T + 6 ≤ L) (hL : L ≤ 3072) (hh : HI HT h) (hj : JT h) (hR : RJ h) : ∃ h2, HI HT h2 ∧ JT h2 ∧ RJ h2 ∧ ∀ res, RA prog (lE L xs) pV1 121 mL_law 1067 (lT T) [] h2 res → RA prog (lE L xs) pV1 121 mL_law 22 (lT T) [] h res := by
  obtain ⟨r1, r2, h1, h2, q1, q2, ho, hh2, hj2, hR2⟩ := lw_rubbing (E := lE L xs) (xs (T + 1)) (xs (T + 2)) (xs (T + 3)) hh hj hR
  refine ⟨h2, hh2, hj2, hR2, fun res k => ?_⟩
  refine RA.steps (i' := 23) (L' := lT T) (st' := [.ref 0]) (h' := h) 1 rfl ?_
  refine RA.steps (i' := 27) (L' := lT T) (st' := .int (nI T + 1) :: .retAddr 0 :: [.ref 0]) (h' := h) 4 rfl ?_
  refine law_iald (c := 1) rfl rfl (by omega) hL ?_
  refine RA.steps (i' := 32) (L' := lT T) (st' := .int (nI T + 2) :: .retAddr 0 :: [.int (xs (T + 1)), .ref 0]) (h' := h) 4 rfl ?_
  refine law_iald (c := 2) rfl rfl (by omega) hL ?_
  refine RA.steps (i' := 37) (L' := lT T) (st' := .int (nI T + 3) :: .retAddr 0 :: [.int (xs (T + 2)), .int (xs (T + 1)), .ref 0]) (h' := h) 4 rfl ?_
  refine law_iald (c := 3) rfl rfl (by omega) hL ?_
  refine law_call (a := 0) rfl rfl rfl (cobj hh) rfl (Nat.le_of_ble_eq_true rfl) q1 ?_
  refine RA.steps (i' := 40) (L' := lT T) (st' := []) (h' := h1) 1 rfl ?_
  refine RA.steps (i' := 41) (L' := lT T) (st' := [.ref 110]) (h' := h1) 1 rfl ?_
  refine RA.steps (i' := 45) (L' := lT T) (st' := .int (nI T + 1) :: .retAddr 0 :: [.ref 110]) (h' := h1) 4 rfl ?_
  refine law_iald (c := 1) rfl rfl (by omega) hL ?_
  refine RA.steps (i' := 50) (L' := lT T) (st' := .int (nI T + 2) :: .retAddr 0 :: [.int (xs (T + 1)), .ref 110]) (h' := h1) 4 rfl ?_
  refine law_iald (c := 2) rfl rfl (by omega) hL ?_
  refine RA.steps (i' := 55) (L' := lT T) (st' := .int (nI T + 3) :: .retAddr 0 :: [.int (xs (T + 2)), .int (xs (T + 1)), .ref 110]) (h' := h1) 4 rfl ?_
  refine law_iald (c := 3) rfl rfl (by omega) hL ?_
  refine law_call (a := 110) rfl rfl rfl ho rfl (Nat.le_of_ble_eq_true rfl) q2 ?_
  refine RA.steps (i' := 58) (L' := lT T) (st' := []) (h' := h2) 1 rfl ?_
  refine RA.steps (i' := 1067) (L' := lT T) (st' := []) (h' := h2) 1 rfl ?_
  exact k
set_option maxRecDepth 100000 in
theorem law_1 (hT : T + 6 ≤ L) (hL : L ≤ 3072) (hh : HI HT h) (hj : JT h) (hR : RJ h) : ∃ h2, HI HT h2 ∧ JT h2 ∧ RJ h2 ∧ ∀ res, RA prog (lE L xs) pV1 121 mL_law 1067 (lT T) [] h2 res → RA prog (lE L xs) pV1 121 mL_law 59 (lT T) [] h res := by
  obtain ⟨r1, r2, h1, h2, q1, q2, ho, hh2, hj2, hR2⟩ := lw_told (E := lE L xs) (xs (T + 1)) (xs (T + 2)) hh hj hR
  refine ⟨h2, hh2, hj2, hR2, fun res k => ?_⟩
  refine RA.steps (i' := 60) (L' := lT T) (st' := [.ref 0]) (h' := h) 1 rfl ?_
  refine RA.steps (i' := 64) (L' := lT T) (st' := .int (nI T + 1) :: .retAddr 0 :: [.ref 0]) (h' := h) 4 rfl ?_
  refine law_iald (c := 1) rfl rfl (by omega) hL ?_
  refine RA.steps (i' := 69) (L' := lT T) (st' := .int (nI T + 2) :: .retAddr 0 :: [.int (xs (T + 1)), .ref 0]) (h' := h) 4 rfl ?_
  refine law_iald (c := 2) rfl rfl (by omega) hL ?_
  refine law_call (a := 0) rfl rfl rfl (cobj hh) rfl (Nat.le_of_ble_eq_true rfl) q1 ?_
  refine RA.steps (i' := 72) (L' := lT T) (st' := []) (h' := h1) 1 rfl ?_
  refine RA.steps (i' := 73) (L' := lT T) (st' := [.ref 110]) (h' := h1) 1 rfl ?_
  refine RA.steps (i' := 77) (L' := lT T) (st' := .int (nI T + 1) :: .retAddr 0 :: [.ref 110]) (h' := h1) 4 rfl ?_
  refine law_iald (c := 1) rfl rfl (by omega) hL ?_
  refine RA.steps (i' := 82) (L' := lT T) (st' := .int (nI T + 2) :: .retAddr 0 :: [.int (xs (T + 1)), .ref 110]) (h' := h1) 4 rfl ?_
  refine law_iald (c := 2) rfl rfl (by omega) hL ?_
  refine law_call (a := 110) rfl rfl rfl ho rfl (Nat.le_of_ble_eq_true rfl) q2 ?_
  refine RA.steps (i' := 85) (L' := lT T) (st' := []) (h' := h2) 1 rfl ?_
  refine RA.steps (i' := 1067) (L' := lT T) (st' := []) (h' := h2) 1 rfl ?_
  exact k
set_option maxRecDepth 100000 in
theorem law_2 (hT : T + 6 ≤ L) (hL : L ≤ 3072) (hh : HI HT h) (hj : JT h) (hR : RJ h) : ∃ h2, HI HT h2 ∧ JT h2 ∧ RJ h2 ∧ ∀ res, RA prog (lE L xs) pV1 121 mL_law 1067 (lT T) [] h2 res → RA prog (lE L xs) pV1 121 mL_law 86 (lT T) [] h res := by
  obtain ⟨r1, r2, h1, h2, q1, q2, ho, hh2, hj2, hR2⟩ := lw_says (E := lE L xs) (xs (T + 1)) (xs (T + 2)) hh hj hR
  refine ⟨h2, hh2, hj2, hR2, fun res k => ?_⟩
  refine RA.steps (i' := 87) (L' := lT T) (st' := [.ref 0]) (h' := h) 1 rfl ?_
  refine RA.steps (i' := 91) (L' := lT T) (st' := .int (nI T + 1) :: .retAddr 0 :: [.ref 0]) (h' := h) 4 rfl ?_
  refine law_iald (c := 1) rfl rfl (by omega) hL ?_
  refine RA.steps (i' := 96) (L' := lT T) (st' := .int (nI T + 2) :: .retAddr 0 :: [.int (xs (T + 1)), .ref 0]) (h' := h) 4 rfl ?_
  refine law_iald (c := 2) rfl rfl (by omega) hL ?_
  refine law_call (a := 0) rfl rfl rfl (cobj hh) rfl (Nat.le_of_ble_eq_true rfl) q1 ?_
  refine RA.steps (i' := 99) (L' := lT T) (st' := []) (h' := h1) 1 rfl ?_
  refine RA.steps (i' := 100) (L' := lT T) (st' := [.ref 110]) (h' := h1) 1 rfl ?_
  refine RA.steps (i' := 104) (L' := lT T) (st' := .int (nI T + 1) :: .retAddr 0 :: [.ref 110]) (h' := h1) 4 rfl ?_
  refine law_iald (c := 1) rfl rfl (by omega) hL ?_
  refine RA.steps (i' := 109) (L' := lT T) (st' := .int (nI T + 2) :: .retAddr 0 :: [.int (xs (T + 1)), .ref 110]) (h' := h1) 4 rfl ?_
  refine law_iald (c := 2) rfl rfl (by omega) hL ?_
  refine law_call (a := 110) rfl rfl rfl ho rfl (Nat.le_of_ble_eq_true rfl) q2 ?_
  refine RA.steps (i' := 112) (L' := lT T) (st' := []) (h' := h2) 1 rfl ?_
  refine RA.steps (i' := 1067) (L' := lT T) (st' := []) (h' := h2) 1 rfl ?_
  exact k
set_option maxRecDepth 100000 in
theorem law_3 (hT : T + 6 ≤ L) (hL : L ≤ 3072) (hh : HI HT h) (hj : JT h) (hR : RJ h) : ∃ h2, HI HT h2 ∧ JT h2 ∧ RJ h2 ∧ ∀ res, RA prog (lE L xs) pV1 121 mL_law 1067 (lT T) [] h2 res → RA prog (lE L xs) pV1 121 mL_law 113 (lT T) [] h res := by
  obtain ⟨r1, r2, h1, h2, q1, q2, ho, hh2, hj2, hR2⟩ := lw_as (E := lE L xs) (xs (T + 1)) (xs (T + 2)) hh hj hR
  refine ⟨h2, hh2, hj2, hR2, fun res k => ?_⟩
  refine RA.steps (i' := 114) (L' := lT T) (st' := [.ref 0]) (h' := h) 1 rfl ?_
  refine RA.steps (i' := 118) (L' := lT T) (st' := .int (nI T + 1) :: .retAddr 0 :: [.ref 0]) (h' := h) 4 rfl ?_
  refine law_iald (c := 1) rfl rfl (by omega) hL ?_
  refine RA.steps (i' := 123) (L' := lT T) (st' := .int (nI T + 2) :: .retAddr 0 :: [.int (xs (T + 1)), .ref 0]) (h' := h) 4 rfl ?_
  refine law_iald (c := 2) rfl rfl (by omega) hL ?_
  refine law_call (a := 0) rfl rfl rfl (cobj hh) rfl (Nat.le_of_ble_eq_true rfl) q1 ?_
  refine RA.steps (i' := 126) (L' := lT T) (st' := []) (h' := h1) 1 rfl ?_
  refine RA.steps (i' := 127) (L' := lT T) (st' := [.ref 110]) (h' := h1) 1 rfl ?_
  refine RA.steps (i' := 131) (L' := lT T) (st' := .int (nI T + 1) :: .retAddr 0 :: [.ref 110]) (h' := h1) 4 rfl ?_
  refine law_iald (c := 1) rfl rfl (by omega) hL ?_
  refine RA.steps (i' := 136) (L' := lT T) (st' := .int (nI T + 2) :: .retAddr 0 :: [.int (xs (T + 1)), .ref 110]) (h' := h1) 4 rfl ?_
  refine law_iald (c := 2) rfl rfl (by omega) hL ?_
  refine law_call (a := 110) rfl rfl rfl ho rfl (Nat.le_of_ble_eq_true rfl) q2 ?_
  refine RA.steps (i' := 139) (L' := lT T) (st' := []) (h' := h2) 1 rfl ?_
  refine RA.steps (i' := 1067) (L' := lT T) (st' := []) (h' := h2) 1 rfl ?_
  exact k
set_option maxRecDepth 100000 in
theorem law_4 (hT : T + 6 ≤ L) (hL : L ≤ 3072) (hh : HI HT h) (hj : JT h) (hR : RJ h) : ∃ h2, HI HT h2 ∧ JT h2 ∧ RJ h2 ∧ ∀ res, RA prog (lE L xs) pV1 121 mL_law 1067 (lT T) [] h2 res → RA prog (lE L xs) pV1 121 mL_law 140 (lT T) [] h res := by
  obtain ⟨r1, r2, h1, h2, q1, q2, ho, hh2, hj2, hR2⟩ := lw_turns (E := lE L xs) (xs (T + 1)) (xs (T + 2)) hh hj hR
  refine ⟨h2, hh2, hj2, hR2, fun res k => ?_⟩
  refine RA.steps (i' := 141) (L' := lT T) (st' := [.ref 0]) (h' := h) 1 rfl ?_
  refine RA.steps (i' := 145) (L' := lT T) (st' := .int (nI T + 1) :: .retAddr 0 :: [.ref 0]) (h' := h) 4 rfl ?_
  refine law_iald (c := 1) rfl rfl (by omega) hL ?_
  refine RA.steps (i' := 150) (L' := lT T) (st' := .int (nI T + 2) :: .retAddr 0 :: [.int (xs (T + 1)), .ref 0]) (h' := h) 4 rfl ?_
  refine law_iald (c := 2) rfl rfl (by omega) hL ?_
  refine law_call (a := 0) rfl rfl rfl (cobj hh) rfl (Nat.le_of_ble_eq_true rfl) q1 ?_
  refine RA.steps (i' := 153) (L' := lT T) (st' := []) (h' := h1) 1 rfl ?_
  refine RA.steps (i' := 154) (L' := lT T) (st' := [.ref 110]) (h' := h1) 1 rfl ?_
  refine RA.steps (i' := 158) (L' := lT T) (st' := .int (nI T + 1) :: .retAddr 0 :: [.ref 110]) (h' := h1) 4 rfl ?_
  refine law_iald (c := 1) rfl rfl (by omega) hL ?_
  refine RA.steps (i' := 163) (L' := lT T) (st' := .int (nI T + 2) :: .retAddr 0 :: [.int (xs (T + 1)), .ref 110]) (h' := h1) 4 rfl ?_
  refine law_iald (c := 2) rfl rfl (by omega) hL ?_
  refine law_call (a := 110) rfl rfl rfl ho rfl (Nat.le_of_ble_eq_true rfl) q2 ?_
  refine RA.steps (i' := 166) (L' := lT T) (st' := []) (h' := h2) 1 rfl ?_
  refine RA.steps (i' := 1067) (L' := lT T) (st' := []) (h' := h2) 1 rfl ?_
  exact k
set_option maxRecDepth 100000 in
theorem law_5 (hT : T + 6 ≤ L) (hL : L ≤ 3072) (hh : HI HT h) (hj : JT h) (hR : RJ h) : ∃ h2, HI HT h2 ∧ JT h2 ∧ RJ h2 ∧ ∀ res, RA prog (lE L xs) pV1 121 mL_law 1067 (lT T) [] h2 res → RA prog (lE L xs) pV1 121 mL_law 167 (lT T) [] h res := by
  obtain ⟨r1, r2, h1, h2, q1, q2, ho, hh2, hj2, hR2⟩ := lw_set (E := lE L xs) (xs (T + 1)) (xs (T + 2)) (xs (T + 3)) hh hj hR
  refine ⟨h2, hh2, hj2, hR2, fun res k => ?_⟩
  refine RA.steps (i' := 168) (L' := lT T) (st' := [.ref 0]) (h' := h) 1 rfl ?_
  refine RA.steps (i' := 172) (L' := lT T) (st' := .int (nI T + 1) :: .retAddr 0 :: [.ref 0]) (h' := h) 4 rfl ?_
  refine law_iald (c := 1) rfl rfl (by omega) hL ?_
  refine RA.steps (i' := 177) (L' := lT T) (st' := .int (nI T + 2) :: .retAddr 0 :: [.int (xs (T + 1)), .ref 0]) (h' := h) 4 rfl ?_
  refine law_iald (c := 2) rfl rfl (by omega) hL ?_
  refine RA.steps (i' := 182) (L' := lT T) (st' := .int (nI T + 3) :: .retAddr 0 :: [.int (xs (T + 2)), .int (xs (T + 1)), .ref 0]) (h' := h) 4 rfl ?_
  refine law_iald (c := 3) rfl rfl (by omega) hL ?_
  refine law_call (a := 0) rfl rfl rfl (cobj hh) rfl (Nat.le_of_ble_eq_true rfl) q1 ?_
  refine RA.steps (i' := 185) (L' := lT T) (st' := []) (h' := h1) 1 rfl ?_
  refine RA.steps (i' := 186) (L' := lT T) (st' := [.ref 110]) (h' := h1) 1 rfl ?_
  refine RA.steps (i' := 190) (L' := lT T) (st' := .int (nI T + 1) :: .retAddr 0 :: [.ref 110]) (h' := h1) 4 rfl ?_
  refine law_iald (c := 1) rfl rfl (by omega) hL ?_
  refine RA.steps (i' := 195) (L' := lT T) (st' := .int (nI T + 2) :: .retAddr 0 :: [.int (xs (T + 1)), .ref 110]) (h' := h1) 4 rfl ?_
  refine law_iald (c := 2) rfl rfl (by omega) hL ?_
  refine RA.steps (i' := 200) (L' := lT T) (st' := .int (nI T + 3) :: .retAddr 0 :: [.int (xs (T + 2)), .int (xs (T + 1)), .ref 110]) (h' := h1) 4 rfl ?_
  refine law_iald (c := 3) rfl rfl (by omega) hL ?_
  refine law_call (a := 110) rfl rfl rfl ho rfl (Nat.le_of_ble_eq_true rfl) q2 ?_
  refine RA.steps (i' := 203) (L' := lT T) (st' := []) (h' := h2) 1 rfl ?_
  refine RA.steps (i' := 1067) (L' := lT T) (st' := []) (h' := h2) 1 rfl ?_
  exact k
set_option maxRecDepth 100000 in
theorem law_6 (hT : T + 6 ≤ L) (hL : L ≤ 3072) (hh : HI HT h) (hj : JT h) (hR : RJ h) : ∃ h2, HI HT h2 ∧ JT h2 ∧ RJ h2 ∧ ∀ res, RA prog (lE L xs) pV1 121 mL_law 1067 (lT T) [] h2 res → RA prog (lE L xs) pV1 121 mL_law 204 (lT T) [] h res := by
  obtain ⟨r1, r2, h1, h2, q1, q2, ho, hh2, hj2, hR2⟩ := lw_carve (E := lE L xs) (xs (T + 1)) (xs (T + 2)) hh hj hR
  refine ⟨h2, hh2, hj2, hR2, fun res k => ?_⟩
  refine RA.steps (i' := 205) (L' := lT T) (st' := [.ref 0]) (h' := h) 1 rfl ?_
  refine RA.steps (i' := 209) (L' := lT T) (st' := .int (nI T + 1) :: .retAddr 0 :: [.ref 0]) (h' := h) 4 rfl ?_
  refine law_iald (c := 1) rfl rfl (by omega) hL ?_
  refine RA.steps (i' := 214) (L' := lT T) (st' := .int (nI T + 2) :: .retAddr 0 :: [.int (xs (T + 1)), .ref 0]) (h' := h) 4 rfl ?_
  refine law_iald (c := 2) rfl rfl (by omega) hL ?_
  refine law_call (a := 0) rfl rfl rfl (cobj hh) rfl (Nat.le_of_ble_eq_true rfl) q1 ?_
  refine RA.steps (i' := 217) (L' := lT T) (st' := []) (h' := h1) 1 rfl ?_
  refine RA.steps (i' := 218) (L' := lT T) (st' := [.ref 110]) (h' := h1) 1 rfl ?_
  refine RA.steps (i' := 222) (L' := lT T) (st' := .int (nI T + 1) :: .retAddr 0 :: [.ref 110]) (h' := h1) 4 rfl ?_
  refine law_iald (c := 1) rfl rfl (by omega) hL ?_
  refine RA.steps (i' := 227) (L' := lT T) (st' := .int (nI T + 2) :: .retAddr 0 :: [.int (xs (T + 1)), .ref 110]) (h' := h1) 4 rfl ?_
  refine law_iald (c := 2) rfl rfl (by omega) hL ?_
  refine law_call (a := 110) rfl rfl rfl ho rfl (Nat.le_of_ble_eq_true rfl) q2 ?_
  refine RA.steps (i' := 230) (L' := lT T) (st' := []) (h' := h2) 1 rfl ?_
  refine RA.steps (i' := 1067) (L' := lT T) (st' := []) (h' := h2) 1 rfl ?_
  exact k
set_option maxRecDepth 100000 in
theorem law_7 (hT : T + 6 ≤ L) (hL : L ≤ 3072) (hh : HI HT h) (hj : JT h) (hR : RJ h) : ∃ h2, HI HT h2 ∧ JT h2 ∧ RJ h2 ∧ ∀ res, RA prog (lE L xs) pV1 121 mL_law 1067 (lT T) [] h2 res → RA prog (lE L xs) pV1 121 mL_law 231 (lT T) [] h res := by
  obtain ⟨r1, r2, h1, h2, q1, q2, ho, hh2, hj2, hR2⟩ := lw_carved (E := lE L xs) (xs (T + 1)) hh hj hR
  refine ⟨h2, hh2, hj2, hR2, fun res k => ?_⟩
  refine RA.steps (i' := 232) (L' := lT T) (st' := [.ref 0]) (h' := h) 1 rfl ?_
  refine RA.steps (i' := 236) (L' := lT T) (st' := .int (nI T + 1) :: .retAddr 0 :: [.ref 0]) (h' := h) 4 rfl ?_
  refine law_iald (c := 1) rfl rfl (by omega) hL ?_
  refine law_call (a := 0) rfl rfl rfl (cobj hh) rfl (Nat.le_of_ble_eq_true rfl) q1 ?_
  refine RA.steps (i' := 239) (L' := lT T) (st' := []) (h' := h1) 1 rfl ?_
  refine RA.steps (i' := 240) (L' := lT T) (st' := [.ref 110]) (h' := h1) 1 rfl ?_
  refine RA.steps (i' := 244) (L' := lT T) (st' := .int (nI T + 1) :: .retAddr 0 :: [.ref 110]) (h' := h1) 4 rfl ?_
  refine law_iald (c := 1) rfl rfl (by omega) hL ?_
  refine law_call (a := 110) rfl rfl rfl ho rfl (Nat.le_of_ble_eq_true rfl) q2 ?_
  refine RA.steps (i' := 247) (L' := lT T) (st' := []) (h' := h2) 1 rfl ?_
  refine RA.steps (i' := 1067) (L' := lT T) (st' := []) (h' := h2) 1 rfl ?_
  exact k
set_option maxRecDepth 100000 in
theorem law_8 (hT : T + 6 ≤ L) (hL : L ≤ 3072) (hh : HI HT h) (hj : JT h) (hR : RJ h) : ∃ h2, HI HT h2 ∧ JT h2 ∧ RJ h2 ∧ ∀ res, RA prog (lE L xs) pV1 121 mL_law 1067 (lT T) [] h2 res → RA prog (lE L xs) pV1 121 mL_law 248 (lT T) [] h res := by
  obtain ⟨r1, r2, h1, h2, q1, q2, ho, hh2, hj2, hR2⟩ := lw_deal (E := lE L xs) (xs (T + 1)) hh hj hR
  refine ⟨h2, hh2, hj2, hR2, fun res k => ?_⟩
  refine RA.steps (i' := 249) (L' := lT T) (st' := [.ref 0]) (h' := h) 1 rfl ?_
  refine RA.steps (i' := 253) (L' := lT T) (st' := .int (nI T + 1) :: .retAddr 0 :: [.ref 0]) (h' := h) 4 rfl ?_
  refine law_iald (c := 1) rfl rfl (by omega) hL ?_
  refine law_call (a := 0) rfl rfl rfl (cobj hh) rfl (Nat.le_of_ble_eq_true rfl) q1 ?_
  refine RA.steps (i' := 256) (L' := lT T) (st' := []) (h' := h1) 1 rfl ?_
  refine RA.steps (i' := 257) (L' := lT T) (st' := [.ref 110]) (h' := h1) 1 rfl ?_
  refine RA.steps (i' := 261) (L' := lT T) (st' := .int (nI T + 1) :: .retAddr 0 :: [.ref 110]) (h' := h1) 4 rfl ?_
  refine law_iald (c := 1) rfl rfl (by omega) hL ?_
  refine law_call (a := 110) rfl rfl rfl ho rfl (Nat.le_of_ble_eq_true rfl) q2 ?_
  refine RA.steps (i' := 264) (L' := lT T) (st' := []) (h' := h2) 1 rfl ?_
  refine RA.steps (i' := 1067) (L' := lT T) (st' := []) (h' := h2) 1 rfl ?_
  exact k
set_option maxRecDepth 100000 in
theorem law_9 (hT : T + 6 ≤ L) (hL : L ≤ 3072) (hh : HI HT h) (hj : JT h) (hR : RJ h) : ∃ h2, HI HT h2 ∧ JT h2 ∧ RJ h2 ∧ ∀ res, RA prog (lE L xs) pV1 121 mL_law 1067 (lT T) [] h2 res → RA prog (lE L xs) pV1 121 mL_law 265 (lT T) [] h res := by
  obtain ⟨r1, r2, h1, h2, q1, q2, ho, hh2, hj2, hR2⟩ := lw_seed (E := lE L xs) (xs (T + 1)) hh hj hR
  refine ⟨h2, hh2, hj2, hR2, fun res k => ?_⟩
  refine RA.steps (i' := 266) (L' := lT T) (st' := [.ref 0]) (h' := h) 1 rfl ?_
  refine RA.steps (i' := 270) (L' := lT T) (st' := .int (nI T + 1) :: .retAddr 0 :: [.ref 0]) (h' := h) 4 rfl ?_
  refine law_iald (c := 1) rfl rfl (by omega) hL ?_
  refine law_call (a := 0) rfl rfl rfl (cobj hh) rfl (Nat.le_of_ble_eq_true rfl) q1 ?_
  refine RA.steps (i' := 273) (L' := lT T) (st' := []) (h' := h1) 1 rfl ?_
  refine RA.steps (i' := 274) (L' := lT T) (st' := [.ref 110]) (h' := h1) 1 rfl ?_
  refine RA.steps (i' := 278) (L' := lT T) (st' := .int (nI T + 1) :: .retAddr 0 :: [.ref 110]) (h' := h1) 4 rfl ?_
  refine law_iald (c := 1) rfl rfl (by omega) hL ?_
  refine law_call (a := 110) rfl rfl rfl ho rfl (Nat.le_of_ble_eq_true rfl) q2 ?_
  refine RA.steps (i' := 281) (L' := lT T) (st' := []) (h' := h2) 1 rfl ?_
  refine RA.steps (i' := 1067) (L' := lT T) (st' := []) (h' := h2) 1 rfl ?_
  exact k
set_option maxRecDepth 100000 in
theorem law_10 (hT : T + 6 ≤ L) (hL : L ≤ 3072) (hh : HI HT h) (hj : JT h) (hR : RJ h) : ∃ h2, HI HT h2 ∧ JT h2 ∧ RJ h2 ∧ ∀ res, RA prog (lE L xs) pV1 121 mL_law 1067 (lT T) [] h2 res → RA prog (lE L xs) pV1 121 mL_law 282 (lT T) [] h res := by
  obtain ⟨r1, r2, h1, h2, q1, q2, ho, hh2, hj2, hR2⟩ := lw_falseAt (E := lE L xs) (xs (T + 1)) (xs (T + 2)) hh hj hR
  refine ⟨h2, hh2, hj2, hR2, fun res k => ?_⟩
  refine RA.steps (i' := 283) (L' := lT T) (st' := [.ref 0]) (h' := h) 1 rfl ?_
  refine RA.steps (i' := 287) (L' := lT T) (st' := .int (nI T + 1) :: .retAddr 0 :: [.ref 0]) (h' := h) 4 rfl ?_
  refine law_iald (c := 1) rfl rfl (by omega) hL ?_
  refine RA.steps (i' := 292) (L' := lT T) (st' := .int (nI T + 2) :: .retAddr 0 :: [.int (xs (T + 1)), .ref 0]) (h' := h) 4 rfl ?_
  refine law_iald (c := 2) rfl rfl (by omega) hL ?_
  refine law_call (a := 0) rfl rfl rfl (cobj hh) rfl (Nat.le_of_ble_eq_true rfl) q1 ?_
  refine RA.steps (i' := 295) (L' := lT T) (st' := []) (h' := h1) 1 rfl ?_
  refine RA.steps (i' := 296) (L' := lT T) (st' := [.ref 110]) (h' := h1) 1 rfl ?_
  refine RA.steps (i' := 300) (L' := lT T) (st' := .int (nI T + 1) :: .retAddr 0 :: [.ref 110]) (h' := h1) 4 rfl ?_
  refine law_iald (c := 1) rfl rfl (by omega) hL ?_
  refine RA.steps (i' := 305) (L' := lT T) (st' := .int (nI T + 2) :: .retAddr 0 :: [.int (xs (T + 1)), .ref 110]) (h' := h1) 4 rfl ?_
  refine law_iald (c := 2) rfl rfl (by omega) hL ?_
  refine law_call (a := 110) rfl rfl rfl ho rfl (Nat.le_of_ble_eq_true rfl) q2 ?_
  refine RA.steps (i' := 308) (L' := lT T) (st' := []) (h' := h2) 1 rfl ?_
  refine RA.steps (i' := 1067) (L' := lT T) (st' := []) (h' := h2) 1 rfl ?_
  exact k
set_option maxRecDepth 100000 in
theorem law_11 (hT : T + 6 ≤ L) (hL : L ≤ 3072) (hh : HI HT h) (hj : JT h) (hR : RJ h) : ∃ h2, HI HT h2 ∧ JT h2 ∧ RJ h2 ∧ ∀ res, RA prog (lE L xs) pV1 121 mL_law 1067 (lT T) [] h2 res → RA prog (lE L xs) pV1 121 mL_law 309 (lT T) [] h res := by
  obtain ⟨r1, r2, h1, h2, q1, q2, ho, hh2, hj2, hR2⟩ := lw_fits (E := lE L xs) (xs (T + 1)) (xs (T + 2)) hh hj hR
  refine ⟨h2, hh2, hj2, hR2, fun res k => ?_⟩
  refine RA.steps (i' := 310) (L' := lT T) (st' := [.ref 0]) (h' := h) 1 rfl ?_
  refine RA.steps (i' := 314) (L' := lT T) (st' := .int (nI T + 1) :: .retAddr 0 :: [.ref 0]) (h' := h) 4 rfl ?_
  refine law_iald (c := 1) rfl rfl (by omega) hL ?_
  refine RA.steps (i' := 319) (L' := lT T) (st' := .int (nI T + 2) :: .retAddr 0 :: [.int (xs (T + 1)), .ref 0]) (h' := h) 4 rfl ?_
  refine law_iald (c := 2) rfl rfl (by omega) hL ?_
  refine law_call (a := 0) rfl rfl rfl (cobj hh) rfl (Nat.le_of_ble_eq_true rfl) q1 ?_
  refine RA.steps (i' := 322) (L' := lT T) (st' := []) (h' := h1) 1 rfl ?_
  refine RA.steps (i' := 323) (L' := lT T) (st' := [.ref 110]) (h' := h1) 1 rfl ?_
  refine RA.steps (i' := 327) (L' := lT T) (st' := .int (nI T + 1) :: .retAddr 0 :: [.ref 110]) (h' := h1) 4 rfl ?_
  refine law_iald (c := 1) rfl rfl (by omega) hL ?_
  refine RA.steps (i' := 332) (L' := lT T) (st' := .int (nI T + 2) :: .retAddr 0 :: [.int (xs (T + 1)), .ref 110]) (h' := h1) 4 rfl ?_
  refine law_iald (c := 2) rfl rfl (by omega) hL ?_
  refine law_call (a := 110) rfl rfl rfl ho rfl (Nat.le_of_ble_eq_true rfl) q2 ?_
  refine RA.steps (i' := 335) (L' := lT T) (st' := []) (h' := h2) 1 rfl ?_
  refine RA.steps (i' := 1067) (L' := lT T) (st' := []) (h' := h2) 1 rfl ?_
  exact k
set_option maxRecDepth 100000 in
theorem law_12 (hT : T + 6 ≤ L) (hL : L ≤ 3072) (hh : HI HT h) (hj : JT h) (hR : RJ h) : ∃ h2, HI HT h2 ∧ JT h2 ∧ RJ h2 ∧ ∀ res, RA prog (lE L xs) pV1 121 mL_law 1067 (lT T) [] h2 res → RA prog (lE L xs) pV1 121 mL_law 336 (lT T) [] h res := by
  obtain ⟨r1, r2, h1, h2, q1, q2, ho, hh2, hj2, hR2⟩ := lw_join (E := lE L xs) (xs (T + 1)) (xs (T + 2)) (xs (T + 3)) hh hj hR
  refine ⟨h2, hh2, hj2, hR2, fun res k => ?_⟩
  refine RA.steps (i' := 337) (L' := lT T) (st' := [.ref 0]) (h' := h) 1 rfl ?_
  refine RA.steps (i' := 341) (L' := lT T) (st' := .int (nI T + 1) :: .retAddr 0 :: [.ref 0]) (h' := h) 4 rfl ?_
  refine law_iald (c := 1) rfl rfl (by omega) hL ?_
  refine RA.steps (i' := 346) (L' := lT T) (st' := .int (nI T + 2) :: .retAddr 0 :: [.int (xs (T + 1)), .ref 0]) (h' := h) 4 rfl ?_
  refine law_iald (c := 2) rfl rfl (by omega) hL ?_
  refine RA.steps (i' := 351) (L' := lT T) (st' := .int (nI T + 3) :: .retAddr 0 :: [.int (xs (T + 2)), .int (xs (T + 1)), .ref 0]) (h' := h) 4 rfl ?_
  refine law_iald (c := 3) rfl rfl (by omega) hL ?_
  refine law_call (a := 0) rfl rfl rfl (cobj hh) rfl (Nat.le_of_ble_eq_true rfl) q1 ?_
  refine RA.steps (i' := 354) (L' := lT T) (st' := []) (h' := h1) 1 rfl ?_
  refine RA.steps (i' := 355) (L' := lT T) (st' := [.ref 110]) (h' := h1) 1 rfl ?_
  refine RA.steps (i' := 359) (L' := lT T) (st' := .int (nI T + 1) :: .retAddr 0 :: [.ref 110]) (h' := h1) 4 rfl ?_
  refine law_iald (c := 1) rfl rfl (by omega) hL ?_
  refine RA.steps (i' := 364) (L' := lT T) (st' := .int (nI T + 2) :: .retAddr 0 :: [.int (xs (T + 1)), .ref 110]) (h' := h1) 4 rfl ?_
  refine law_iald (c := 2) rfl rfl (by omega) hL ?_
  refine RA.steps (i' := 369) (L' := lT T) (st' := .int (nI T + 3) :: .retAddr 0 :: [.int (xs (T + 2)), .int (xs (T + 1)), .ref 110]) (h' := h1) 4 rfl ?_
  refine law_iald (c := 3) rfl rfl (by omega) hL ?_
  refine law_call (a := 110) rfl rfl rfl ho rfl (Nat.le_of_ble_eq_true rfl) q2 ?_
  refine RA.steps (i' := 372) (L' := lT T) (st' := []) (h' := h2) 1 rfl ?_
  refine RA.steps (i' := 1067) (L' := lT T) (st' := []) (h' := h2) 1 rfl ?_
  exact k
set_option maxRecDepth 100000 in
theorem law_13 (hT : T + 6 ≤ L) (hL : L ≤ 3072) (hh : HI HT h) (hj : JT h) (hR : RJ h) : ∃ h2, HI HT h2 ∧ JT h2 ∧ RJ h2 ∧ ∀ res, RA prog (lE L xs) pV1 121 mL_law 1067 (lT T) [] h2 res → RA prog (lE L xs) pV1 121 mL_law 373 (lT T) [] h res := by
  obtain ⟨r1, r2, h1, h2, q1, q2, ho, hh2, hj2, hR2⟩ := lw_clash (E := lE L xs) (xs (T + 1)) (xs (T + 2)) hh hj hR
  refine ⟨h2, hh2, hj2, hR2, fun res k => ?_⟩
  refine RA.steps (i' := 374) (L' := lT T) (st' := [.ref 0]) (h' := h) 1 rfl ?_
  refine RA.steps (i' := 378) (L' := lT T) (st' := .int (nI T + 1) :: .retAddr 0 :: [.ref 0]) (h' := h) 4 rfl ?_
  refine law_iald (c := 1) rfl rfl (by omega) hL ?_
  refine RA.steps (i' := 383) (L' := lT T) (st' := .int (nI T + 2) :: .retAddr 0 :: [.int (xs (T + 1)), .ref 0]) (h' := h) 4 rfl ?_
  refine law_iald (c := 2) rfl rfl (by omega) hL ?_
  refine law_call (a := 0) rfl rfl rfl (cobj hh) rfl (Nat.le_of_ble_eq_true rfl) q1 ?_
  refine RA.steps (i' := 386) (L' := lT T) (st' := []) (h' := h1) 1 rfl ?_
  refine RA.steps (i' := 387) (L' := lT T) (st' := [.ref 110]) (h' := h1) 1 rfl ?_
  refine RA.steps (i' := 391) (L' := lT T) (st' := .int (nI T + 1) :: .retAddr 0 :: [.ref 110]) (h' := h1) 4 rfl ?_
  refine law_iald (c := 1) rfl rfl (by omega) hL ?_
  refine RA.steps (i' := 396) (L' := lT T) (st' := .int (nI T + 2) :: .retAddr 0 :: [.int (xs (T + 1)), .ref 110]) (h' := h1) 4 rfl ?_
  refine law_iald (c := 2) rfl rfl (by omega) hL ?_
  refine law_call (a := 110) rfl rfl rfl ho rfl (Nat.le_of_ble_eq_true rfl) q2 ?_
  refine RA.steps (i' := 399) (L' := lT T) (st' := []) (h' := h2) 1 rfl ?_
  refine RA.steps (i' := 1067) (L' := lT T) (st' := []) (h' := h2) 1 rfl ?_
  exact k
set_option maxRecDepth 100000 in
theorem law_14 (hT : T + 6 ≤ L) (hL : L ≤ 3072) (hh : HI HT h) (hj : JT h) (hR : RJ h) : ∃ h2, HI HT h2 ∧ JT h2 ∧ RJ h2 ∧ ∀ res, RA prog (lE L xs) pV1 121 mL_law 1067 (lT T) [] h2 res → RA prog (lE L xs) pV1 121 mL_law 400 (lT T) [] h res := by
  obtain ⟨r1, r2, h1, h2, q1, q2, ho, hh2, hj2, hR2⟩ := lw_undone (E := lE L xs)  hh hj hR
  refine ⟨h2, hh2, hj2, hR2, fun res k => ?_⟩
  refine RA.steps (i' := 401) (L' := lT T) (st' := [.ref 0]) (h' := h) 1 rfl ?_
  refine law_call (a := 0) rfl rfl rfl (cobj hh) rfl (Nat.le_of_ble_eq_true rfl) q1 ?_
  refine RA.steps (i' := 403) (L' := lT T) (st' := []) (h' := h1) 1 rfl ?_
  refine RA.steps (i' := 404) (L' := lT T) (st' := [.ref 110]) (h' := h1) 1 rfl ?_
  refine law_call (a := 110) rfl rfl rfl ho rfl (Nat.le_of_ble_eq_true rfl) q2 ?_
  refine RA.steps (i' := 406) (L' := lT T) (st' := []) (h' := h2) 1 rfl ?_
  refine RA.steps (i' := 1067) (L' := lT T) (st' := []) (h' := h2) 1 rfl ?_
  exact k
set_option maxRecDepth 100000 in
theorem law_15 (hT : T + 6 ≤ L) (hL : L ≤ 3072) (hh : HI HT h) (hj : JT h) (hR : RJ h) : ∃ h2, HI HT h2 ∧ JT h2 ∧ RJ h2 ∧ ∀ res, RA prog (lE L xs) pV1 121 mL_law 1067 (lT T) [] h2 res → RA prog (lE L xs) pV1 121 mL_law 407 (lT T) [] h res := by
  obtain ⟨r1, r2, h1, h2, q1, q2, ho, hh2, hj2, hR2⟩ := lw_borne (E := lE L xs)  hh hj hR
  refine ⟨h2, hh2, hj2, hR2, fun res k => ?_⟩
  refine RA.steps (i' := 408) (L' := lT T) (st' := [.ref 0]) (h' := h) 1 rfl ?_
  refine law_call (a := 0) rfl rfl rfl (cobj hh) rfl (Nat.le_of_ble_eq_true rfl) q1 ?_
  refine RA.steps (i' := 410) (L' := lT T) (st' := []) (h' := h1) 1 rfl ?_
  refine RA.steps (i' := 411) (L' := lT T) (st' := [.ref 110]) (h' := h1) 1 rfl ?_
  refine law_call (a := 110) rfl rfl rfl ho rfl (Nat.le_of_ble_eq_true rfl) q2 ?_
  refine RA.steps (i' := 413) (L' := lT T) (st' := []) (h' := h2) 1 rfl ?_
  refine RA.steps (i' := 1067) (L' := lT T) (st' := []) (h' := h2) 1 rfl ?_
  exact k
set_option maxRecDepth 100000 in
theorem law_16 (hT : T + 6 ≤ L) (hL : L ≤ 3072) (hh : HI HT h) (hj : JT h) (hR : RJ h) : ∃ h2, HI HT h2 ∧ JT h2 ∧ RJ h2 ∧ ∀ res, RA prog (lE L xs) pV1 121 mL_law 1067 (lT T) [] h2 res → RA prog (lE L xs) pV1 121 mL_law 414 (lT T) [] h res := by
  obtain ⟨r1, r2, h1, h2, q1, q2, ho, hh2, hj2, hR2⟩ := lw_look (E := lE L xs) (xs (T + 1)) hh hj hR
  refine ⟨h2, hh2, hj2, hR2, fun res k => ?_⟩
  refine RA.steps (i' := 415) (L' := lT T) (st' := [.ref 0]) (h' := h) 1 rfl ?_
  refine RA.steps (i' := 419) (L' := lT T) (st' := .int (nI T + 1) :: .retAddr 0 :: [.ref 0]) (h' := h) 4 rfl ?_
  refine law_iald (c := 1) rfl rfl (by omega) hL ?_
  refine law_call (a := 0) rfl rfl rfl (cobj hh) rfl (Nat.le_of_ble_eq_true rfl) q1 ?_
  refine RA.steps (i' := 422) (L' := lT T) (st' := []) (h' := h1) 1 rfl ?_
  refine RA.steps (i' := 423) (L' := lT T) (st' := [.ref 110]) (h' := h1) 1 rfl ?_
  refine RA.steps (i' := 427) (L' := lT T) (st' := .int (nI T + 1) :: .retAddr 0 :: [.ref 110]) (h' := h1) 4 rfl ?_
  refine law_iald (c := 1) rfl rfl (by omega) hL ?_
  refine law_call (a := 110) rfl rfl rfl ho rfl (Nat.le_of_ble_eq_true rfl) q2 ?_
  refine RA.steps (i' := 430) (L' := lT T) (st' := []) (h' := h2) 1 rfl ?_
  refine RA.steps (i' := 1067) (L' := lT T) (st' := []) (h' := h2) 1 rfl ?_
  exact k
set_option maxRecDepth 100000 in
theorem law_17 (hT : T + 6 ≤ L) (hL : L ≤ 3072) (hh : HI HT h) (hj : JT h) (hR : RJ h) : ∃ h2, HI HT h2 ∧ JT h2 ∧ RJ h2 ∧ ∀ res, RA prog (lE L xs) pV1 121 mL_law 1067 (lT T) [] h2 res → RA prog (lE L xs) pV1 121 mL_law 431 (lT T) [] h res := by
  obtain ⟨r1, r2, h1, h2, q1, q2, ho, hh2, hj2, hR2⟩ := lw_tides (E := lE L xs) (xs (T + 1)) hh hj hR
  refine ⟨h2, hh2, hj2, hR2, fun res k => ?_⟩
  refine RA.steps (i' := 432) (L' := lT T) (st' := [.ref 0]) (h' := h) 1 rfl ?_
  refine RA.steps (i' := 436) (L' := lT T) (st' := .int (nI T + 1) :: .retAddr 0 :: [.ref 0]) (h' := h) 4 rfl ?_
  refine law_iald (c := 1) rfl rfl (by omega) hL ?_
  refine law_call (a := 0) rfl rfl rfl (cobj hh) rfl (Nat.le_of_ble_eq_true rfl) q1 ?_
  refine RA.steps (i' := 439) (L' := lT T) (st' := []) (h' := h1) 1 rfl ?_
  refine RA.steps (i' := 440) (L' := lT T) (st' := [.ref 110]) (h' := h1) 1 rfl ?_
  refine RA.steps (i' := 444) (L' := lT T) (st' := .int (nI T + 1) :: .retAddr 0 :: [.ref 110]) (h' := h1) 4 rfl ?_
  refine law_iald (c := 1) rfl rfl (by omega) hL ?_
  refine law_call (a := 110) rfl rfl rfl ho rfl (Nat.le_of_ble_eq_true rfl) q2 ?_
  refine RA.steps (i' := 447) (L' := lT T) (st' := []) (h' := h2) 1 rfl ?_
  refine RA.steps (i' := 1067) (L' := lT T) (st' := []) (h' := h2) 1 rfl ?_
  exact k
set_option maxRecDepth 100000 in
theorem law_18 (hT : T + 6 ≤ L) (hL : L ≤ 3072) (hh : HI HT h) (hj : JT h) (hR : RJ h) : ∃ h2, HI HT h2 ∧ JT h2 ∧ RJ h2 ∧ ∀ res, RA prog (lE L xs) pV1 121 mL_law 1067 (lT T) [] h2 res → RA prog (lE L xs) pV1 121 mL_law 448 (lT T) [] h res := by
  obtain ⟨r1, r2, h1, h2, q1, q2, ho, hh2, hj2, hR2⟩ := lw_book (E := lE L xs) (xs (T + 1)) hh hj hR
  refine ⟨h2, hh2, hj2, hR2, fun res k => ?_⟩
  refine RA.steps (i' := 449) (L' := lT T) (st' := [.ref 0]) (h' := h) 1 rfl ?_
  refine RA.steps (i' := 453) (L' := lT T) (st' := .int (nI T + 1) :: .retAddr 0 :: [.ref 0]) (h' := h) 4 rfl ?_
  refine law_iald (c := 1) rfl rfl (by omega) hL ?_
  refine law_call (a := 0) rfl rfl rfl (cobj hh) rfl (Nat.le_of_ble_eq_true rfl) q1 ?_
  refine RA.steps (i' := 456) (L' := lT T) (st' := []) (h' := h1) 1 rfl ?_
  refine RA.steps (i' := 457) (L' := lT T) (st' := [.ref 110]) (h' := h1) 1 rfl ?_
  refine RA.steps (i' := 461) (L' := lT T) (st' := .int (nI T + 1) :: .retAddr 0 :: [.ref 110]) (h' := h1) 4 rfl ?_
  refine law_iald (c := 1) rfl rfl (by omega) hL ?_
  refine law_call (a := 110) rfl rfl rfl ho rfl (Nat.le_of_ble_eq_true rfl) q2 ?_
  refine RA.steps (i' := 464) (L' := lT T) (st' := []) (h' := h2) 1 rfl ?_
  refine RA.steps (i' := 1067) (L' := lT T) (st' := []) (h' := h2) 1 rfl ?_
  exact k
set_option maxRecDepth 100000 in
theorem law_19 (hT : T + 6 ≤ L) (hL : L ≤ 3072) (hh : HI HT h) (hj : JT h) (hR : RJ h) : ∃ h2, HI HT h2 ∧ JT h2 ∧ RJ h2 ∧ ∀ res, RA prog (lE L xs) pV1 121 mL_law 1067 (lT T) [] h2 res → RA prog (lE L xs) pV1 121 mL_law 465 (lT T) [] h res := by
  obtain ⟨r1, r2, h1, h2, q1, q2, ho, hh2, hj2, hR2⟩ := lw_behind (E := lE L xs) (xs (T + 1)) (xs (T + 2)) hh hj hR
  refine ⟨h2, hh2, hj2, hR2, fun res k => ?_⟩
  refine RA.steps (i' := 466) (L' := lT T) (st' := [.ref 0]) (h' := h) 1 rfl ?_
  refine RA.steps (i' := 470) (L' := lT T) (st' := .int (nI T + 1) :: .retAddr 0 :: [.ref 0]) (h' := h) 4 rfl ?_
  refine law_iald (c := 1) rfl rfl (by omega) hL ?_
  refine RA.steps (i' := 475) (L' := lT T) (st' := .int (nI T + 2) :: .retAddr 0 :: [.int (xs (T + 1)), .ref 0]) (h' := h) 4 rfl ?_
  refine law_iald (c := 2) rfl rfl (by omega) hL ?_
  refine law_call (a := 0) rfl rfl rfl (cobj hh) rfl (Nat.le_of_ble_eq_true rfl) q1 ?_
  refine RA.steps (i' := 478) (L' := lT T) (st' := []) (h' := h1) 1 rfl ?_
  refine RA.steps (i' := 479) (L' := lT T) (st' := [.ref 110]) (h' := h1) 1 rfl ?_
  refine RA.steps (i' := 483) (L' := lT T) (st' := .int (nI T + 1) :: .retAddr 0 :: [.ref 110]) (h' := h1) 4 rfl ?_
  refine law_iald (c := 1) rfl rfl (by omega) hL ?_
  refine RA.steps (i' := 488) (L' := lT T) (st' := .int (nI T + 2) :: .retAddr 0 :: [.int (xs (T + 1)), .ref 110]) (h' := h1) 4 rfl ?_
  refine law_iald (c := 2) rfl rfl (by omega) hL ?_
  refine law_call (a := 110) rfl rfl rfl ho rfl (Nat.le_of_ble_eq_true rfl) q2 ?_
  refine RA.steps (i' := 491) (L' := lT T) (st' := []) (h' := h2) 1 rfl ?_
  refine RA.steps (i' := 1067) (L' := lT T) (st' := []) (h' := h2) 1 rfl ?_
  exact k
set_option maxRecDepth 100000 in
theorem law_20 (hT : T + 6 ≤ L) (hL : L ≤ 3072) (hh : HI HT h) (hj : JT h) (hR : RJ h) : ∃ h2, HI HT h2 ∧ JT h2 ∧ RJ h2 ∧ ∀ res, RA prog (lE L xs) pV1 121 mL_law 1067 (lT T) [] h2 res → RA prog (lE L xs) pV1 121 mL_law 492 (lT T) [] h res := by
  obtain ⟨r1, r2, h1, h2, q1, q2, ho, hh2, hj2, hR2⟩ := lw_lasts (E := lE L xs)  hh hj hR
  refine ⟨h2, hh2, hj2, hR2, fun res k => ?_⟩
  refine RA.steps (i' := 493) (L' := lT T) (st' := [.ref 0]) (h' := h) 1 rfl ?_
  refine law_call (a := 0) rfl rfl rfl (cobj hh) rfl (Nat.le_of_ble_eq_true rfl) q1 ?_
  refine RA.steps (i' := 495) (L' := lT T) (st' := []) (h' := h1) 1 rfl ?_
  refine RA.steps (i' := 496) (L' := lT T) (st' := [.ref 110]) (h' := h1) 1 rfl ?_
  refine law_call (a := 110) rfl rfl rfl ho rfl (Nat.le_of_ble_eq_true rfl) q2 ?_
  refine RA.steps (i' := 498) (L' := lT T) (st' := []) (h' := h2) 1 rfl ?_
  refine RA.steps (i' := 1067) (L' := lT T) (st' := []) (h' := h2) 1 rfl ?_
  exact k
set_option maxRecDepth 100000 in
theorem law_21 (hT : T + 6 ≤ L) (hL : L ≤ 3072) (hh : HI HT h) (hj : JT h) (hR : RJ h) : ∃ h2, HI HT h2 ∧ JT h2 ∧ RJ h2 ∧ ∀ res, RA prog (lE L xs) pV1 121 mL_law 1067 (lT T) [] h2 res → RA prog (lE L xs) pV1 121 mL_law 499 (lT T) [] h res := by
  obtain ⟨r1, r2, h1, h2, q1, q2, ho, hh2, hj2, hR2⟩ := lw_best (E := lE L xs) (xs (T + 1)) (xs (T + 2)) (xs (T + 3)) hh hj hR
  refine ⟨h2, hh2, hj2, hR2, fun res k => ?_⟩
  refine RA.steps (i' := 500) (L' := lT T) (st' := [.ref 0]) (h' := h) 1 rfl ?_
  refine RA.steps (i' := 504) (L' := lT T) (st' := .int (nI T + 1) :: .retAddr 0 :: [.ref 0]) (h' := h) 4 rfl ?_
  refine law_iald (c := 1) rfl rfl (by omega) hL ?_
  refine RA.steps (i' := 509) (L' := lT T) (st' := .int (nI T + 2) :: .retAddr 0 :: [.int (xs (T + 1)), .ref 0]) (h' := h) 4 rfl ?_
  refine law_iald (c := 2) rfl rfl (by omega) hL ?_
  refine RA.steps (i' := 514) (L' := lT T) (st' := .int (nI T + 3) :: .retAddr 0 :: [.int (xs (T + 2)), .int (xs (T + 1)), .ref 0]) (h' := h) 4 rfl ?_
  refine law_iald (c := 3) rfl rfl (by omega) hL ?_
  refine law_call (a := 0) rfl rfl rfl (cobj hh) rfl (Nat.le_of_ble_eq_true rfl) q1 ?_
  refine RA.steps (i' := 517) (L' := lT T) (st' := []) (h' := h1) 1 rfl ?_
  refine RA.steps (i' := 518) (L' := lT T) (st' := [.ref 110]) (h' := h1) 1 rfl ?_
  refine RA.steps (i' := 522) (L' := lT T) (st' := .int (nI T + 1) :: .retAddr 0 :: [.ref 110]) (h' := h1) 4 rfl ?_
  refine law_iald (c := 1) rfl rfl (by omega) hL ?_
  refine RA.steps (i' := 527) (L' := lT T) (st' := .int (nI T + 2) :: .retAddr 0 :: [.int (xs (T + 1)), .ref 110]) (h' := h1) 4 rfl ?_
  refine law_iald (c := 2) rfl rfl (by omega) hL ?_
  refine RA.steps (i' := 532) (L' := lT T) (st' := .int (nI T + 3) :: .retAddr 0 :: [.int (xs (T + 2)), .int (xs (T + 1)), .ref 110]) (h' := h1) 4 rfl ?_
  refine law_iald (c := 3) rfl rfl (by omega) hL ?_
  refine law_call (a := 110) rfl rfl rfl ho rfl (Nat.le_of_ble_eq_true rfl) q2 ?_
  refine RA.steps (i' := 535) (L' := lT T) (st' := []) (h' := h2) 1 rfl ?_
  refine RA.steps (i' := 1067) (L' := lT T) (st' := []) (h' := h2) 1 rfl ?_
  exact k
set_option maxRecDepth 100000 in
theorem law_22 (hT : T + 6 ≤ L) (hL : L ≤ 3072) (hh : HI HT h) (hj : JT h) (hR : RJ h) : ∃ h2, HI HT h2 ∧ JT h2 ∧ RJ h2 ∧ ∀ res, RA prog (lE L xs) pV1 121 mL_law 1067 (lT T) [] h2 res → RA prog (lE L xs) pV1 121 mL_law 536 (lT T) [] h res := by
  obtain ⟨r1, r2, h1, h2, q1, q2, ho, hh2, hj2, hR2⟩ := lw_taught (E := lE L xs) (xs (T + 1)) (xs (T + 2)) hh hj hR
  refine ⟨h2, hh2, hj2, hR2, fun res k => ?_⟩
  refine RA.steps (i' := 537) (L' := lT T) (st' := [.ref 0]) (h' := h) 1 rfl ?_
  refine RA.steps (i' := 541) (L' := lT T) (st' := .int (nI T + 1) :: .retAddr 0 :: [.ref 0]) (h' := h) 4 rfl ?_
  refine law_iald (c := 1) rfl rfl (by omega) hL ?_
  refine RA.steps (i' := 546) (L' := lT T) (st' := .int (nI T + 2) :: .retAddr 0 :: [.int (xs (T + 1)), .ref 0]) (h' := h) 4 rfl ?_
  refine law_iald (c := 2) rfl rfl (by omega) hL ?_
  refine law_call (a := 0) rfl rfl rfl (cobj hh) rfl (Nat.le_of_ble_eq_true rfl) q1 ?_
  refine RA.steps (i' := 549) (L' := lT T) (st' := []) (h' := h1) 1 rfl ?_
  refine RA.steps (i' := 550) (L' := lT T) (st' := [.ref 110]) (h' := h1) 1 rfl ?_
  refine RA.steps (i' := 554) (L' := lT T) (st' := .int (nI T + 1) :: .retAddr 0 :: [.ref 110]) (h' := h1) 4 rfl ?_
  refine law_iald (c := 1) rfl rfl (by omega) hL ?_
  refine RA.steps (i' := 559) (L' := lT T) (st' := .int (nI T + 2) :: .retAddr 0 :: [.int (xs (T + 1)), .ref 110]) (h' := h1) 4 rfl ?_
  refine law_iald (c := 2) rfl rfl (by omega) hL ?_
  refine law_call (a := 110) rfl rfl rfl ho rfl (Nat.le_of_ble_eq_true rfl) q2 ?_
  refine RA.steps (i' := 562) (L' := lT T) (st' := []) (h' := h2) 1 rfl ?_
  refine RA.steps (i' := 1067) (L' := lT T) (st' := []) (h' := h2) 1 rfl ?_
  exact k
set_option maxRecDepth 100000 in
theorem law_23 (hT : T + 6 ≤ L) (hL : L ≤ 3072) (hh : HI HT h) (hj : JT h) (hR : RJ h) : ∃ h2, HI HT h2 ∧ JT h2 ∧ RJ h2 ∧ ∀ res, RA prog (lE L xs) pV1 121 mL_law 1067 (lT T) [] h2 res → RA prog (lE L xs) pV1 121 mL_law 563 (lT T) [] h res := by
  obtain ⟨r1, h1, h2, q1, q2, ho, hh2, hj2, hR2⟩ := lw_whose (E := lE L xs) (xs (T + 1)) (xs (T + 2)) hh hj hR
  refine ⟨h2, hh2, hj2, hR2, fun res k => ?_⟩
  refine RA.steps (i' := 564) (L' := lT T) (st' := [.ref 0]) (h' := h) 1 rfl ?_
  refine RA.steps (i' := 568) (L' := lT T) (st' := .int (nI T + 1) :: .retAddr 0 :: [.ref 0]) (h' := h) 4 rfl ?_
  refine law_iald (c := 1) rfl rfl (by omega) hL ?_
  refine RA.steps (i' := 573) (L' := lT T) (st' := .int (nI T + 2) :: .retAddr 0 :: [.int (xs (T + 1)), .ref 0]) (h' := h) 4 rfl ?_
  refine law_iald (c := 2) rfl rfl (by omega) hL ?_
  refine law_call (a := 0) rfl rfl rfl (cobj hh) rfl (Nat.le_of_ble_eq_true rfl) q1 ?_
  refine RA.steps (i' := 576) (L' := lT T) (st' := [.ref 110, .int r1]) (h' := h1) 1 rfl ?_
  refine RA.steps (i' := 580) (L' := lT T) (st' := .int (nI T + 1) :: .retAddr 0 :: [.ref 110, .int r1]) (h' := h1) 4 rfl ?_
  refine law_iald (c := 1) rfl rfl (by omega) hL ?_
  refine RA.steps (i' := 585) (L' := lT T) (st' := .int (nI T + 2) :: .retAddr 0 :: [.int (xs (T + 1)), .ref 110, .int r1]) (h' := h1) 4 rfl ?_
  refine law_iald (c := 2) rfl rfl (by omega) hL ?_
  refine law_call (a := 110) rfl rfl rfl ho rfl (Nat.le_of_ble_eq_true rfl) q2 ?_
  refine RA.if2T (x := 1067) rfl (decide_eq_true rfl) ?_
  exact k
set_option maxRecDepth 100000 in
theorem law_24 (hT : T + 6 ≤ L) (hL : L ≤ 3072) (hh : HI HT h) (hj : JT h) (hR : RJ h) : ∃ h2, HI HT h2 ∧ JT h2 ∧ RJ h2 ∧ ∀ res, RA prog (lE L xs) pV1 121 mL_law 1067 (lT T) [] h2 res → RA prog (lE L xs) pV1 121 mL_law 590 (lT T) [] h res := by
  obtain ⟨r1, r2, h1, h2, q1, q2, ho, hh2, hj2, hR2⟩ := lw_fee (E := lE L xs)  hh hj hR
  refine ⟨h2, hh2, hj2, hR2, fun res k => ?_⟩
  refine RA.steps (i' := 591) (L' := lT T) (st' := [.ref 0]) (h' := h) 1 rfl ?_
  refine law_call (a := 0) rfl rfl rfl (cobj hh) rfl (Nat.le_of_ble_eq_true rfl) q1 ?_
  refine RA.steps (i' := 593) (L' := lT T) (st' := []) (h' := h1) 1 rfl ?_
  refine RA.steps (i' := 594) (L' := lT T) (st' := [.ref 110]) (h' := h1) 1 rfl ?_
  refine law_call (a := 110) rfl rfl rfl ho rfl (Nat.le_of_ble_eq_true rfl) q2 ?_
  refine RA.steps (i' := 596) (L' := lT T) (st' := []) (h' := h2) 1 rfl ?_
  refine RA.steps (i' := 1067) (L' := lT T) (st' := []) (h' := h2) 1 rfl ?_
  exact k
set_option maxRecDepth 100000 in
theorem law_25 (hT : T + 6 ≤ L) (hL : L ≤ 3072) (hh : HI HT h) (hj : JT h) (hR : RJ h) : ∃ h2, HI HT h2 ∧ JT h2 ∧ RJ h2 ∧ ∀ res, RA prog (lE L xs) pV1 121 mL_law 1067 (lT T) [] h2 res → RA prog (lE L xs) pV1 121 mL_law 597 (lT T) [] h res := by
  obtain ⟨r1, r2, h1, h2, q1, q2, ho, hh2, hj2, hR2⟩ := lw_fine (E := lE L xs) (xs (T + 1)) hh hj hR
  refine ⟨h2, hh2, hj2, hR2, fun res k => ?_⟩
  refine RA.steps (i' := 598) (L' := lT T) (st' := [.ref 0]) (h' := h) 1 rfl ?_
  refine RA.steps (i' := 602) (L' := lT T) (st' := .int (nI T + 1) :: .retAddr 0 :: [.ref 0]) (h' := h) 4 rfl ?_
  refine law_iald (c := 1) rfl rfl (by omega) hL ?_
  refine law_call (a := 0) rfl rfl rfl (cobj hh) rfl (Nat.le_of_ble_eq_true rfl) q1 ?_
  refine RA.steps (i' := 605) (L' := lT T) (st' := []) (h' := h1) 1 rfl ?_
  refine RA.steps (i' := 606) (L' := lT T) (st' := [.ref 110]) (h' := h1) 1 rfl ?_
  refine RA.steps (i' := 610) (L' := lT T) (st' := .int (nI T + 1) :: .retAddr 0 :: [.ref 110]) (h' := h1) 4 rfl ?_
  refine law_iald (c := 1) rfl rfl (by omega) hL ?_
  refine law_call (a := 110) rfl rfl rfl ho rfl (Nat.le_of_ble_eq_true rfl) q2 ?_
  refine RA.steps (i' := 613) (L' := lT T) (st' := []) (h' := h2) 1 rfl ?_
  refine RA.steps (i' := 1067) (L' := lT T) (st' := []) (h' := h2) 1 rfl ?_
  exact k
set_option maxRecDepth 100000 in
theorem law_26 (hT : T + 6 ≤ L) (hL : L ≤ 3072) (hh : HI HT h) (hj : JT h) (hR : RJ h) : ∃ h2, HI HT h2 ∧ JT h2 ∧ RJ h2 ∧ ∀ res, RA prog (lE L xs) pV1 121 mL_law 1067 (lT T) [] h2 res → RA prog (lE L xs) pV1 121 mL_law 614 (lT T) [] h res := by
  obtain ⟨r1, r2, h1, h2, q1, q2, ho, hh2, hj2, hR2⟩ := lw_feed (E := lE L xs) (xs (T + 1)) (xs (T + 2)) (xs (T + 3)) hh hj hR
  refine ⟨h2, hh2, hj2, hR2, fun res k => ?_⟩
  refine RA.steps (i' := 615) (L' := lT T) (st' := [.ref 0]) (h' := h) 1 rfl ?_
  refine RA.steps (i' := 619) (L' := lT T) (st' := .int (nI T + 1) :: .retAddr 0 :: [.ref 0]) (h' := h) 4 rfl ?_
  refine law_iald (c := 1) rfl rfl (by omega) hL ?_
  refine RA.steps (i' := 624) (L' := lT T) (st' := .int (nI T + 2) :: .retAddr 0 :: [.int (xs (T + 1)), .ref 0]) (h' := h) 4 rfl ?_
  refine law_iald (c := 2) rfl rfl (by omega) hL ?_
  refine RA.steps (i' := 629) (L' := lT T) (st' := .int (nI T + 3) :: .retAddr 0 :: [.int (xs (T + 2)), .int (xs (T + 1)), .ref 0]) (h' := h) 4 rfl ?_
  refine law_iald (c := 3) rfl rfl (by omega) hL ?_
  refine law_call (a := 0) rfl rfl rfl (cobj hh) rfl (Nat.le_of_ble_eq_true rfl) q1 ?_
  refine RA.steps (i' := 632) (L' := lT T) (st' := []) (h' := h1) 1 rfl ?_
  refine RA.steps (i' := 633) (L' := lT T) (st' := [.ref 110]) (h' := h1) 1 rfl ?_
  refine RA.steps (i' := 637) (L' := lT T) (st' := .int (nI T + 1) :: .retAddr 0 :: [.ref 110]) (h' := h1) 4 rfl ?_
  refine law_iald (c := 1) rfl rfl (by omega) hL ?_
  refine RA.steps (i' := 642) (L' := lT T) (st' := .int (nI T + 2) :: .retAddr 0 :: [.int (xs (T + 1)), .ref 110]) (h' := h1) 4 rfl ?_
  refine law_iald (c := 2) rfl rfl (by omega) hL ?_
  refine RA.steps (i' := 647) (L' := lT T) (st' := .int (nI T + 3) :: .retAddr 0 :: [.int (xs (T + 2)), .int (xs (T + 1)), .ref 110]) (h' := h1) 4 rfl ?_
  refine law_iald (c := 3) rfl rfl (by omega) hL ?_
  refine law_call (a := 110) rfl rfl rfl ho rfl (Nat.le_of_ble_eq_true rfl) q2 ?_
  refine RA.steps (i' := 650) (L' := lT T) (st' := []) (h' := h2) 1 rfl ?_
  refine RA.steps (i' := 1067) (L' := lT T) (st' := []) (h' := h2) 1 rfl ?_
  exact k
set_option maxRecDepth 100000 in
theorem law_27 (hT : T + 6 ≤ L) (hL : L ≤ 3072) (hh : HI HT h) (hj : JT h) (hR : RJ h) : ∃ h2, HI HT h2 ∧ JT h2 ∧ RJ h2 ∧ ∀ res, RA prog (lE L xs) pV1 121 mL_law 1067 (lT T) [] h2 res → RA prog (lE L xs) pV1 121 mL_law 651 (lT T) [] h res := by
  obtain ⟨r1, r2, h1, h2, q1, q2, ho, hh2, hj2, hR2⟩ := lw_trim (E := lE L xs) (xs (T + 1)) hh hj hR
  refine ⟨h2, hh2, hj2, hR2, fun res k => ?_⟩
  refine RA.steps (i' := 652) (L' := lT T) (st' := [.ref 0]) (h' := h) 1 rfl ?_
  refine RA.steps (i' := 656) (L' := lT T) (st' := .int (nI T + 1) :: .retAddr 0 :: [.ref 0]) (h' := h) 4 rfl ?_
  refine law_iald (c := 1) rfl rfl (by omega) hL ?_
  refine law_call (a := 0) rfl rfl rfl (cobj hh) rfl (Nat.le_of_ble_eq_true rfl) q1 ?_
  refine RA.steps (i' := 659) (L' := lT T) (st' := []) (h' := h1) 1 rfl ?_
  refine RA.steps (i' := 660) (L' := lT T) (st' := [.ref 110]) (h' := h1) 1 rfl ?_
  refine RA.steps (i' := 664) (L' := lT T) (st' := .int (nI T + 1) :: .retAddr 0 :: [.ref 110]) (h' := h1) 4 rfl ?_
  refine law_iald (c := 1) rfl rfl (by omega) hL ?_
  refine law_call (a := 110) rfl rfl rfl ho rfl (Nat.le_of_ble_eq_true rfl) q2 ?_
  refine RA.steps (i' := 667) (L' := lT T) (st' := []) (h' := h2) 1 rfl ?_
  refine RA.steps (i' := 1067) (L' := lT T) (st' := []) (h' := h2) 1 rfl ?_
  exact k
set_option maxRecDepth 100000 in
theorem law_28 (hT : T + 6 ≤ L) (hL : L ≤ 3072) (hh : HI HT h) (hj : JT h) (hR : RJ h) : ∃ h2, HI HT h2 ∧ JT h2 ∧ RJ h2 ∧ ∀ res, RA prog (lE L xs) pV1 121 mL_law 1067 (lT T) [] h2 res → RA prog (lE L xs) pV1 121 mL_law 668 (lT T) [] h res := by
  obtain ⟨r1, r2, h1, h2, q1, q2, ho, hh2, hj2, hR2⟩ := lw_text (E := lE L xs)  hh hj hR
  refine ⟨h2, hh2, hj2, hR2, fun res k => ?_⟩
  refine RA.steps (i' := 669) (L' := lT T) (st' := [.ref 0]) (h' := h) 1 rfl ?_
  refine law_call (a := 0) rfl rfl rfl (cobj hh) rfl (Nat.le_of_ble_eq_true rfl) q1 ?_
  refine RA.steps (i' := 671) (L' := lT T) (st' := []) (h' := h1) 1 rfl ?_
  refine RA.steps (i' := 672) (L' := lT T) (st' := [.ref 110]) (h' := h1) 1 rfl ?_
  refine law_call (a := 110) rfl rfl rfl ho rfl (Nat.le_of_ble_eq_true rfl) q2 ?_
  refine RA.steps (i' := 674) (L' := lT T) (st' := []) (h' := h2) 1 rfl ?_
  refine RA.steps (i' := 1067) (L' := lT T) (st' := []) (h' := h2) 1 rfl ?_
  exact k
set_option maxRecDepth 100000 in
theorem law_29 (hT : T + 6 ≤ L) (hL : L ≤ 3072) (hh : HI HT h) (hj : JT h) (hR : RJ h) : ∃ h2, HI HT h2 ∧ JT h2 ∧ RJ h2 ∧ ∀ res, RA prog (lE L xs) pV1 121 mL_law 1067 (lT T) [] h2 res → RA prog (lE L xs) pV1 121 mL_law 675 (lT T) [] h res := by
  obtain ⟨r1, r2, h1, h2, q1, q2, ho, hh2, hj2, hR2⟩ := lw_textTold (E := lE L xs) (xs (T + 1)) (xs (T + 2)) hh hj hR
  refine ⟨h2, hh2, hj2, hR2, fun res k => ?_⟩
  refine RA.steps (i' := 676) (L' := lT T) (st' := [.ref 0]) (h' := h) 1 rfl ?_
  refine RA.steps (i' := 680) (L' := lT T) (st' := .int (nI T + 1) :: .retAddr 0 :: [.ref 0]) (h' := h) 4 rfl ?_
  refine law_iald (c := 1) rfl rfl (by omega) hL ?_
  refine RA.steps (i' := 685) (L' := lT T) (st' := .int (nI T + 2) :: .retAddr 0 :: [.int (xs (T + 1)), .ref 0]) (h' := h) 4 rfl ?_
  refine law_iald (c := 2) rfl rfl (by omega) hL ?_
  refine law_call (a := 0) rfl rfl rfl (cobj hh) rfl (Nat.le_of_ble_eq_true rfl) q1 ?_
  refine RA.steps (i' := 688) (L' := lT T) (st' := []) (h' := h1) 1 rfl ?_
  refine RA.steps (i' := 689) (L' := lT T) (st' := [.ref 110]) (h' := h1) 1 rfl ?_
  refine RA.steps (i' := 693) (L' := lT T) (st' := .int (nI T + 1) :: .retAddr 0 :: [.ref 110]) (h' := h1) 4 rfl ?_
  refine law_iald (c := 1) rfl rfl (by omega) hL ?_
  refine RA.steps (i' := 698) (L' := lT T) (st' := .int (nI T + 2) :: .retAddr 0 :: [.int (xs (T + 1)), .ref 110]) (h' := h1) 4 rfl ?_
  refine law_iald (c := 2) rfl rfl (by omega) hL ?_
  refine law_call (a := 110) rfl rfl rfl ho rfl (Nat.le_of_ble_eq_true rfl) q2 ?_
  refine RA.steps (i' := 701) (L' := lT T) (st' := []) (h' := h2) 1 rfl ?_
  refine RA.steps (i' := 1067) (L' := lT T) (st' := []) (h' := h2) 1 rfl ?_
  exact k
set_option maxRecDepth 100000 in
theorem law_30 (hT : T + 6 ≤ L) (hL : L ≤ 3072) (hh : HI HT h) (hj : JT h) (hR : RJ h) : ∃ h2, HI HT h2 ∧ JT h2 ∧ RJ h2 ∧ ∀ res, RA prog (lE L xs) pV1 121 mL_law 1067 (lT T) [] h2 res → RA prog (lE L xs) pV1 121 mL_law 702 (lT T) [] h res := by
  obtain ⟨r1, r2, h1, h2, q1, q2, ho, hh2, hj2, hR2⟩ := lw_why (E := lE L xs) (xs (T + 1)) hh hj hR
  refine ⟨h2, hh2, hj2, hR2, fun res k => ?_⟩
  refine RA.steps (i' := 703) (L' := lT T) (st' := [.ref 0]) (h' := h) 1 rfl ?_
  refine RA.steps (i' := 707) (L' := lT T) (st' := .int (nI T + 1) :: .retAddr 0 :: [.ref 0]) (h' := h) 4 rfl ?_
  refine law_iald (c := 1) rfl rfl (by omega) hL ?_
  refine law_call (a := 0) rfl rfl rfl (cobj hh) rfl (Nat.le_of_ble_eq_true rfl) q1 ?_
  refine RA.steps (i' := 710) (L' := lT T) (st' := []) (h' := h1) 1 rfl ?_
  refine RA.steps (i' := 711) (L' := lT T) (st' := [.ref 110]) (h' := h1) 1 rfl ?_
  refine RA.steps (i' := 715) (L' := lT T) (st' := .int (nI T + 1) :: .retAddr 0 :: [.ref 110]) (h' := h1) 4 rfl ?_
  refine law_iald (c := 1) rfl rfl (by omega) hL ?_
  refine law_call (a := 110) rfl rfl rfl ho rfl (Nat.le_of_ble_eq_true rfl) q2 ?_
  refine RA.steps (i' := 718) (L' := lT T) (st' := []) (h' := h2) 1 rfl ?_
  refine RA.steps (i' := 1067) (L' := lT T) (st' := []) (h' := h2) 1 rfl ?_
  exact k
set_option maxRecDepth 100000 in
theorem law_31 (hT : T + 6 ≤ L) (hL : L ≤ 3072) (hh : HI HT h) (hj : JT h) (hR : RJ h) : ∃ h2, HI HT h2 ∧ JT h2 ∧ RJ h2 ∧ ∀ res, RA prog (lE L xs) pV1 121 mL_law 1067 (lT T) [] h2 res → RA prog (lE L xs) pV1 121 mL_law 719 (lT T) [] h res := by
  obtain ⟨r1, r2, h1, h2, q1, q2, ho, hh2, hj2, hR2⟩ := lw_sheet (E := lE L xs) (xs (T + 1)) (xs (T + 2)) (xs (T + 3)) hh hj hR
  refine ⟨h2, hh2, hj2, hR2, fun res k => ?_⟩
  refine RA.steps (i' := 720) (L' := lT T) (st' := [.ref 0]) (h' := h) 1 rfl ?_
  refine RA.steps (i' := 724) (L' := lT T) (st' := .int (nI T + 1) :: .retAddr 0 :: [.ref 0]) (h' := h) 4 rfl ?_
  refine law_iald (c := 1) rfl rfl (by omega) hL ?_
  refine RA.steps (i' := 729) (L' := lT T) (st' := .int (nI T + 2) :: .retAddr 0 :: [.int (xs (T + 1)), .ref 0]) (h' := h) 4 rfl ?_
  refine law_iald (c := 2) rfl rfl (by omega) hL ?_
  refine RA.steps (i' := 734) (L' := lT T) (st' := .int (nI T + 3) :: .retAddr 0 :: [.int (xs (T + 2)), .int (xs (T + 1)), .ref 0]) (h' := h) 4 rfl ?_
  refine law_iald (c := 3) rfl rfl (by omega) hL ?_
  refine law_call (a := 0) rfl rfl rfl (cobj hh) rfl (Nat.le_of_ble_eq_true rfl) q1 ?_
  refine RA.steps (i' := 737) (L' := lT T) (st' := []) (h' := h1) 1 rfl ?_
  refine RA.steps (i' := 738) (L' := lT T) (st' := [.ref 110]) (h' := h1) 1 rfl ?_
  refine RA.steps (i' := 742) (L' := lT T) (st' := .int (nI T + 1) :: .retAddr 0 :: [.ref 110]) (h' := h1) 4 rfl ?_
  refine law_iald (c := 1) rfl rfl (by omega) hL ?_
  refine RA.steps (i' := 747) (L' := lT T) (st' := .int (nI T + 2) :: .retAddr 0 :: [.int (xs (T + 1)), .ref 110]) (h' := h1) 4 rfl ?_
  refine law_iald (c := 2) rfl rfl (by omega) hL ?_
  refine RA.steps (i' := 752) (L' := lT T) (st' := .int (nI T + 3) :: .retAddr 0 :: [.int (xs (T + 2)), .int (xs (T + 1)), .ref 110]) (h' := h1) 4 rfl ?_
  refine law_iald (c := 3) rfl rfl (by omega) hL ?_
  refine law_call (a := 110) rfl rfl rfl ho rfl (Nat.le_of_ble_eq_true rfl) q2 ?_
  refine RA.steps (i' := 755) (L' := lT T) (st' := []) (h' := h2) 1 rfl ?_
  refine RA.steps (i' := 1067) (L' := lT T) (st' := []) (h' := h2) 1 rfl ?_
  exact k
set_option maxRecDepth 100000 in
theorem law_32 (hT : T + 6 ≤ L) (hL : L ≤ 3072) (hh : HI HT h) (hj : JT h) (hR : RJ h) : ∃ h2, HI HT h2 ∧ JT h2 ∧ RJ h2 ∧ ∀ res, RA prog (lE L xs) pV1 121 mL_law 1067 (lT T) [] h2 res → RA prog (lE L xs) pV1 121 mL_law 756 (lT T) [] h res := by
  obtain ⟨r1, r2, h1, h2, q1, q2, ho, hh2, hj2, hR2⟩ := lw_mark (E := lE L xs) (xs (T + 1)) (xs (T + 2)) (xs (T + 3)) hh hj hR
  refine ⟨h2, hh2, hj2, hR2, fun res k => ?_⟩
  refine RA.steps (i' := 757) (L' := lT T) (st' := [.ref 0]) (h' := h) 1 rfl ?_
  refine RA.steps (i' := 761) (L' := lT T) (st' := .int (nI T + 1) :: .retAddr 0 :: [.ref 0]) (h' := h) 4 rfl ?_
  refine law_iald (c := 1) rfl rfl (by omega) hL ?_
  refine RA.steps (i' := 766) (L' := lT T) (st' := .int (nI T + 2) :: .retAddr 0 :: [.int (xs (T + 1)), .ref 0]) (h' := h) 4 rfl ?_
  refine law_iald (c := 2) rfl rfl (by omega) hL ?_
  refine RA.steps (i' := 771) (L' := lT T) (st' := .int (nI T + 3) :: .retAddr 0 :: [.int (xs (T + 2)), .int (xs (T + 1)), .ref 0]) (h' := h) 4 rfl ?_
  refine law_iald (c := 3) rfl rfl (by omega) hL ?_
  refine law_call (a := 0) rfl rfl rfl (cobj hh) rfl (Nat.le_of_ble_eq_true rfl) q1 ?_
  refine RA.steps (i' := 774) (L' := lT T) (st' := []) (h' := h1) 1 rfl ?_
  refine RA.steps (i' := 775) (L' := lT T) (st' := [.ref 110]) (h' := h1) 1 rfl ?_
  refine RA.steps (i' := 779) (L' := lT T) (st' := .int (nI T + 1) :: .retAddr 0 :: [.ref 110]) (h' := h1) 4 rfl ?_
  refine law_iald (c := 1) rfl rfl (by omega) hL ?_
  refine RA.steps (i' := 784) (L' := lT T) (st' := .int (nI T + 2) :: .retAddr 0 :: [.int (xs (T + 1)), .ref 110]) (h' := h1) 4 rfl ?_
  refine law_iald (c := 2) rfl rfl (by omega) hL ?_
  refine RA.steps (i' := 789) (L' := lT T) (st' := .int (nI T + 3) :: .retAddr 0 :: [.int (xs (T + 2)), .int (xs (T + 1)), .ref 110]) (h' := h1) 4 rfl ?_
  refine law_iald (c := 3) rfl rfl (by omega) hL ?_
  refine law_call (a := 110) rfl rfl rfl ho rfl (Nat.le_of_ble_eq_true rfl) q2 ?_
  refine RA.steps (i' := 792) (L' := lT T) (st' := []) (h' := h2) 1 rfl ?_
  refine RA.steps (i' := 1067) (L' := lT T) (st' := []) (h' := h2) 1 rfl ?_
  exact k
set_option maxRecDepth 100000 in
theorem law_33 (hT : T + 6 ≤ L) (hL : L ≤ 3072) (hh : HI HT h) (hj : JT h) (hR : RJ h) : ∃ h2, HI HT h2 ∧ JT h2 ∧ RJ h2 ∧ ∀ res, RA prog (lE L xs) pV1 121 mL_law 1067 (lT T) [] h2 res → RA prog (lE L xs) pV1 121 mL_law 793 (lT T) [] h res := by
  obtain ⟨r1, r2, h1, h2, q1, q2, ho, hh2, hj2, hR2⟩ := lw_pour (E := lE L xs) (xs (T + 1)) hh hj hR
  refine ⟨h2, hh2, hj2, hR2, fun res k => ?_⟩
  refine RA.steps (i' := 794) (L' := lT T) (st' := [.ref 0]) (h' := h) 1 rfl ?_
  refine RA.steps (i' := 798) (L' := lT T) (st' := .int (nI T + 1) :: .retAddr 0 :: [.ref 0]) (h' := h) 4 rfl ?_
  refine law_iald (c := 1) rfl rfl (by omega) hL ?_
  refine law_call (a := 0) rfl rfl rfl (cobj hh) rfl (Nat.le_of_ble_eq_true rfl) q1 ?_
  refine RA.steps (i' := 801) (L' := lT T) (st' := []) (h' := h1) 1 rfl ?_
  refine RA.steps (i' := 802) (L' := lT T) (st' := [.ref 110]) (h' := h1) 1 rfl ?_
  refine RA.steps (i' := 806) (L' := lT T) (st' := .int (nI T + 1) :: .retAddr 0 :: [.ref 110]) (h' := h1) 4 rfl ?_
  refine law_iald (c := 1) rfl rfl (by omega) hL ?_
  refine law_call (a := 110) rfl rfl rfl ho rfl (Nat.le_of_ble_eq_true rfl) q2 ?_
  refine RA.steps (i' := 809) (L' := lT T) (st' := []) (h' := h2) 1 rfl ?_
  refine RA.steps (i' := 1067) (L' := lT T) (st' := []) (h' := h2) 1 rfl ?_
  exact k
set_option maxRecDepth 100000 in
theorem law_34 (hT : T + 6 ≤ L) (hL : L ≤ 3072) (hh : HI HT h) (hj : JT h) (hR : RJ h) : ∃ h2, HI HT h2 ∧ JT h2 ∧ RJ h2 ∧ ∀ res, RA prog (lE L xs) pV1 121 mL_law 1067 (lT T) [] h2 res → RA prog (lE L xs) pV1 121 mL_law 810 (lT T) [] h res := by
  obtain ⟨r1, r2, h1, h2, q1, q2, ho, hh2, hj2, hR2⟩ := lw_reads (E := lE L xs) (xs (T + 1)) hh hj hR
  refine ⟨h2, hh2, hj2, hR2, fun res k => ?_⟩
  refine RA.steps (i' := 811) (L' := lT T) (st' := [.ref 0]) (h' := h) 1 rfl ?_
  refine RA.steps (i' := 815) (L' := lT T) (st' := .int (nI T + 1) :: .retAddr 0 :: [.ref 0]) (h' := h) 4 rfl ?_
  refine law_iald (c := 1) rfl rfl (by omega) hL ?_
  refine law_call (a := 0) rfl rfl rfl (cobj hh) rfl (Nat.le_of_ble_eq_true rfl) q1 ?_
  refine RA.steps (i' := 818) (L' := lT T) (st' := []) (h' := h1) 1 rfl ?_
  refine RA.steps (i' := 819) (L' := lT T) (st' := [.ref 110]) (h' := h1) 1 rfl ?_
  refine RA.steps (i' := 823) (L' := lT T) (st' := .int (nI T + 1) :: .retAddr 0 :: [.ref 110]) (h' := h1) 4 rfl ?_
  refine law_iald (c := 1) rfl rfl (by omega) hL ?_
  refine law_call (a := 110) rfl rfl rfl ho rfl (Nat.le_of_ble_eq_true rfl) q2 ?_
  refine RA.steps (i' := 826) (L' := lT T) (st' := []) (h' := h2) 1 rfl ?_
  refine RA.steps (i' := 1067) (L' := lT T) (st' := []) (h' := h2) 1 rfl ?_
  exact k
set_option maxRecDepth 100000 in
theorem law_35 (hT : T + 6 ≤ L) (hL : L ≤ 3072) (hh : HI HT h) (hj : JT h) (hR : RJ h) : ∃ h2, HI HT h2 ∧ JT h2 ∧ RJ h2 ∧ ∀ res, RA prog (lE L xs) pV1 121 mL_law 1067 (lT T) [] h2 res → RA prog (lE L xs) pV1 121 mL_law 827 (lT T) [] h res := by
  obtain ⟨r1, r2, h1, h2, q1, q2, ho, hh2, hj2, hR2⟩ := lw_copy (E := lE L xs) (xs (T + 1)) (xs (T + 2)) (xs (T + 3)) (xs (T + 4)) (xs (T + 5)) hh hj hR
  refine ⟨h2, hh2, hj2, hR2, fun res k => ?_⟩
  refine RA.steps (i' := 828) (L' := lT T) (st' := [.ref 0]) (h' := h) 1 rfl ?_
  refine RA.steps (i' := 832) (L' := lT T) (st' := .int (nI T + 1) :: .retAddr 0 :: [.ref 0]) (h' := h) 4 rfl ?_
  refine law_iald (c := 1) rfl rfl (by omega) hL ?_
  refine RA.steps (i' := 837) (L' := lT T) (st' := .int (nI T + 2) :: .retAddr 0 :: [.int (xs (T + 1)), .ref 0]) (h' := h) 4 rfl ?_
  refine law_iald (c := 2) rfl rfl (by omega) hL ?_
  refine RA.steps (i' := 842) (L' := lT T) (st' := .int (nI T + 3) :: .retAddr 0 :: [.int (xs (T + 2)), .int (xs (T + 1)), .ref 0]) (h' := h) 4 rfl ?_
  refine law_iald (c := 3) rfl rfl (by omega) hL ?_
  refine RA.steps (i' := 847) (L' := lT T) (st' := .int (nI T + 4) :: .retAddr 0 :: [.int (xs (T + 3)), .int (xs (T + 2)), .int (xs (T + 1)), .ref 0]) (h' := h) 4 rfl ?_
  refine law_iald (c := 4) rfl rfl (by omega) hL ?_
  refine RA.steps (i' := 852) (L' := lT T) (st' := .int (nI T + 5) :: .retAddr 0 :: [.int (xs (T + 4)), .int (xs (T + 3)), .int (xs (T + 2)), .int (xs (T + 1)), .ref 0]) (h' := h) 4 rfl ?_
  refine law_iald (c := 5) rfl rfl (by omega) hL ?_
  refine law_call (a := 0) rfl rfl rfl (cobj hh) rfl (Nat.le_of_ble_eq_true rfl) q1 ?_
  refine RA.steps (i' := 855) (L' := lT T) (st' := []) (h' := h1) 1 rfl ?_
  refine RA.steps (i' := 856) (L' := lT T) (st' := [.ref 110]) (h' := h1) 1 rfl ?_
  refine RA.steps (i' := 860) (L' := lT T) (st' := .int (nI T + 1) :: .retAddr 0 :: [.ref 110]) (h' := h1) 4 rfl ?_
  refine law_iald (c := 1) rfl rfl (by omega) hL ?_
  refine RA.steps (i' := 865) (L' := lT T) (st' := .int (nI T + 2) :: .retAddr 0 :: [.int (xs (T + 1)), .ref 110]) (h' := h1) 4 rfl ?_
  refine law_iald (c := 2) rfl rfl (by omega) hL ?_
  refine RA.steps (i' := 870) (L' := lT T) (st' := .int (nI T + 3) :: .retAddr 0 :: [.int (xs (T + 2)), .int (xs (T + 1)), .ref 110]) (h' := h1) 4 rfl ?_
  refine law_iald (c := 3) rfl rfl (by omega) hL ?_
  refine RA.steps (i' := 875) (L' := lT T) (st' := .int (nI T + 4) :: .retAddr 0 :: [.int (xs (T + 3)), .int (xs (T + 2)), .int (xs (T + 1)), .ref 110]) (h' := h1) 4 rfl ?_
  refine law_iald (c := 4) rfl rfl (by omega) hL ?_
  refine RA.steps (i' := 880) (L' := lT T) (st' := .int (nI T + 5) :: .retAddr 0 :: [.int (xs (T + 4)), .int (xs (T + 3)), .int (xs (T + 2)), .int (xs (T + 1)), .ref 110]) (h' := h1) 4 rfl ?_
  refine law_iald (c := 5) rfl rfl (by omega) hL ?_
  refine law_call (a := 110) rfl rfl rfl ho rfl (Nat.le_of_ble_eq_true rfl) q2 ?_
  refine RA.steps (i' := 883) (L' := lT T) (st' := []) (h' := h2) 1 rfl ?_
  refine RA.steps (i' := 1067) (L' := lT T) (st' := []) (h' := h2) 1 rfl ?_
  exact k
set_option maxRecDepth 100000 in
theorem law_36 (hT : T + 6 ≤ L) (hL : L ≤ 3072) (hh : HI HT h) (hj : JT h) (hR : RJ h) : ∃ h2, HI HT h2 ∧ JT h2 ∧ RJ h2 ∧ ∀ res, RA prog (lE L xs) pV1 121 mL_law 1067 (lT T) [] h2 res → RA prog (lE L xs) pV1 121 mL_law 884 (lT T) [] h res := by
  obtain ⟨r1, r2, h1, h2, q1, q2, ho, hh2, hj2, hR2⟩ := lw_lay (E := lE L xs) (xs (T + 1)) (xs (T + 2)) (xs (T + 3)) hh hj hR
  refine ⟨h2, hh2, hj2, hR2, fun res k => ?_⟩
  refine RA.steps (i' := 885) (L' := lT T) (st' := [.ref 0]) (h' := h) 1 rfl ?_
  refine RA.steps (i' := 889) (L' := lT T) (st' := .int (nI T + 1) :: .retAddr 0 :: [.ref 0]) (h' := h) 4 rfl ?_
  refine law_iald (c := 1) rfl rfl (by omega) hL ?_
  refine RA.steps (i' := 894) (L' := lT T) (st' := .int (nI T + 2) :: .retAddr 0 :: [.int (xs (T + 1)), .ref 0]) (h' := h) 4 rfl ?_
  refine law_iald (c := 2) rfl rfl (by omega) hL ?_
  refine RA.steps (i' := 899) (L' := lT T) (st' := .int (nI T + 3) :: .retAddr 0 :: [.int (xs (T + 2)), .int (xs (T + 1)), .ref 0]) (h' := h) 4 rfl ?_
  refine law_iald (c := 3) rfl rfl (by omega) hL ?_
  refine law_call (a := 0) rfl rfl rfl (cobj hh) rfl (Nat.le_of_ble_eq_true rfl) q1 ?_
  refine RA.steps (i' := 902) (L' := lT T) (st' := []) (h' := h1) 1 rfl ?_
  refine RA.steps (i' := 903) (L' := lT T) (st' := [.ref 110]) (h' := h1) 1 rfl ?_
  refine RA.steps (i' := 907) (L' := lT T) (st' := .int (nI T + 1) :: .retAddr 0 :: [.ref 110]) (h' := h1) 4 rfl ?_
  refine law_iald (c := 1) rfl rfl (by omega) hL ?_
  refine RA.steps (i' := 912) (L' := lT T) (st' := .int (nI T + 2) :: .retAddr 0 :: [.int (xs (T + 1)), .ref 110]) (h' := h1) 4 rfl ?_
  refine law_iald (c := 2) rfl rfl (by omega) hL ?_
  refine RA.steps (i' := 917) (L' := lT T) (st' := .int (nI T + 3) :: .retAddr 0 :: [.int (xs (T + 2)), .int (xs (T + 1)), .ref 110]) (h' := h1) 4 rfl ?_
  refine law_iald (c := 3) rfl rfl (by omega) hL ?_
  refine law_call (a := 110) rfl rfl rfl ho rfl (Nat.le_of_ble_eq_true rfl) q2 ?_
  refine RA.steps (i' := 920) (L' := lT T) (st' := []) (h' := h2) 1 rfl ?_
  refine RA.steps (i' := 1067) (L' := lT T) (st' := []) (h' := h2) 1 rfl ?_
  exact k
set_option maxRecDepth 100000 in
theorem law_37 (hT : T + 6 ≤ L) (hL : L ≤ 3072) (hh : HI HT h) (hj : JT h) (hR : RJ h) : ∃ h2, HI HT h2 ∧ JT h2 ∧ RJ h2 ∧ ∀ res, RA prog (lE L xs) pV1 121 mL_law 1067 (lT T) [] h2 res → RA prog (lE L xs) pV1 121 mL_law 921 (lT T) [] h res := by
  obtain ⟨r1, r2, h1, h2, q1, q2, ho, hh2, hj2, hR2⟩ := lw_ask (E := lE L xs) (xs (T + 1)) (xs (T + 2)) hh hj hR
  refine ⟨h2, hh2, hj2, hR2, fun res k => ?_⟩
  refine RA.steps (i' := 922) (L' := lT T) (st' := [.ref 0]) (h' := h) 1 rfl ?_
  refine RA.steps (i' := 926) (L' := lT T) (st' := .int (nI T + 1) :: .retAddr 0 :: [.ref 0]) (h' := h) 4 rfl ?_
  refine law_iald (c := 1) rfl rfl (by omega) hL ?_
  refine RA.steps (i' := 931) (L' := lT T) (st' := .int (nI T + 2) :: .retAddr 0 :: [.int (xs (T + 1)), .ref 0]) (h' := h) 4 rfl ?_
  refine law_iald (c := 2) rfl rfl (by omega) hL ?_
  refine law_call (a := 0) rfl rfl rfl (cobj hh) rfl (Nat.le_of_ble_eq_true rfl) q1 ?_
  refine RA.steps (i' := 934) (L' := lT T) (st' := []) (h' := h1) 1 rfl ?_
  refine RA.steps (i' := 935) (L' := lT T) (st' := [.ref 110]) (h' := h1) 1 rfl ?_
  refine RA.steps (i' := 939) (L' := lT T) (st' := .int (nI T + 1) :: .retAddr 0 :: [.ref 110]) (h' := h1) 4 rfl ?_
  refine law_iald (c := 1) rfl rfl (by omega) hL ?_
  refine RA.steps (i' := 944) (L' := lT T) (st' := .int (nI T + 2) :: .retAddr 0 :: [.int (xs (T + 1)), .ref 110]) (h' := h1) 4 rfl ?_
  refine law_iald (c := 2) rfl rfl (by omega) hL ?_
  refine law_call (a := 110) rfl rfl rfl ho rfl (Nat.le_of_ble_eq_true rfl) q2 ?_
  refine RA.steps (i' := 947) (L' := lT T) (st' := []) (h' := h2) 1 rfl ?_
  refine RA.steps (i' := 1067) (L' := lT T) (st' := []) (h' := h2) 1 rfl ?_
  exact k
set_option maxRecDepth 100000 in
theorem law_38 (hT : T + 6 ≤ L) (hL : L ≤ 3072) (hh : HI HT h) (hj : JT h) (hR : RJ h) : ∃ h2, HI HT h2 ∧ JT h2 ∧ RJ h2 ∧ ∀ res, RA prog (lE L xs) pV1 121 mL_law 1067 (lT T) [] h2 res → RA prog (lE L xs) pV1 121 mL_law 948 (lT T) [] h res := by
  obtain ⟨r1, r2, h1, h2, q1, q2, ho, hh2, hj2, hR2⟩ := lw_item (E := lE L xs) (xs (T + 1)) (xs (T + 2)) hh hj hR
  refine ⟨h2, hh2, hj2, hR2, fun res k => ?_⟩
  refine RA.steps (i' := 949) (L' := lT T) (st' := [.ref 0]) (h' := h) 1 rfl ?_
  refine RA.steps (i' := 953) (L' := lT T) (st' := .int (nI T + 1) :: .retAddr 0 :: [.ref 0]) (h' := h) 4 rfl ?_
  refine law_iald (c := 1) rfl rfl (by omega) hL ?_
  refine RA.steps (i' := 958) (L' := lT T) (st' := .int (nI T + 2) :: .retAddr 0 :: [.int (xs (T + 1)), .ref 0]) (h' := h) 4 rfl ?_
  refine law_iald (c := 2) rfl rfl (by omega) hL ?_
  refine law_call (a := 0) rfl rfl rfl (cobj hh) rfl (Nat.le_of_ble_eq_true rfl) q1 ?_
  refine RA.steps (i' := 961) (L' := lT T) (st' := []) (h' := h1) 1 rfl ?_
  refine RA.steps (i' := 962) (L' := lT T) (st' := [.ref 110]) (h' := h1) 1 rfl ?_
  refine RA.steps (i' := 966) (L' := lT T) (st' := .int (nI T + 1) :: .retAddr 0 :: [.ref 110]) (h' := h1) 4 rfl ?_
  refine law_iald (c := 1) rfl rfl (by omega) hL ?_
  refine RA.steps (i' := 971) (L' := lT T) (st' := .int (nI T + 2) :: .retAddr 0 :: [.int (xs (T + 1)), .ref 110]) (h' := h1) 4 rfl ?_
  refine law_iald (c := 2) rfl rfl (by omega) hL ?_
  refine law_call (a := 110) rfl rfl rfl ho rfl (Nat.le_of_ble_eq_true rfl) q2 ?_
  refine RA.steps (i' := 974) (L' := lT T) (st' := []) (h' := h2) 1 rfl ?_
  refine RA.steps (i' := 1067) (L' := lT T) (st' := []) (h' := h2) 1 rfl ?_
  exact k
set_option maxRecDepth 100000 in
theorem law_39 (hT : T + 6 ≤ L) (hL : L ≤ 3072) (hh : HI HT h) (hj : JT h) (hR : RJ h) : ∃ h2, HI HT h2 ∧ JT h2 ∧ RJ h2 ∧ ∀ res, RA prog (lE L xs) pV1 121 mL_law 1067 (lT T) [] h2 res → RA prog (lE L xs) pV1 121 mL_law 975 (lT T) [] h res := by
  obtain ⟨r1, r2, h1, h2, q1, q2, ho, hh2, hj2, hR2⟩ := lw_rest (E := lE L xs) (xs (T + 1)) (xs (T + 2)) hh hj hR
  refine ⟨h2, hh2, hj2, hR2, fun res k => ?_⟩
  refine RA.steps (i' := 976) (L' := lT T) (st' := [.ref 0]) (h' := h) 1 rfl ?_
  refine RA.steps (i' := 980) (L' := lT T) (st' := .int (nI T + 1) :: .retAddr 0 :: [.ref 0]) (h' := h) 4 rfl ?_
  refine law_iald (c := 1) rfl rfl (by omega) hL ?_
  refine RA.steps (i' := 985) (L' := lT T) (st' := .int (nI T + 2) :: .retAddr 0 :: [.int (xs (T + 1)), .ref 0]) (h' := h) 4 rfl ?_
  refine law_iald (c := 2) rfl rfl (by omega) hL ?_
  refine law_call (a := 0) rfl rfl rfl (cobj hh) rfl (Nat.le_of_ble_eq_true rfl) q1 ?_
  refine RA.steps (i' := 988) (L' := lT T) (st' := []) (h' := h1) 1 rfl ?_
  refine RA.steps (i' := 989) (L' := lT T) (st' := [.ref 110]) (h' := h1) 1 rfl ?_
  refine RA.steps (i' := 993) (L' := lT T) (st' := .int (nI T + 1) :: .retAddr 0 :: [.ref 110]) (h' := h1) 4 rfl ?_
  refine law_iald (c := 1) rfl rfl (by omega) hL ?_
  refine RA.steps (i' := 998) (L' := lT T) (st' := .int (nI T + 2) :: .retAddr 0 :: [.int (xs (T + 1)), .ref 110]) (h' := h1) 4 rfl ?_
  refine law_iald (c := 2) rfl rfl (by omega) hL ?_
  refine law_call (a := 110) rfl rfl rfl ho rfl (Nat.le_of_ble_eq_true rfl) q2 ?_
  refine RA.steps (i' := 1001) (L' := lT T) (st' := []) (h' := h2) 1 rfl ?_
  refine RA.steps (i' := 1067) (L' := lT T) (st' := []) (h' := h2) 1 rfl ?_
  exact k
set_option maxRecDepth 100000 in
theorem law_40 (hT : T + 6 ≤ L) (hL : L ≤ 3072) (hh : HI HT h) (hj : JT h) (hR : RJ h) : ∃ h2, HI HT h2 ∧ JT h2 ∧ RJ h2 ∧ ∀ res, RA prog (lE L xs) pV1 121 mL_law 1067 (lT T) [] h2 res → RA prog (lE L xs) pV1 121 mL_law 1002 (lT T) [] h res := by
  obtain ⟨r1, r2, h1, h2, q1, q2, ho, hh2, hj2, hR2⟩ := lw_tell (E := lE L xs) (xs (T + 1)) hh hj hR
  refine ⟨h2, hh2, hj2, hR2, fun res k => ?_⟩
  refine RA.steps (i' := 1003) (L' := lT T) (st' := [.ref 0]) (h' := h) 1 rfl ?_
  refine RA.steps (i' := 1007) (L' := lT T) (st' := .int (nI T + 1) :: .retAddr 0 :: [.ref 0]) (h' := h) 4 rfl ?_
  refine law_iald (c := 1) rfl rfl (by omega) hL ?_
  refine law_call (a := 0) rfl rfl rfl (cobj hh) rfl (Nat.le_of_ble_eq_true rfl) q1 ?_
  refine RA.steps (i' := 1010) (L' := lT T) (st' := []) (h' := h1) 1 rfl ?_
  refine RA.steps (i' := 1011) (L' := lT T) (st' := [.ref 110]) (h' := h1) 1 rfl ?_
  refine RA.steps (i' := 1015) (L' := lT T) (st' := .int (nI T + 1) :: .retAddr 0 :: [.ref 110]) (h' := h1) 4 rfl ?_
  refine law_iald (c := 1) rfl rfl (by omega) hL ?_
  refine law_call (a := 110) rfl rfl rfl ho rfl (Nat.le_of_ble_eq_true rfl) q2 ?_
  refine RA.steps (i' := 1018) (L' := lT T) (st' := []) (h' := h2) 1 rfl ?_
  refine RA.steps (i' := 1067) (L' := lT T) (st' := []) (h' := h2) 1 rfl ?_
  exact k
set_option maxRecDepth 100000 in
theorem law_41 (hT : T + 6 ≤ L) (hL : L ≤ 3072) (hh : HI HT h) (hj : JT h) (hR : RJ h) : ∃ h2, HI HT h2 ∧ JT h2 ∧ RJ h2 ∧ ∀ res, RA prog (lE L xs) pV1 121 mL_law 1067 (lT T) [] h2 res → RA prog (lE L xs) pV1 121 mL_law 1019 (lT T) [] h res := by
  obtain ⟨r1, r2, h1, h2, q1, q2, ho, hh2, hj2, hR2⟩ := lw_check (E := lE L xs) (xs (T + 1)) hh hj hR
  refine ⟨h2, hh2, hj2, hR2, fun res k => ?_⟩
  refine RA.steps (i' := 1020) (L' := lT T) (st' := [.ref 0]) (h' := h) 1 rfl ?_
  refine RA.steps (i' := 1024) (L' := lT T) (st' := .int (nI T + 1) :: .retAddr 0 :: [.ref 0]) (h' := h) 4 rfl ?_
  refine law_iald (c := 1) rfl rfl (by omega) hL ?_
  refine law_call (a := 0) rfl rfl rfl (cobj hh) rfl (Nat.le_of_ble_eq_true rfl) q1 ?_
  refine RA.steps (i' := 1027) (L' := lT T) (st' := []) (h' := h1) 1 rfl ?_
  refine RA.steps (i' := 1028) (L' := lT T) (st' := [.ref 110]) (h' := h1) 1 rfl ?_
  refine RA.steps (i' := 1032) (L' := lT T) (st' := .int (nI T + 1) :: .retAddr 0 :: [.ref 110]) (h' := h1) 4 rfl ?_
  refine law_iald (c := 1) rfl rfl (by omega) hL ?_
  refine law_call (a := 110) rfl rfl rfl ho rfl (Nat.le_of_ble_eq_true rfl) q2 ?_
  refine RA.steps (i' := 1035) (L' := lT T) (st' := []) (h' := h2) 1 rfl ?_
  refine RA.steps (i' := 1067) (L' := lT T) (st' := []) (h' := h2) 1 rfl ?_
  exact k
set_option maxRecDepth 100000 in
theorem law_42 (hT : T + 6 ≤ L) (hL : L ≤ 3072) (hh : HI HT h) (hj : JT h) (hR : RJ h) : ∃ h2, HI HT h2 ∧ JT h2 ∧ RJ h2 ∧ ∀ res, RA prog (lE L xs) pV1 121 mL_law 1067 (lT T) [] h2 res → RA prog (lE L xs) pV1 121 mL_law 1036 (lT T) [] h res := by
  obtain ⟨r1, r2, h1, h2, q1, q2, ho, hh2, hj2, hR2⟩ := lw_keep (E := lE L xs)  hh hj hR
  refine ⟨h2, hh2, hj2, hR2, fun res k => ?_⟩
  refine RA.steps (i' := 1037) (L' := lT T) (st' := [.ref 0]) (h' := h) 1 rfl ?_
  refine law_call (a := 0) rfl rfl rfl (cobj hh) rfl (Nat.le_of_ble_eq_true rfl) q1 ?_
  refine RA.steps (i' := 1039) (L' := lT T) (st' := []) (h' := h1) 1 rfl ?_
  refine RA.steps (i' := 1040) (L' := lT T) (st' := [.ref 110]) (h' := h1) 1 rfl ?_
  refine law_call (a := 110) rfl rfl rfl ho rfl (Nat.le_of_ble_eq_true rfl) q2 ?_
  refine RA.steps (i' := 1042) (L' := lT T) (st' := []) (h' := h2) 1 rfl ?_
  refine RA.steps (i' := 1067) (L' := lT T) (st' := []) (h' := h2) 1 rfl ?_
  exact k
set_option maxRecDepth 100000 in
theorem law_43 (hT : T + 6 ≤ L) (hL : L ≤ 3072) (hh : HI HT h) (hj : JT h) (hR : RJ h) : ∃ h2, HI HT h2 ∧ JT h2 ∧ RJ h2 ∧ ∀ res, RA prog (lE L xs) pV1 121 mL_law 1067 (lT T) [] h2 res → RA prog (lE L xs) pV1 121 mL_law 1043 (lT T) [] h res := by
  obtain ⟨r1, r2, h1, h2, q1, q2, ho, hh2, hj2, hR2⟩ := lw_back (E := lE L xs)  hh hj hR
  refine ⟨h2, hh2, hj2, hR2, fun res k => ?_⟩
  refine RA.steps (i' := 1044) (L' := lT T) (st' := [.ref 0]) (h' := h) 1 rfl ?_
  refine law_call (a := 0) rfl rfl rfl (cobj hh) rfl (Nat.le_of_ble_eq_true rfl) q1 ?_
  refine RA.steps (i' := 1046) (L' := lT T) (st' := []) (h' := h1) 1 rfl ?_
  refine RA.steps (i' := 1047) (L' := lT T) (st' := [.ref 110]) (h' := h1) 1 rfl ?_
  refine law_call (a := 110) rfl rfl rfl ho rfl (Nat.le_of_ble_eq_true rfl) q2 ?_
  refine RA.steps (i' := 1049) (L' := lT T) (st' := []) (h' := h2) 1 rfl ?_
  refine RA.steps (i' := 1067) (L' := lT T) (st' := []) (h' := h2) 1 rfl ?_
  exact k
set_option maxRecDepth 100000 in
theorem law_44 (hT : T + 6 ≤ L) (hL : L ≤ 3072) (hh : HI HT h) (hj : JT h) (hR : RJ h) : ∃ h2, HI HT h2 ∧ JT h2 ∧ RJ h2 ∧ ∀ res, RA prog (lE L xs) pV1 121 mL_law 1067 (lT T) [] h2 res → RA prog (lE L xs) pV1 121 mL_law 1050 (lT T) [] h res := by
  obtain ⟨r1, r2, h1, h2, q1, q2, ho, hh2, hj2, hR2⟩ := lw_count (E := lE L xs) (xs (T + 1)) hh hj hR
  refine ⟨h2, hh2, hj2, hR2, fun res k => ?_⟩
  refine RA.steps (i' := 1051) (L' := lT T) (st' := [.ref 0]) (h' := h) 1 rfl ?_
  refine RA.steps (i' := 1055) (L' := lT T) (st' := .int (nI T + 1) :: .retAddr 0 :: [.ref 0]) (h' := h) 4 rfl ?_
  refine law_iald (c := 1) rfl rfl (by omega) hL ?_
  refine law_call (a := 0) rfl rfl rfl (cobj hh) rfl (Nat.le_of_ble_eq_true rfl) q1 ?_
  refine RA.steps (i' := 1058) (L' := lT T) (st' := []) (h' := h1) 1 rfl ?_
  refine RA.steps (i' := 1059) (L' := lT T) (st' := [.ref 110]) (h' := h1) 1 rfl ?_
  refine RA.steps (i' := 1063) (L' := lT T) (st' := .int (nI T + 1) :: .retAddr 0 :: [.ref 110]) (h' := h1) 4 rfl ?_
  refine law_iald (c := 1) rfl rfl (by omega) hL ?_
  refine law_call (a := 110) rfl rfl rfl ho rfl (Nat.le_of_ble_eq_true rfl) q2 ?_
  refine RA.steps (i' := 1066) (L' := lT T) (st' := []) (h' := h2) 1 rfl ?_
  refine RA.steps (i' := 1067) (L' := lT T) (st' := []) (h' := h2) 1 rfl ?_
  exact k
set_option maxRecDepth 100000 in
set_option maxHeartbeats 4000000 in
theorem law_case (hT : T + 6 ≤ L) (hL : L ≤ 3072) (hh : HI HT h) (hj : JT h) (hR : RJ h) : ∃ h2, HI HT h2 ∧ JT h2 ∧ RJ h2 ∧ ∀ res, RA prog (lE L xs) pV1 121 mL_law 1067 (lT T) [] h2 res → RA prog (lE L xs) pV1 121 mL_law 21 (lT T) [.int (xs T &&& 63)] h res := by
  have go : ∀ (t : Nat), psw (xs T &&& 63).toInt lkeys 1067 = t → (∃ h2, HI HT h2 ∧ JT h2 ∧ RJ h2 ∧ ∀ res, RA prog (lE L xs) pV1 121 mL_law 1067 (lT T) [] h2 res → RA prog (lE L xs) pV1 121 mL_law t (lT T) [] h res) → ∃ h2, HI HT h2 ∧ JT h2 ∧ RJ h2 ∧ ∀ res, RA prog (lE L xs) pV1 121 mL_law 1067 (lT T) [] h2 res → RA prog (lE L xs) pV1 121 mL_law 21 (lT T) [.int (xs T &&& 63)] h res := by
    intro t hx ⟨h2, a1, a2, a3, a4⟩
    exact ⟨h2, a1, a2, a3, fun res k => RA.sw rfl rfl rfl rfl hx (a4 res k)⟩
  by_cases e0 : xs T &&& 63 = 0
  · exact go 22 (by rw [e0]; rfl) (law_0 hT hL hh hj hR)
  by_cases e1 : xs T &&& 63 = 1
  · exact go 59 (by rw [e1]; rfl) (law_1 hT hL hh hj hR)
  by_cases e2 : xs T &&& 63 = 2
  · exact go 86 (by rw [e2]; rfl) (law_2 hT hL hh hj hR)
  by_cases e3 : xs T &&& 63 = 3
  · exact go 113 (by rw [e3]; rfl) (law_3 hT hL hh hj hR)
  by_cases e4 : xs T &&& 63 = 4
  · exact go 140 (by rw [e4]; rfl) (law_4 hT hL hh hj hR)
  by_cases e5 : xs T &&& 63 = 5
  · exact go 167 (by rw [e5]; rfl) (law_5 hT hL hh hj hR)
  by_cases e6 : xs T &&& 63 = 6
  · exact go 204 (by rw [e6]; rfl) (law_6 hT hL hh hj hR)
  by_cases e7 : xs T &&& 63 = 7
  · exact go 231 (by rw [e7]; rfl) (law_7 hT hL hh hj hR)
  by_cases e8 : xs T &&& 63 = 8
  · exact go 248 (by rw [e8]; rfl) (law_8 hT hL hh hj hR)
  by_cases e9 : xs T &&& 63 = 9
  · exact go 265 (by rw [e9]; rfl) (law_9 hT hL hh hj hR)
  by_cases e10 : xs T &&& 63 = 10
  · exact go 282 (by rw [e10]; rfl) (law_10 hT hL hh hj hR)
  by_cases e11 : xs T &&& 63 = 11
  · exact go 309 (by rw [e11]; rfl) (law_11 hT hL hh hj hR)
  by_cases e12 : xs T &&& 63 = 12
  · exact go 336 (by rw [e12]; rfl) (law_12 hT hL hh hj hR)
  by_cases e13 : xs T &&& 63 = 13
  · exact go 373 (by rw [e13]; rfl) (law_13 hT hL hh hj hR)
  by_cases e14 : xs T &&& 63 = 14
  · exact go 400 (by rw [e14]; rfl) (law_14 hT hL hh hj hR)
  by_cases e15 : xs T &&& 63 = 15
  · exact go 407 (by rw [e15]; rfl) (law_15 hT hL hh hj hR)
  by_cases e16 : xs T &&& 63 = 16
  · exact go 414 (by rw [e16]; rfl) (law_16 hT hL hh hj hR)
  by_cases e17 : xs T &&& 63 = 17
  · exact go 431 (by rw [e17]; rfl) (law_17 hT hL hh hj hR)
  by_cases e18 : xs T &&& 63 = 18
  · exact go 448 (by rw [e18]; rfl) (law_18 hT hL hh hj hR)
  by_cases e19 : xs T &&& 63 = 19
  · exact go 465 (by rw [e19]; rfl) (law_19 hT hL hh hj hR)
  by_cases e20 : xs T &&& 63 = 20
  · exact go 492 (by rw [e20]; rfl) (law_20 hT hL hh hj hR)
  by_cases e21 : xs T &&& 63 = 21
  · exact go 499 (by rw [e21]; rfl) (law_21 hT hL hh hj hR)
  by_cases e22 : xs T &&& 63 = 22
  · exact go 536 (by rw [e22]; rfl) (law_22 hT hL hh hj hR)
  by_cases e23 : xs T &&& 63 = 23
  · exact go 563 (by rw [e23]; rfl) (law_23 hT hL hh hj hR)
  by_cases e24 : xs T &&& 63 = 24
  · exact go 590 (by rw [e24]; rfl) (law_24 hT hL hh hj hR)
  by_cases e25 : xs T &&& 63 = 25
  · exact go 597 (by rw [e25]; rfl) (law_25 hT hL hh hj hR)
  by_cases e26 : xs T &&& 63 = 26
  · exact go 614 (by rw [e26]; rfl) (law_26 hT hL hh hj hR)
  by_cases e27 : xs T &&& 63 = 27
  · exact go 651 (by rw [e27]; rfl) (law_27 hT hL hh hj hR)
  by_cases e28 : xs T &&& 63 = 28
  · exact go 668 (by rw [e28]; rfl) (law_28 hT hL hh hj hR)
  by_cases e29 : xs T &&& 63 = 29
  · exact go 675 (by rw [e29]; rfl) (law_29 hT hL hh hj hR)
  by_cases e30 : xs T &&& 63 = 30
  · exact go 702 (by rw [e30]; rfl) (law_30 hT hL hh hj hR)
  by_cases e31 : xs T &&& 63 = 31
  · exact go 719 (by rw [e31]; rfl) (law_31 hT hL hh hj hR)
  by_cases e32 : xs T &&& 63 = 32
  · exact go 756 (by rw [e32]; rfl) (law_32 hT hL hh hj hR)
  by_cases e33 : xs T &&& 63 = 33
  · exact go 793 (by rw [e33]; rfl) (law_33 hT hL hh hj hR)
  by_cases e34 : xs T &&& 63 = 34
  · exact go 810 (by rw [e34]; rfl) (law_34 hT hL hh hj hR)
  by_cases e35 : xs T &&& 63 = 35
  · exact go 827 (by rw [e35]; rfl) (law_35 hT hL hh hj hR)
  by_cases e36 : xs T &&& 63 = 36
  · exact go 884 (by rw [e36]; rfl) (law_36 hT hL hh hj hR)
  by_cases e37 : xs T &&& 63 = 37
  · exact go 921 (by rw [e37]; rfl) (law_37 hT hL hh hj hR)
  by_cases e38 : xs T &&& 63 = 38
  · exact go 948 (by rw [e38]; rfl) (law_38 hT hL hh hj hR)
  by_cases e39 : xs T &&& 63 = 39
  · exact go 975 (by rw [e39]; rfl) (law_39 hT hL hh hj hR)
  by_cases e40 : xs T &&& 63 = 40
  · exact go 1002 (by rw [e40]; rfl) (law_40 hT hL hh hj hR)
  by_cases e41 : xs T &&& 63 = 41
  · exact go 1019 (by rw [e41]; rfl) (law_41 hT hL hh hj hR)
  by_cases e42 : xs T &&& 63 = 42
  · exact go 1036 (by rw [e42]; rfl) (law_42 hT hL hh hj hR)
  by_cases e43 : xs T &&& 63 = 43
  · exact go 1043 (by rw [e43]; rfl) (law_43 hT hL hh hj hR)
  by_cases e44 : xs T &&& 63 = 44
  · exact go 1050 (by rw [e44]; rfl) (law_44 hT hL hh hj hR)
  exact go 1067 ((l_psw (l_neT e0 (by decide))).trans ((l_psw (l_neT e1 (by decide))).trans ((l_psw (l_neT e2 (by decide))).trans ((l_psw (l_neT e3 (by decide))).trans ((l_psw (l_neT e4 (by decide))).trans ((l_psw (l_neT e5 (by decide))).trans ((l_psw (l_neT e6 (by decide))).trans ((l_psw (l_neT e7 (by decide))).trans ((l_psw (l_neT e8 (by decide))).trans ((l_psw (l_neT e9 (by decide))).trans ((l_psw (l_neT e10 (by decide))).trans ((l_psw (l_neT e11 (by decide))).trans ((l_psw (l_neT e12 (by decide))).trans ((l_psw (l_neT e13 (by decide))).trans ((l_psw (l_neT e14 (by decide))).trans ((l_psw (l_neT e15 (by decide))).trans ((l_psw (l_neT e16 (by decide))).trans ((l_psw (l_neT e17 (by decide))).trans ((l_psw (l_neT e18 (by decide))).trans ((l_psw (l_neT e19 (by decide))).trans ((l_psw (l_neT e20 (by decide))).trans ((l_psw (l_neT e21 (by decide))).trans ((l_psw (l_neT e22 (by decide))).trans ((l_psw (l_neT e23 (by decide))).trans ((l_psw (l_neT e24 (by decide))).trans ((l_psw (l_neT e25 (by decide))).trans ((l_psw (l_neT e26 (by decide))).trans ((l_psw (l_neT e27 (by decide))).trans ((l_psw (l_neT e28 (by decide))).trans ((l_psw (l_neT e29 (by decide))).trans ((l_psw (l_neT e30 (by decide))).trans ((l_psw (l_neT e31 (by decide))).trans ((l_psw (l_neT e32 (by decide))).trans ((l_psw (l_neT e33 (by decide))).trans ((l_psw (l_neT e34 (by decide))).trans ((l_psw (l_neT e35 (by decide))).trans ((l_psw (l_neT e36 (by decide))).trans ((l_psw (l_neT e37 (by decide))).trans ((l_psw (l_neT e38 (by decide))).trans ((l_psw (l_neT e39 (by decide))).trans ((l_psw (l_neT e40 (by decide))).trans ((l_psw (l_neT e41 (by decide))).trans ((l_psw (l_neT e42 (by decide))).trans ((l_psw (l_neT e43 (by decide))).trans ((l_psw (l_neT e44 (by decide))).trans (rfl)))))))))))))))))))))))))))))))))))))))))))))) ⟨h, hh, hj, hR, fun _ k => k⟩
theorem l_gt (hT : T ≤ L) (hL : L ≤ 3072) : pc2 .gt (nI T) (nI L - 6) = decide (L < T + 6) := by
  show decide (nI L - 6 < nI T) = _
  have e1 : (nI L - 6).toInt = (L : Int) - 6 := by
    rw [Int32.toInt_sub, nI_toInt (by omega), show (6 : Int32).toInt = 6 by decide]
    rw [Int.bmod_eq_of_le] <;> omega
  have e2 : (nI T).toInt = T := nI_toInt (by omega)
  by_cases q : L < T + 6
  · rw [decide_eq_true q]
    exact decide_eq_true (Int32.lt_iff_toInt_lt.mpr (by omega))
  · rw [decide_eq_false q]
    exact decide_eq_false (fun z => q (by have := Int32.lt_iff_toInt_lt.mp z; omega))
theorem law_len (he : (m_code mL_law)[i]? = some (pc, .arraylength, x, y, v, ts)) (kk : RA prog (lE L xs) pV1 121 mL_law (i + 1) Lc (.int (nI L) :: st) h res) : RA prog (lE L xs) pV1 121 mL_law i Lc (.retAddr 0 :: st) h res := by
  refine RA.step0 he rfl rfl ?_ kk
  show (match lE L xs 0 with
    | some x => pnx i Lc (.int (Int32.ofNat x.1) :: st) h
    | none => none) = _
  unfold lE
  rw [if_pos rfl]
  rfl
set_option maxRecDepth 100000 in
set_option maxHeartbeats 4000000 in
theorem law_loop (hL : L ≤ 3072) : ∀ (n T : Nat), L < T + 6 * n → T ≤ L → ∀ h, HI HT h → JT h → RJ h → ∃ h2, RA prog (lE L xs) pV1 121 mL_law 10 (lT T) [] h (some (.int 1), h2, 0, 0) := by
  intro n
  induction n with
  | zero => intro T h1 h2; omega
  | succ n ih =>
    intro T hn hTL h hh hj hR
    have head : ∀ res, (∀ b : Bool, b = decide (L < T + 6) → (b = true → RA prog (lE L xs) pV1 121 mL_law 1069 (lT T) [] h res) ∧ (b = false → RA prog (lE L xs) pV1 121 mL_law 16 (lT T) [] h res)) → RA prog (lE L xs) pV1 121 mL_law 10 (lT T) [] h res := by
      intro res k
      refine RA.steps (i' := 12) (L' := lT T) (st' := [.retAddr 0, .int (nI T)]) (h' := h) 2 rfl ?_
      refine law_len rfl ?_
      refine RA.steps (i' := 15) (L' := lT T) (st' := [.int (nI L - 6), .int (nI T)]) (h' := h) 2 rfl ?_
      have kk := k _ rfl
      by_cases q : L < T + 6
      · rw [decide_eq_true q] at kk
        exact RA.if2T rfl ((l_gt hTL hL).trans (decide_eq_true q)) (kk.1 rfl)
      · rw [decide_eq_false q] at kk
        exact RA.if2F rfl ((l_gt hTL hL).trans (decide_eq_false q)) (kk.2 rfl)
    by_cases q : L < T + 6
    · refine ⟨h, head _ (fun b hb => ⟨fun _ => ?_, fun e => by rw [hb, decide_eq_true q] at e; cases e⟩)⟩
      refine RA.steps (i' := 1070) (L' := lT T) (st' := [.int 1]) (h' := h) 1 rfl ?_
      exact RA.ret rfl rfl
    · obtain ⟨h1, hh1, hj1, hR1, k1⟩ := law_case (xs := xs) (T := T) (by omega) hL hh hj hR
      have nx : ∀ T', T' = T + 6 → T' ≤ L → ∃ h2, RA prog (lE L xs) pV1 121 mL_law 10 (lT T') [] h1 (some (.int 1), h2, 0, 0) := fun T' e1 e2 => ih T' (by omega) e2 h1 hh1 hj1 hR1
      obtain ⟨h2, k2⟩ := nx (T + 6) rfl (by omega)
      refine ⟨h2, head _ (fun b hb => ⟨fun e => (by rw [hb, decide_eq_false q] at e; cases e), fun _ => ?_⟩)⟩
      refine RA.steps (i' := 18) (L' := lT T) (st' := [.int (nI T), .retAddr 0]) (h' := h) 2 rfl ?_
      refine law_ial0 rfl (by omega) hL ?_
      refine RA.steps (i' := 21) (L' := lT T) (st' := [.int (xs T &&& 63)]) (h' := h) 2 rfl ?_
      refine k1 _ ?_
      refine RA.steps (i' := 10) (L' := [some (.retAddr 0), some (.ref 0), some (.ref 110), some (.int (nI T + 6))]) (st' := []) (h' := h1) 2 rfl ?_
      rw [show nI T + 6 = nI (T + 6) from nI_add T 6]
      exact k2
set_option maxRecDepth 100000 in
set_option maxHeartbeats 4000000 in
theorem law_all (L : Nat) (hL : L ≤ 3072) (xs : Nat → Int32) : ∃ h2, RA prog (lE L xs) pV1 121 mL_law 0 (pent 4 [.retAddr 0]) [] [] (some (.int 1), h2, 130, 12545) := by
  obtain ⟨h2, k⟩ := law_loop (xs := xs) hL 600 0 (by omega) (by omega) h0 hi0 jt0 rj0
  refine ⟨h2, ?_⟩
  refine RA.step (dk := 1) (dn := 10) (k2 := 129) (n2 := 12535) (i' := 1) (L' := [some (.retAddr 0), none, none, none]) (st' := [.ref 0]) (h' := [.inr (.inr (7, pini 7))]) rfl rfl rfl rfl ?_
  refine RA.steps 1 rfl ?_
  refine RA.call (k1 := 109) (n1 := 2482) (k2 := 20) (n2 := 10053) rfl rfl rfl (run_C120 _ _) ?_
  refine RA.steps (i' := 4) (L' := [some (.retAddr 0), some (.ref 0), none, none]) (st' := []) (h' := hC) 1 rfl ?_
  refine RA.step (dk := 1) (dn := 32) (k2 := 19) (n2 := 10021) (i' := 5) (L' := [some (.retAddr 0), some (.ref 0), none, none]) (st' := [.ref 110]) (h' := hC ++ [.inr (.inr (8, pini 8))]) rfl rfl rfl rfl ?_
  refine RA.steps 1 rfl ?_
  refine RA.call (k1 := 19) (n1 := 10021) (k2 := 0) (n2 := 0) rfl rfl rfl (run_M120 _ _) ?_
  exact RA.steps (i' := 10) (L' := lT 0) (st' := []) (h' := h0) 3 rfl k
end LAW
