/-! ===== the calls of the law, one by one (printed by program) ===== -/
def lE (L : Nat) (xs : Nat → Int32) : pX := fun k => if k = 0 then some (L, xs) else none
def lL : pL := [some (.retAddr 0), some (.ref 0), some (.ref 110), some (.int 0)]
def lkeys : List (Int × Nat) := [(0, 22), (1, 59), (2, 86), (3, 113), (4, 140), (5, 167), (6, 204), (7, 231), (8, 248), (9, 265), (10, 282), (11, 309), (12, 336), (13, 373), (14, 400), (15, 407), (16, 414), (17, 431), (18, 448), (19, 465), (20, 492), (21, 499), (22, 536), (23, 563), (24, 590), (25, 597), (26, 614), (27, 651), (28, 668), (29, 675), (30, 702), (31, 719), (32, 756), (33, 793), (34, 810), (35, 827), (36, 884), (37, 921), (38, 948), (39, 975), (40, 1002), (41, 1019), (42, 1036), (43, 1043), (44, 1050)]
def lL6 : pL := [some (.retAddr 0), some (.ref 0), some (.ref 110), some (.int 6)]
set_option maxRecDepth 100000 in
theorem law_end (xs : Nat → Int32) (h : List pC) : RA prog (lE 6 xs) pV0 41 mL_law 1067 lL [] h (some (.int 1), h, 0, 0) := by
  refine RA.steps (i' := 1068) (L' := lL6) (st' := []) (h' := h) 1 rfl ?_
  refine RA.steps (i' := 10) (L' := lL6) (st' := []) (h' := h) 1 rfl ?_
  refine RA.steps (i' := 14) (L' := lL6) (st' := [.int 6, .int 6, .int 6]) (h' := h) 4 rfl ?_
  refine RA.steps (i' := 15) (L' := lL6) (st' := [.int 0, .int 6]) (h' := h) 1 rfl ?_
  refine RA.steps (i' := 1069) (L' := lL6) (st' := []) (h' := h) 1 rfl ?_
  refine RA.steps (i' := 1070) (L' := lL6) (st' := [.int 1]) (h' := h) 1 rfl ?_
  exact RA.ret rfl rfl
set_option maxRecDepth 100000 in
theorem law_c0 (xs : Nat → Int32) : ∃ h2, RA prog (lE 6 xs) pV0 41 mL_law 22 lL [] h0 (some (.int 1), h2, 0, 0) := by
  obtain ⟨r, h1, h2, r1, r2⟩ := q_rubbing (lE 6 xs) (xs 1) (xs 2) (xs 3)
  obtain ⟨o, ho, hc⟩ := r1.shp 110 _ rfl
  refine ⟨h2, ?_⟩
  refine RA.steps (i' := 38) (L' := lL) (st' := [.int (xs 3), .int (xs 2), .int (xs 1), .ref 0]) (h' := h0) 16 rfl ?_
  refine RA.call0 rfl rfl rfl r1 ?_
  refine RA.steps (i' := 55) (L' := lL) (st' := [.int (xs 3), .int (xs 2), .int (xs 1), .ref 110, .int r]) (h' := h1) 16 rfl ?_
  refine RA.call0 rfl rfl (pcallV rfl rfl ho rfl hc (Nat.le_of_ble_eq_true rfl)) r2 ?_
  refine RA.if2T (a := r) (b := r) (rest := []) rfl (decide_eq_true rfl) ?_
  exact law_end xs h2
set_option maxRecDepth 100000 in
theorem law_c1 (xs : Nat → Int32) : ∃ h2, RA prog (lE 6 xs) pV0 41 mL_law 59 lL [] h0 (some (.int 1), h2, 0, 0) := by
  obtain ⟨r, h1, h2, r1, r2⟩ := q_told (lE 6 xs) (xs 1) (xs 2)
  obtain ⟨o, ho, hc⟩ := r1.shp 110 _ rfl
  refine ⟨h2, ?_⟩
  refine RA.steps (i' := 70) (L' := lL) (st' := [.int (xs 2), .int (xs 1), .ref 0]) (h' := h0) 11 rfl ?_
  refine RA.call0 rfl rfl rfl r1 ?_
  refine RA.steps (i' := 82) (L' := lL) (st' := [.int (xs 2), .int (xs 1), .ref 110, .int r]) (h' := h1) 11 rfl ?_
  refine RA.call0 rfl rfl (pcallV rfl rfl ho rfl hc (Nat.le_of_ble_eq_true rfl)) r2 ?_
  refine RA.if2T (a := r) (b := r) (rest := []) rfl (decide_eq_true rfl) ?_
  exact law_end xs h2
set_option maxRecDepth 100000 in
theorem law_c2 (xs : Nat → Int32) : ∃ h2, RA prog (lE 6 xs) pV0 41 mL_law 86 lL [] h0 (some (.int 1), h2, 0, 0) := by
  obtain ⟨r, h1, h2, r1, r2⟩ := q_says (lE 6 xs) (xs 1) (xs 2)
  obtain ⟨o, ho, hc⟩ := r1.shp 110 _ rfl
  refine ⟨h2, ?_⟩
  refine RA.steps (i' := 97) (L' := lL) (st' := [.int (xs 2), .int (xs 1), .ref 0]) (h' := h0) 11 rfl ?_
  refine RA.call0 rfl rfl rfl r1 ?_
  refine RA.steps (i' := 109) (L' := lL) (st' := [.int (xs 2), .int (xs 1), .ref 110, .int r]) (h' := h1) 11 rfl ?_
  refine RA.call0 rfl rfl (pcallV rfl rfl ho rfl hc (Nat.le_of_ble_eq_true rfl)) r2 ?_
  refine RA.if2T (a := r) (b := r) (rest := []) rfl (decide_eq_true rfl) ?_
  exact law_end xs h2
set_option maxRecDepth 100000 in
theorem law_c3 (xs : Nat → Int32) : ∃ h2, RA prog (lE 6 xs) pV0 41 mL_law 113 lL [] h0 (some (.int 1), h2, 0, 0) := by
  obtain ⟨r, h1, h2, r1, r2⟩ := q_as (lE 6 xs) (xs 1) (xs 2)
  obtain ⟨o, ho, hc⟩ := r1.shp 110 _ rfl
  refine ⟨h2, ?_⟩
  refine RA.steps (i' := 124) (L' := lL) (st' := [.int (xs 2), .int (xs 1), .ref 0]) (h' := h0) 11 rfl ?_
  refine RA.call0 rfl rfl rfl r1 ?_
  refine RA.steps (i' := 136) (L' := lL) (st' := [.int (xs 2), .int (xs 1), .ref 110, .int r]) (h' := h1) 11 rfl ?_
  refine RA.call0 rfl rfl (pcallV rfl rfl ho rfl hc (Nat.le_of_ble_eq_true rfl)) r2 ?_
  refine RA.if2T (a := r) (b := r) (rest := []) rfl (decide_eq_true rfl) ?_
  exact law_end xs h2
set_option maxRecDepth 100000 in
theorem law_c4 (xs : Nat → Int32) : ∃ h2, RA prog (lE 6 xs) pV0 41 mL_law 140 lL [] h0 (some (.int 1), h2, 0, 0) := by
  obtain ⟨r, h1, h2, r1, r2⟩ := q_turns (lE 6 xs) (xs 1) (xs 2)
  obtain ⟨o, ho, hc⟩ := r1.shp 110 _ rfl
  refine ⟨h2, ?_⟩
  refine RA.steps (i' := 151) (L' := lL) (st' := [.int (xs 2), .int (xs 1), .ref 0]) (h' := h0) 11 rfl ?_
  refine RA.call0 rfl rfl rfl r1 ?_
  refine RA.steps (i' := 163) (L' := lL) (st' := [.int (xs 2), .int (xs 1), .ref 110, .int r]) (h' := h1) 11 rfl ?_
  refine RA.call0 rfl rfl (pcallV rfl rfl ho rfl hc (Nat.le_of_ble_eq_true rfl)) r2 ?_
  refine RA.if2T (a := r) (b := r) (rest := []) rfl (decide_eq_true rfl) ?_
  exact law_end xs h2
set_option maxRecDepth 100000 in
theorem law_c5 (xs : Nat → Int32) : ∃ h2, RA prog (lE 6 xs) pV0 41 mL_law 167 lL [] h0 (some (.int 1), h2, 0, 0) := by
  obtain ⟨r, h1, h2, r1, r2⟩ := q_set (lE 6 xs) (xs 1) (xs 2) (xs 3)
  obtain ⟨o, ho, hc⟩ := r1.shp 110 _ rfl
  refine ⟨h2, ?_⟩
  refine RA.steps (i' := 183) (L' := lL) (st' := [.int (xs 3), .int (xs 2), .int (xs 1), .ref 0]) (h' := h0) 16 rfl ?_
  refine RA.call0 rfl rfl rfl r1 ?_
  refine RA.steps (i' := 200) (L' := lL) (st' := [.int (xs 3), .int (xs 2), .int (xs 1), .ref 110, .int r]) (h' := h1) 16 rfl ?_
  refine RA.call0 rfl rfl (pcallV rfl rfl ho rfl hc (Nat.le_of_ble_eq_true rfl)) r2 ?_
  refine RA.if2T (a := r) (b := r) (rest := []) rfl (decide_eq_true rfl) ?_
  exact law_end xs h2
set_option maxRecDepth 100000 in
theorem law_c6 (xs : Nat → Int32) : ∃ h2, RA prog (lE 6 xs) pV0 41 mL_law 204 lL [] h0 (some (.int 1), h2, 0, 0) := by
  obtain ⟨r, h1, h2, r1, r2⟩ := q_carve (lE 6 xs) (xs 1) (xs 2)
  obtain ⟨o, ho, hc⟩ := r1.shp 110 _ rfl
  refine ⟨h2, ?_⟩
  refine RA.steps (i' := 215) (L' := lL) (st' := [.int (xs 2), .int (xs 1), .ref 0]) (h' := h0) 11 rfl ?_
  refine RA.call0 rfl rfl rfl r1 ?_
  refine RA.steps (i' := 227) (L' := lL) (st' := [.int (xs 2), .int (xs 1), .ref 110, .int r]) (h' := h1) 11 rfl ?_
  refine RA.call0 rfl rfl (pcallV rfl rfl ho rfl hc (Nat.le_of_ble_eq_true rfl)) r2 ?_
  refine RA.if2T (a := r) (b := r) (rest := []) rfl (decide_eq_true rfl) ?_
  exact law_end xs h2
set_option maxRecDepth 100000 in
theorem law_c7 (xs : Nat → Int32) : ∃ h2, RA prog (lE 6 xs) pV0 41 mL_law 231 lL [] h0 (some (.int 1), h2, 0, 0) := by
  obtain ⟨r, h1, h2, r1, r2⟩ := q_carved (lE 6 xs) (xs 1)
  obtain ⟨o, ho, hc⟩ := r1.shp 110 _ rfl
  refine ⟨h2, ?_⟩
  refine RA.steps (i' := 237) (L' := lL) (st' := [.int (xs 1), .ref 0]) (h' := h0) 6 rfl ?_
  refine RA.call0 rfl rfl rfl r1 ?_
  refine RA.steps (i' := 244) (L' := lL) (st' := [.int (xs 1), .ref 110, .int r]) (h' := h1) 6 rfl ?_
  refine RA.call0 rfl rfl (pcallV rfl rfl ho rfl hc (Nat.le_of_ble_eq_true rfl)) r2 ?_
  refine RA.if2T (a := r) (b := r) (rest := []) rfl (decide_eq_true rfl) ?_
  exact law_end xs h2
set_option maxRecDepth 100000 in
theorem law_c8 (xs : Nat → Int32) : ∃ h2, RA prog (lE 6 xs) pV0 41 mL_law 248 lL [] h0 (some (.int 1), h2, 0, 0) := by
  obtain ⟨r, h1, h2, r1, r2⟩ := q_deal (lE 6 xs) (xs 1)
  obtain ⟨o, ho, hc⟩ := r1.shp 110 _ rfl
  refine ⟨h2, ?_⟩
  refine RA.steps (i' := 254) (L' := lL) (st' := [.int (xs 1), .ref 0]) (h' := h0) 6 rfl ?_
  refine RA.call0 rfl rfl rfl r1 ?_
  refine RA.steps (i' := 261) (L' := lL) (st' := [.int (xs 1), .ref 110, .int r]) (h' := h1) 6 rfl ?_
  refine RA.call0 rfl rfl (pcallV rfl rfl ho rfl hc (Nat.le_of_ble_eq_true rfl)) r2 ?_
  refine RA.if2T (a := r) (b := r) (rest := []) rfl (decide_eq_true rfl) ?_
  exact law_end xs h2
set_option maxRecDepth 100000 in
theorem law_c9 (xs : Nat → Int32) : ∃ h2, RA prog (lE 6 xs) pV0 41 mL_law 265 lL [] h0 (some (.int 1), h2, 0, 0) := by
  obtain ⟨r, h1, h2, r1, r2⟩ := q_seed (lE 6 xs) (xs 1)
  obtain ⟨o, ho, hc⟩ := r1.shp 110 _ rfl
  refine ⟨h2, ?_⟩
  refine RA.steps (i' := 271) (L' := lL) (st' := [.int (xs 1), .ref 0]) (h' := h0) 6 rfl ?_
  refine RA.call0 rfl rfl rfl r1 ?_
  refine RA.steps (i' := 278) (L' := lL) (st' := [.int (xs 1), .ref 110, .int r]) (h' := h1) 6 rfl ?_
  refine RA.call0 rfl rfl (pcallV rfl rfl ho rfl hc (Nat.le_of_ble_eq_true rfl)) r2 ?_
  refine RA.if2T (a := r) (b := r) (rest := []) rfl (decide_eq_true rfl) ?_
  exact law_end xs h2
set_option maxRecDepth 100000 in
theorem law_c10 (xs : Nat → Int32) : ∃ h2, RA prog (lE 6 xs) pV0 41 mL_law 282 lL [] h0 (some (.int 1), h2, 0, 0) := by
  obtain ⟨r, h1, h2, r1, r2⟩ := q_falseAt (lE 6 xs) (xs 1) (xs 2)
  obtain ⟨o, ho, hc⟩ := r1.shp 110 _ rfl
  refine ⟨h2, ?_⟩
  refine RA.steps (i' := 293) (L' := lL) (st' := [.int (xs 2), .int (xs 1), .ref 0]) (h' := h0) 11 rfl ?_
  refine RA.call0 rfl rfl rfl r1 ?_
  refine RA.steps (i' := 305) (L' := lL) (st' := [.int (xs 2), .int (xs 1), .ref 110, .int r]) (h' := h1) 11 rfl ?_
  refine RA.call0 rfl rfl (pcallV rfl rfl ho rfl hc (Nat.le_of_ble_eq_true rfl)) r2 ?_
  refine RA.if2T (a := r) (b := r) (rest := []) rfl (decide_eq_true rfl) ?_
  exact law_end xs h2
set_option maxRecDepth 100000 in
theorem law_c11 (xs : Nat → Int32) : ∃ h2, RA prog (lE 6 xs) pV0 41 mL_law 309 lL [] h0 (some (.int 1), h2, 0, 0) := by
  obtain ⟨r, h1, h2, r1, r2⟩ := q_fits (lE 6 xs) (xs 1) (xs 2)
  obtain ⟨o, ho, hc⟩ := r1.shp 110 _ rfl
  refine ⟨h2, ?_⟩
  refine RA.steps (i' := 320) (L' := lL) (st' := [.int (xs 2), .int (xs 1), .ref 0]) (h' := h0) 11 rfl ?_
  refine RA.call0 rfl rfl rfl r1 ?_
  refine RA.steps (i' := 332) (L' := lL) (st' := [.int (xs 2), .int (xs 1), .ref 110, .int r]) (h' := h1) 11 rfl ?_
  refine RA.call0 rfl rfl (pcallV rfl rfl ho rfl hc (Nat.le_of_ble_eq_true rfl)) r2 ?_
  refine RA.if2T (a := r) (b := r) (rest := []) rfl (decide_eq_true rfl) ?_
  exact law_end xs h2
set_option maxRecDepth 100000 in
theorem law_c12 (xs : Nat → Int32) : ∃ h2, RA prog (lE 6 xs) pV0 41 mL_law 336 lL [] h0 (some (.int 1), h2, 0, 0) := by
  obtain ⟨r, h1, h2, r1, r2⟩ := q_join (lE 6 xs) (xs 1) (xs 2) (xs 3)
  obtain ⟨o, ho, hc⟩ := r1.shp 110 _ rfl
  refine ⟨h2, ?_⟩
  refine RA.steps (i' := 352) (L' := lL) (st' := [.int (xs 3), .int (xs 2), .int (xs 1), .ref 0]) (h' := h0) 16 rfl ?_
  refine RA.call0 rfl rfl rfl r1 ?_
  refine RA.steps (i' := 369) (L' := lL) (st' := [.int (xs 3), .int (xs 2), .int (xs 1), .ref 110, .int r]) (h' := h1) 16 rfl ?_
  refine RA.call0 rfl rfl (pcallV rfl rfl ho rfl hc (Nat.le_of_ble_eq_true rfl)) r2 ?_
  refine RA.if2T (a := r) (b := r) (rest := []) rfl (decide_eq_true rfl) ?_
  exact law_end xs h2
set_option maxRecDepth 100000 in
theorem law_c13 (xs : Nat → Int32) : ∃ h2, RA prog (lE 6 xs) pV0 41 mL_law 373 lL [] h0 (some (.int 1), h2, 0, 0) := by
  obtain ⟨r, h1, h2, r1, r2⟩ := q_clash (lE 6 xs) (xs 1) (xs 2)
  obtain ⟨o, ho, hc⟩ := r1.shp 110 _ rfl
  refine ⟨h2, ?_⟩
  refine RA.steps (i' := 384) (L' := lL) (st' := [.int (xs 2), .int (xs 1), .ref 0]) (h' := h0) 11 rfl ?_
  refine RA.call0 rfl rfl rfl r1 ?_
  refine RA.steps (i' := 396) (L' := lL) (st' := [.int (xs 2), .int (xs 1), .ref 110, .int r]) (h' := h1) 11 rfl ?_
  refine RA.call0 rfl rfl (pcallV rfl rfl ho rfl hc (Nat.le_of_ble_eq_true rfl)) r2 ?_
  refine RA.if2T (a := r) (b := r) (rest := []) rfl (decide_eq_true rfl) ?_
  exact law_end xs h2
set_option maxRecDepth 100000 in
theorem law_c14 (xs : Nat → Int32) : ∃ h2, RA prog (lE 6 xs) pV0 41 mL_law 400 lL [] h0 (some (.int 1), h2, 0, 0) := by
  obtain ⟨r, h1, h2, r1, r2⟩ := q_undone (lE 6 xs)
  obtain ⟨o, ho, hc⟩ := r1.shp 110 _ rfl
  refine ⟨h2, ?_⟩
  refine RA.steps (i' := 401) (L' := lL) (st' := [.ref 0]) (h' := h0) 1 rfl ?_
  refine RA.call0 rfl rfl rfl r1 ?_
  refine RA.steps (i' := 403) (L' := lL) (st' := [.ref 110, .int r]) (h' := h1) 1 rfl ?_
  refine RA.call0 rfl rfl (pcallV rfl rfl ho rfl hc (Nat.le_of_ble_eq_true rfl)) r2 ?_
  refine RA.if2T (a := r) (b := r) (rest := []) rfl (decide_eq_true rfl) ?_
  exact law_end xs h2
set_option maxRecDepth 100000 in
theorem law_c15 (xs : Nat → Int32) : ∃ h2, RA prog (lE 6 xs) pV0 41 mL_law 407 lL [] h0 (some (.int 1), h2, 0, 0) := by
  obtain ⟨r, h1, h2, r1, r2⟩ := q_borne (lE 6 xs)
  obtain ⟨o, ho, hc⟩ := r1.shp 110 _ rfl
  refine ⟨h2, ?_⟩
  refine RA.steps (i' := 408) (L' := lL) (st' := [.ref 0]) (h' := h0) 1 rfl ?_
  refine RA.call0 rfl rfl rfl r1 ?_
  refine RA.steps (i' := 410) (L' := lL) (st' := [.ref 110, .int r]) (h' := h1) 1 rfl ?_
  refine RA.call0 rfl rfl (pcallV rfl rfl ho rfl hc (Nat.le_of_ble_eq_true rfl)) r2 ?_
  refine RA.if2T (a := r) (b := r) (rest := []) rfl (decide_eq_true rfl) ?_
  exact law_end xs h2
set_option maxRecDepth 100000 in
theorem law_c16 (xs : Nat → Int32) : ∃ h2, RA prog (lE 6 xs) pV0 41 mL_law 414 lL [] h0 (some (.int 1), h2, 0, 0) := by
  obtain ⟨r, h1, h2, r1, r2⟩ := q_look (lE 6 xs) (xs 1)
  obtain ⟨o, ho, hc⟩ := r1.shp 110 _ rfl
  refine ⟨h2, ?_⟩
  refine RA.steps (i' := 420) (L' := lL) (st' := [.int (xs 1), .ref 0]) (h' := h0) 6 rfl ?_
  refine RA.call0 rfl rfl rfl r1 ?_
  refine RA.steps (i' := 427) (L' := lL) (st' := [.int (xs 1), .ref 110, .int r]) (h' := h1) 6 rfl ?_
  refine RA.call0 rfl rfl (pcallV rfl rfl ho rfl hc (Nat.le_of_ble_eq_true rfl)) r2 ?_
  refine RA.if2T (a := r) (b := r) (rest := []) rfl (decide_eq_true rfl) ?_
  exact law_end xs h2
set_option maxRecDepth 100000 in
theorem law_c17 (xs : Nat → Int32) : ∃ h2, RA prog (lE 6 xs) pV0 41 mL_law 431 lL [] h0 (some (.int 1), h2, 0, 0) := by
  obtain ⟨r, h1, h2, r1, r2⟩ := q_tides (lE 6 xs) (xs 1)
  obtain ⟨o, ho, hc⟩ := r1.shp 110 _ rfl
  refine ⟨h2, ?_⟩
  refine RA.steps (i' := 437) (L' := lL) (st' := [.int (xs 1), .ref 0]) (h' := h0) 6 rfl ?_
  refine RA.call0 rfl rfl rfl r1 ?_
  refine RA.steps (i' := 444) (L' := lL) (st' := [.int (xs 1), .ref 110, .int r]) (h' := h1) 6 rfl ?_
  refine RA.call0 rfl rfl (pcallV rfl rfl ho rfl hc (Nat.le_of_ble_eq_true rfl)) r2 ?_
  refine RA.if2T (a := r) (b := r) (rest := []) rfl (decide_eq_true rfl) ?_
  exact law_end xs h2
set_option maxRecDepth 100000 in
theorem law_c18 (xs : Nat → Int32) : ∃ h2, RA prog (lE 6 xs) pV0 41 mL_law 448 lL [] h0 (some (.int 1), h2, 0, 0) := by
  obtain ⟨r, h1, h2, r1, r2⟩ := q_book (lE 6 xs) (xs 1)
  obtain ⟨o, ho, hc⟩ := r1.shp 110 _ rfl
  refine ⟨h2, ?_⟩
  refine RA.steps (i' := 454) (L' := lL) (st' := [.int (xs 1), .ref 0]) (h' := h0) 6 rfl ?_
  refine RA.call0 rfl rfl rfl r1 ?_
  refine RA.steps (i' := 461) (L' := lL) (st' := [.int (xs 1), .ref 110, .int r]) (h' := h1) 6 rfl ?_
  refine RA.call0 rfl rfl (pcallV rfl rfl ho rfl hc (Nat.le_of_ble_eq_true rfl)) r2 ?_
  refine RA.if2T (a := r) (b := r) (rest := []) rfl (decide_eq_true rfl) ?_
  exact law_end xs h2
set_option maxRecDepth 100000 in
theorem law_c19 (xs : Nat → Int32) : ∃ h2, RA prog (lE 6 xs) pV0 41 mL_law 465 lL [] h0 (some (.int 1), h2, 0, 0) := by
  obtain ⟨r, h1, h2, r1, r2⟩ := q_behind (lE 6 xs) (xs 1) (xs 2)
  obtain ⟨o, ho, hc⟩ := r1.shp 110 _ rfl
  refine ⟨h2, ?_⟩
  refine RA.steps (i' := 476) (L' := lL) (st' := [.int (xs 2), .int (xs 1), .ref 0]) (h' := h0) 11 rfl ?_
  refine RA.call0 rfl rfl rfl r1 ?_
  refine RA.steps (i' := 488) (L' := lL) (st' := [.int (xs 2), .int (xs 1), .ref 110, .int r]) (h' := h1) 11 rfl ?_
  refine RA.call0 rfl rfl (pcallV rfl rfl ho rfl hc (Nat.le_of_ble_eq_true rfl)) r2 ?_
  refine RA.if2T (a := r) (b := r) (rest := []) rfl (decide_eq_true rfl) ?_
  exact law_end xs h2
set_option maxRecDepth 100000 in
theorem law_c20 (xs : Nat → Int32) : ∃ h2, RA prog (lE 6 xs) pV0 41 mL_law 492 lL [] h0 (some (.int 1), h2, 0, 0) := by
  obtain ⟨r, h1, h2, r1, r2⟩ := q_lasts (lE 6 xs)
  obtain ⟨o, ho, hc⟩ := r1.shp 110 _ rfl
  refine ⟨h2, ?_⟩
  refine RA.steps (i' := 493) (L' := lL) (st' := [.ref 0]) (h' := h0) 1 rfl ?_
  refine RA.call0 rfl rfl rfl r1 ?_
  refine RA.steps (i' := 495) (L' := lL) (st' := [.ref 110, .int r]) (h' := h1) 1 rfl ?_
  refine RA.call0 rfl rfl (pcallV rfl rfl ho rfl hc (Nat.le_of_ble_eq_true rfl)) r2 ?_
  refine RA.if2T (a := r) (b := r) (rest := []) rfl (decide_eq_true rfl) ?_
  exact law_end xs h2
set_option maxRecDepth 100000 in
theorem law_c21 (xs : Nat → Int32) : ∃ h2, RA prog (lE 6 xs) pV0 41 mL_law 499 lL [] h0 (some (.int 1), h2, 0, 0) := by
  obtain ⟨r, h1, h2, r1, r2⟩ := q_best (lE 6 xs) (xs 1) (xs 2) (xs 3)
  obtain ⟨o, ho, hc⟩ := r1.shp 110 _ rfl
  refine ⟨h2, ?_⟩
  refine RA.steps (i' := 515) (L' := lL) (st' := [.int (xs 3), .int (xs 2), .int (xs 1), .ref 0]) (h' := h0) 16 rfl ?_
  refine RA.call0 rfl rfl rfl r1 ?_
  refine RA.steps (i' := 532) (L' := lL) (st' := [.int (xs 3), .int (xs 2), .int (xs 1), .ref 110, .int r]) (h' := h1) 16 rfl ?_
  refine RA.call0 rfl rfl (pcallV rfl rfl ho rfl hc (Nat.le_of_ble_eq_true rfl)) r2 ?_
  refine RA.if2T (a := r) (b := r) (rest := []) rfl (decide_eq_true rfl) ?_
  exact law_end xs h2
set_option maxRecDepth 100000 in
theorem law_c22 (xs : Nat → Int32) : ∃ h2, RA prog (lE 6 xs) pV0 41 mL_law 536 lL [] h0 (some (.int 1), h2, 0, 0) := by
  obtain ⟨r, h1, h2, r1, r2⟩ := q_taught (lE 6 xs) (xs 1) (xs 2)
  obtain ⟨o, ho, hc⟩ := r1.shp 110 _ rfl
  refine ⟨h2, ?_⟩
  refine RA.steps (i' := 547) (L' := lL) (st' := [.int (xs 2), .int (xs 1), .ref 0]) (h' := h0) 11 rfl ?_
  refine RA.call0 rfl rfl rfl r1 ?_
  refine RA.steps (i' := 559) (L' := lL) (st' := [.int (xs 2), .int (xs 1), .ref 110, .int r]) (h' := h1) 11 rfl ?_
  refine RA.call0 rfl rfl (pcallV rfl rfl ho rfl hc (Nat.le_of_ble_eq_true rfl)) r2 ?_
  refine RA.if2T (a := r) (b := r) (rest := []) rfl (decide_eq_true rfl) ?_
  exact law_end xs h2
set_option maxRecDepth 100000 in
theorem law_c23 (xs : Nat → Int32) : ∃ h2, RA prog (lE 6 xs) pV0 41 mL_law 563 lL [] h0 (some (.int 1), h2, 0, 0) := by
  obtain ⟨r, h1, h2, r1, r2⟩ := q_whose (lE 6 xs) (xs 1) (xs 2)
  obtain ⟨o, ho, hc⟩ := r1.shp 110 _ rfl
  refine ⟨h2, ?_⟩
  refine RA.steps (i' := 574) (L' := lL) (st' := [.int (xs 2), .int (xs 1), .ref 0]) (h' := h0) 11 rfl ?_
  refine RA.call0 rfl rfl rfl r1 ?_
  refine RA.steps (i' := 586) (L' := lL) (st' := [.int (xs 2), .int (xs 1), .ref 110, .int r]) (h' := h1) 11 rfl ?_
  refine RA.call0 rfl rfl (pcallV rfl rfl ho rfl hc (Nat.le_of_ble_eq_true rfl)) r2 ?_
  refine RA.if2T (a := r) (b := r) (rest := []) rfl (decide_eq_true rfl) ?_
  exact law_end xs h2
set_option maxRecDepth 100000 in
theorem law_c24 (xs : Nat → Int32) : ∃ h2, RA prog (lE 6 xs) pV0 41 mL_law 590 lL [] h0 (some (.int 1), h2, 0, 0) := by
  obtain ⟨r, h1, h2, r1, r2⟩ := q_fee (lE 6 xs)
  obtain ⟨o, ho, hc⟩ := r1.shp 110 _ rfl
  refine ⟨h2, ?_⟩
  refine RA.steps (i' := 591) (L' := lL) (st' := [.ref 0]) (h' := h0) 1 rfl ?_
  refine RA.call0 rfl rfl rfl r1 ?_
  refine RA.steps (i' := 593) (L' := lL) (st' := [.ref 110, .int r]) (h' := h1) 1 rfl ?_
  refine RA.call0 rfl rfl (pcallV rfl rfl ho rfl hc (Nat.le_of_ble_eq_true rfl)) r2 ?_
  refine RA.if2T (a := r) (b := r) (rest := []) rfl (decide_eq_true rfl) ?_
  exact law_end xs h2
set_option maxRecDepth 100000 in
theorem law_c25 (xs : Nat → Int32) : ∃ h2, RA prog (lE 6 xs) pV0 41 mL_law 597 lL [] h0 (some (.int 1), h2, 0, 0) := by
  obtain ⟨r, h1, h2, r1, r2⟩ := q_fine (lE 6 xs) (xs 1)
  obtain ⟨o, ho, hc⟩ := r1.shp 110 _ rfl
  refine ⟨h2, ?_⟩
  refine RA.steps (i' := 603) (L' := lL) (st' := [.int (xs 1), .ref 0]) (h' := h0) 6 rfl ?_
  refine RA.call0 rfl rfl rfl r1 ?_
  refine RA.steps (i' := 610) (L' := lL) (st' := [.int (xs 1), .ref 110, .int r]) (h' := h1) 6 rfl ?_
  refine RA.call0 rfl rfl (pcallV rfl rfl ho rfl hc (Nat.le_of_ble_eq_true rfl)) r2 ?_
  refine RA.if2T (a := r) (b := r) (rest := []) rfl (decide_eq_true rfl) ?_
  exact law_end xs h2
set_option maxRecDepth 100000 in
theorem law_c26 (xs : Nat → Int32) : ∃ h2, RA prog (lE 6 xs) pV0 41 mL_law 614 lL [] h0 (some (.int 1), h2, 0, 0) := by
  obtain ⟨r, h1, h2, r1, r2⟩ := q_feed (lE 6 xs) (xs 1) (xs 2) (xs 3)
  obtain ⟨o, ho, hc⟩ := r1.shp 110 _ rfl
  refine ⟨h2, ?_⟩
  refine RA.steps (i' := 630) (L' := lL) (st' := [.int (xs 3), .int (xs 2), .int (xs 1), .ref 0]) (h' := h0) 16 rfl ?_
  refine RA.call0 rfl rfl rfl r1 ?_
  refine RA.steps (i' := 647) (L' := lL) (st' := [.int (xs 3), .int (xs 2), .int (xs 1), .ref 110, .int r]) (h' := h1) 16 rfl ?_
  refine RA.call0 rfl rfl (pcallV rfl rfl ho rfl hc (Nat.le_of_ble_eq_true rfl)) r2 ?_
  refine RA.if2T (a := r) (b := r) (rest := []) rfl (decide_eq_true rfl) ?_
  exact law_end xs h2
set_option maxRecDepth 100000 in
theorem law_c27 (xs : Nat → Int32) : ∃ h2, RA prog (lE 6 xs) pV0 41 mL_law 651 lL [] h0 (some (.int 1), h2, 0, 0) := by
  obtain ⟨r, h1, h2, r1, r2⟩ := q_trim (lE 6 xs) (xs 1)
  obtain ⟨o, ho, hc⟩ := r1.shp 110 _ rfl
  refine ⟨h2, ?_⟩
  refine RA.steps (i' := 657) (L' := lL) (st' := [.int (xs 1), .ref 0]) (h' := h0) 6 rfl ?_
  refine RA.call0 rfl rfl rfl r1 ?_
  refine RA.steps (i' := 664) (L' := lL) (st' := [.int (xs 1), .ref 110, .int r]) (h' := h1) 6 rfl ?_
  refine RA.call0 rfl rfl (pcallV rfl rfl ho rfl hc (Nat.le_of_ble_eq_true rfl)) r2 ?_
  refine RA.if2T (a := r) (b := r) (rest := []) rfl (decide_eq_true rfl) ?_
  exact law_end xs h2
set_option maxRecDepth 100000 in
theorem law_c28 (xs : Nat → Int32) : ∃ h2, RA prog (lE 6 xs) pV0 41 mL_law 668 lL [] h0 (some (.int 1), h2, 0, 0) := by
  obtain ⟨r, h1, h2, r1, r2⟩ := q_text (lE 6 xs)
  obtain ⟨o, ho, hc⟩ := r1.shp 110 _ rfl
  refine ⟨h2, ?_⟩
  refine RA.steps (i' := 669) (L' := lL) (st' := [.ref 0]) (h' := h0) 1 rfl ?_
  refine RA.call0 rfl rfl rfl r1 ?_
  refine RA.steps (i' := 671) (L' := lL) (st' := [.ref 110, .int r]) (h' := h1) 1 rfl ?_
  refine RA.call0 rfl rfl (pcallV rfl rfl ho rfl hc (Nat.le_of_ble_eq_true rfl)) r2 ?_
  refine RA.if2T (a := r) (b := r) (rest := []) rfl (decide_eq_true rfl) ?_
  exact law_end xs h2
set_option maxRecDepth 100000 in
theorem law_c29 (xs : Nat → Int32) : ∃ h2, RA prog (lE 6 xs) pV0 41 mL_law 675 lL [] h0 (some (.int 1), h2, 0, 0) := by
  obtain ⟨r, h1, h2, r1, r2⟩ := q_textTold (lE 6 xs) (xs 1) (xs 2)
  obtain ⟨o, ho, hc⟩ := r1.shp 110 _ rfl
  refine ⟨h2, ?_⟩
  refine RA.steps (i' := 686) (L' := lL) (st' := [.int (xs 2), .int (xs 1), .ref 0]) (h' := h0) 11 rfl ?_
  refine RA.call0 rfl rfl rfl r1 ?_
  refine RA.steps (i' := 698) (L' := lL) (st' := [.int (xs 2), .int (xs 1), .ref 110, .int r]) (h' := h1) 11 rfl ?_
  refine RA.call0 rfl rfl (pcallV rfl rfl ho rfl hc (Nat.le_of_ble_eq_true rfl)) r2 ?_
  refine RA.if2T (a := r) (b := r) (rest := []) rfl (decide_eq_true rfl) ?_
  exact law_end xs h2
set_option maxRecDepth 100000 in
theorem law_c30 (xs : Nat → Int32) : ∃ h2, RA prog (lE 6 xs) pV0 41 mL_law 702 lL [] h0 (some (.int 1), h2, 0, 0) := by
  obtain ⟨r, h1, h2, r1, r2⟩ := q_why (lE 6 xs) (xs 1)
  obtain ⟨o, ho, hc⟩ := r1.shp 110 _ rfl
  refine ⟨h2, ?_⟩
  refine RA.steps (i' := 708) (L' := lL) (st' := [.int (xs 1), .ref 0]) (h' := h0) 6 rfl ?_
  refine RA.call0 rfl rfl rfl r1 ?_
  refine RA.steps (i' := 715) (L' := lL) (st' := [.int (xs 1), .ref 110, .int r]) (h' := h1) 6 rfl ?_
  refine RA.call0 rfl rfl (pcallV rfl rfl ho rfl hc (Nat.le_of_ble_eq_true rfl)) r2 ?_
  refine RA.if2T (a := r) (b := r) (rest := []) rfl (decide_eq_true rfl) ?_
  exact law_end xs h2
set_option maxRecDepth 100000 in
theorem law_c31 (xs : Nat → Int32) : ∃ h2, RA prog (lE 6 xs) pV0 41 mL_law 719 lL [] h0 (some (.int 1), h2, 0, 0) := by
  obtain ⟨r, h1, h2, r1, r2⟩ := q_sheet (lE 6 xs) (xs 1) (xs 2) (xs 3)
  obtain ⟨o, ho, hc⟩ := r1.shp 110 _ rfl
  refine ⟨h2, ?_⟩
  refine RA.steps (i' := 735) (L' := lL) (st' := [.int (xs 3), .int (xs 2), .int (xs 1), .ref 0]) (h' := h0) 16 rfl ?_
  refine RA.call0 rfl rfl rfl r1 ?_
  refine RA.steps (i' := 752) (L' := lL) (st' := [.int (xs 3), .int (xs 2), .int (xs 1), .ref 110, .int r]) (h' := h1) 16 rfl ?_
  refine RA.call0 rfl rfl (pcallV rfl rfl ho rfl hc (Nat.le_of_ble_eq_true rfl)) r2 ?_
  refine RA.if2T (a := r) (b := r) (rest := []) rfl (decide_eq_true rfl) ?_
  exact law_end xs h2
set_option maxRecDepth 100000 in
theorem law_c32 (xs : Nat → Int32) : ∃ h2, RA prog (lE 6 xs) pV0 41 mL_law 756 lL [] h0 (some (.int 1), h2, 0, 0) := by
  obtain ⟨r, h1, h2, r1, r2⟩ := q_mark (lE 6 xs) (xs 1) (xs 2) (xs 3)
  obtain ⟨o, ho, hc⟩ := r1.shp 110 _ rfl
  refine ⟨h2, ?_⟩
  refine RA.steps (i' := 772) (L' := lL) (st' := [.int (xs 3), .int (xs 2), .int (xs 1), .ref 0]) (h' := h0) 16 rfl ?_
  refine RA.call0 rfl rfl rfl r1 ?_
  refine RA.steps (i' := 789) (L' := lL) (st' := [.int (xs 3), .int (xs 2), .int (xs 1), .ref 110, .int r]) (h' := h1) 16 rfl ?_
  refine RA.call0 rfl rfl (pcallV rfl rfl ho rfl hc (Nat.le_of_ble_eq_true rfl)) r2 ?_
  refine RA.if2T (a := r) (b := r) (rest := []) rfl (decide_eq_true rfl) ?_
  exact law_end xs h2
set_option maxRecDepth 100000 in
theorem law_c33 (xs : Nat → Int32) : ∃ h2, RA prog (lE 6 xs) pV0 41 mL_law 793 lL [] h0 (some (.int 1), h2, 0, 0) := by
  obtain ⟨r, h1, h2, r1, r2⟩ := q_pour (lE 6 xs) (xs 1)
  obtain ⟨o, ho, hc⟩ := r1.shp 110 _ rfl
  refine ⟨h2, ?_⟩
  refine RA.steps (i' := 799) (L' := lL) (st' := [.int (xs 1), .ref 0]) (h' := h0) 6 rfl ?_
  refine RA.call0 rfl rfl rfl r1 ?_
  refine RA.steps (i' := 806) (L' := lL) (st' := [.int (xs 1), .ref 110, .int r]) (h' := h1) 6 rfl ?_
  refine RA.call0 rfl rfl (pcallV rfl rfl ho rfl hc (Nat.le_of_ble_eq_true rfl)) r2 ?_
  refine RA.if2T (a := r) (b := r) (rest := []) rfl (decide_eq_true rfl) ?_
  exact law_end xs h2
set_option maxRecDepth 100000 in
theorem law_c34 (xs : Nat → Int32) : ∃ h2, RA prog (lE 6 xs) pV0 41 mL_law 810 lL [] h0 (some (.int 1), h2, 0, 0) := by
  obtain ⟨r, h1, h2, r1, r2⟩ := q_reads (lE 6 xs) (xs 1)
  obtain ⟨o, ho, hc⟩ := r1.shp 110 _ rfl
  refine ⟨h2, ?_⟩
  refine RA.steps (i' := 816) (L' := lL) (st' := [.int (xs 1), .ref 0]) (h' := h0) 6 rfl ?_
  refine RA.call0 rfl rfl rfl r1 ?_
  refine RA.steps (i' := 823) (L' := lL) (st' := [.int (xs 1), .ref 110, .int r]) (h' := h1) 6 rfl ?_
  refine RA.call0 rfl rfl (pcallV rfl rfl ho rfl hc (Nat.le_of_ble_eq_true rfl)) r2 ?_
  refine RA.if2T (a := r) (b := r) (rest := []) rfl (decide_eq_true rfl) ?_
  exact law_end xs h2
set_option maxRecDepth 100000 in
theorem law_c35 (xs : Nat → Int32) : ∃ h2, RA prog (lE 6 xs) pV0 41 mL_law 827 lL [] h0 (some (.int 1), h2, 0, 0) := by
  obtain ⟨r, h1, h2, r1, r2⟩ := q_copy (lE 6 xs) (xs 1) (xs 2) (xs 3) (xs 4) (xs 5)
  obtain ⟨o, ho, hc⟩ := r1.shp 110 _ rfl
  refine ⟨h2, ?_⟩
  refine RA.steps (i' := 853) (L' := lL) (st' := [.int (xs 5), .int (xs 4), .int (xs 3), .int (xs 2), .int (xs 1), .ref 0]) (h' := h0) 26 rfl ?_
  refine RA.call0 rfl rfl rfl r1 ?_
  refine RA.steps (i' := 880) (L' := lL) (st' := [.int (xs 5), .int (xs 4), .int (xs 3), .int (xs 2), .int (xs 1), .ref 110, .int r]) (h' := h1) 26 rfl ?_
  refine RA.call0 rfl rfl (pcallV rfl rfl ho rfl hc (Nat.le_of_ble_eq_true rfl)) r2 ?_
  refine RA.if2T (a := r) (b := r) (rest := []) rfl (decide_eq_true rfl) ?_
  exact law_end xs h2
set_option maxRecDepth 100000 in
theorem law_c36 (xs : Nat → Int32) : ∃ h2, RA prog (lE 6 xs) pV0 41 mL_law 884 lL [] h0 (some (.int 1), h2, 0, 0) := by
  obtain ⟨r, h1, h2, r1, r2⟩ := q_lay (lE 6 xs) (xs 1) (xs 2) (xs 3)
  obtain ⟨o, ho, hc⟩ := r1.shp 110 _ rfl
  refine ⟨h2, ?_⟩
  refine RA.steps (i' := 900) (L' := lL) (st' := [.int (xs 3), .int (xs 2), .int (xs 1), .ref 0]) (h' := h0) 16 rfl ?_
  refine RA.call0 rfl rfl rfl r1 ?_
  refine RA.steps (i' := 917) (L' := lL) (st' := [.int (xs 3), .int (xs 2), .int (xs 1), .ref 110, .int r]) (h' := h1) 16 rfl ?_
  refine RA.call0 rfl rfl (pcallV rfl rfl ho rfl hc (Nat.le_of_ble_eq_true rfl)) r2 ?_
  refine RA.if2T (a := r) (b := r) (rest := []) rfl (decide_eq_true rfl) ?_
  exact law_end xs h2
set_option maxRecDepth 100000 in
theorem law_c37 (xs : Nat → Int32) : ∃ h2, RA prog (lE 6 xs) pV0 41 mL_law 921 lL [] h0 (some (.int 1), h2, 0, 0) := by
  obtain ⟨r, h1, h2, r1, r2⟩ := q_ask (lE 6 xs) (xs 1) (xs 2)
  obtain ⟨o, ho, hc⟩ := r1.shp 110 _ rfl
  refine ⟨h2, ?_⟩
  refine RA.steps (i' := 932) (L' := lL) (st' := [.int (xs 2), .int (xs 1), .ref 0]) (h' := h0) 11 rfl ?_
  refine RA.call0 rfl rfl rfl r1 ?_
  refine RA.steps (i' := 944) (L' := lL) (st' := [.int (xs 2), .int (xs 1), .ref 110, .int r]) (h' := h1) 11 rfl ?_
  refine RA.call0 rfl rfl (pcallV rfl rfl ho rfl hc (Nat.le_of_ble_eq_true rfl)) r2 ?_
  refine RA.if2T (a := r) (b := r) (rest := []) rfl (decide_eq_true rfl) ?_
  exact law_end xs h2
set_option maxRecDepth 100000 in
theorem law_c38 (xs : Nat → Int32) : ∃ h2, RA prog (lE 6 xs) pV0 41 mL_law 948 lL [] h0 (some (.int 1), h2, 0, 0) := by
  obtain ⟨r, h1, h2, r1, r2⟩ := q_item (lE 6 xs) (xs 1) (xs 2)
  obtain ⟨o, ho, hc⟩ := r1.shp 110 _ rfl
  refine ⟨h2, ?_⟩
  refine RA.steps (i' := 959) (L' := lL) (st' := [.int (xs 2), .int (xs 1), .ref 0]) (h' := h0) 11 rfl ?_
  refine RA.call0 rfl rfl rfl r1 ?_
  refine RA.steps (i' := 971) (L' := lL) (st' := [.int (xs 2), .int (xs 1), .ref 110, .int r]) (h' := h1) 11 rfl ?_
  refine RA.call0 rfl rfl (pcallV rfl rfl ho rfl hc (Nat.le_of_ble_eq_true rfl)) r2 ?_
  refine RA.if2T (a := r) (b := r) (rest := []) rfl (decide_eq_true rfl) ?_
  exact law_end xs h2
set_option maxRecDepth 100000 in
theorem law_c39 (xs : Nat → Int32) : ∃ h2, RA prog (lE 6 xs) pV0 41 mL_law 975 lL [] h0 (some (.int 1), h2, 0, 0) := by
  obtain ⟨r, h1, h2, r1, r2⟩ := q_rest (lE 6 xs) (xs 1) (xs 2)
  obtain ⟨o, ho, hc⟩ := r1.shp 110 _ rfl
  refine ⟨h2, ?_⟩
  refine RA.steps (i' := 986) (L' := lL) (st' := [.int (xs 2), .int (xs 1), .ref 0]) (h' := h0) 11 rfl ?_
  refine RA.call0 rfl rfl rfl r1 ?_
  refine RA.steps (i' := 998) (L' := lL) (st' := [.int (xs 2), .int (xs 1), .ref 110, .int r]) (h' := h1) 11 rfl ?_
  refine RA.call0 rfl rfl (pcallV rfl rfl ho rfl hc (Nat.le_of_ble_eq_true rfl)) r2 ?_
  refine RA.if2T (a := r) (b := r) (rest := []) rfl (decide_eq_true rfl) ?_
  exact law_end xs h2
set_option maxRecDepth 100000 in
theorem law_c40 (xs : Nat → Int32) : ∃ h2, RA prog (lE 6 xs) pV0 41 mL_law 1002 lL [] h0 (some (.int 1), h2, 0, 0) := by
  obtain ⟨r, h1, h2, r1, r2⟩ := q_tell (lE 6 xs) (xs 1)
  obtain ⟨o, ho, hc⟩ := r1.shp 110 _ rfl
  refine ⟨h2, ?_⟩
  refine RA.steps (i' := 1008) (L' := lL) (st' := [.int (xs 1), .ref 0]) (h' := h0) 6 rfl ?_
  refine RA.call0 rfl rfl rfl r1 ?_
  refine RA.steps (i' := 1015) (L' := lL) (st' := [.int (xs 1), .ref 110, .int r]) (h' := h1) 6 rfl ?_
  refine RA.call0 rfl rfl (pcallV rfl rfl ho rfl hc (Nat.le_of_ble_eq_true rfl)) r2 ?_
  refine RA.if2T (a := r) (b := r) (rest := []) rfl (decide_eq_true rfl) ?_
  exact law_end xs h2
set_option maxRecDepth 100000 in
theorem law_c41 (xs : Nat → Int32) : ∃ h2, RA prog (lE 6 xs) pV0 41 mL_law 1019 lL [] h0 (some (.int 1), h2, 0, 0) := by
  obtain ⟨r, h1, h2, r1, r2⟩ := q_check (lE 6 xs) (xs 1)
  obtain ⟨o, ho, hc⟩ := r1.shp 110 _ rfl
  refine ⟨h2, ?_⟩
  refine RA.steps (i' := 1025) (L' := lL) (st' := [.int (xs 1), .ref 0]) (h' := h0) 6 rfl ?_
  refine RA.call0 rfl rfl rfl r1 ?_
  refine RA.steps (i' := 1032) (L' := lL) (st' := [.int (xs 1), .ref 110, .int r]) (h' := h1) 6 rfl ?_
  refine RA.call0 rfl rfl (pcallV rfl rfl ho rfl hc (Nat.le_of_ble_eq_true rfl)) r2 ?_
  refine RA.if2T (a := r) (b := r) (rest := []) rfl (decide_eq_true rfl) ?_
  exact law_end xs h2
set_option maxRecDepth 100000 in
theorem law_c42 (xs : Nat → Int32) : ∃ h2, RA prog (lE 6 xs) pV0 41 mL_law 1036 lL [] h0 (some (.int 1), h2, 0, 0) := by
  obtain ⟨r, h1, h2, r1, r2⟩ := q_keep (lE 6 xs)
  obtain ⟨o, ho, hc⟩ := r1.shp 110 _ rfl
  refine ⟨h2, ?_⟩
  refine RA.steps (i' := 1037) (L' := lL) (st' := [.ref 0]) (h' := h0) 1 rfl ?_
  refine RA.call0 rfl rfl rfl r1 ?_
  refine RA.steps (i' := 1039) (L' := lL) (st' := [.ref 110, .int r]) (h' := h1) 1 rfl ?_
  refine RA.call0 rfl rfl (pcallV rfl rfl ho rfl hc (Nat.le_of_ble_eq_true rfl)) r2 ?_
  refine RA.if2T (a := r) (b := r) (rest := []) rfl (decide_eq_true rfl) ?_
  exact law_end xs h2
set_option maxRecDepth 100000 in
theorem law_c43 (xs : Nat → Int32) : ∃ h2, RA prog (lE 6 xs) pV0 41 mL_law 1043 lL [] h0 (some (.int 1), h2, 0, 0) := by
  obtain ⟨r, h1, h2, r1, r2⟩ := q_back (lE 6 xs)
  obtain ⟨o, ho, hc⟩ := r1.shp 110 _ rfl
  refine ⟨h2, ?_⟩
  refine RA.steps (i' := 1044) (L' := lL) (st' := [.ref 0]) (h' := h0) 1 rfl ?_
  refine RA.call0 rfl rfl rfl r1 ?_
  refine RA.steps (i' := 1046) (L' := lL) (st' := [.ref 110, .int r]) (h' := h1) 1 rfl ?_
  refine RA.call0 rfl rfl (pcallV rfl rfl ho rfl hc (Nat.le_of_ble_eq_true rfl)) r2 ?_
  refine RA.if2T (a := r) (b := r) (rest := []) rfl (decide_eq_true rfl) ?_
  exact law_end xs h2
set_option maxRecDepth 100000 in
theorem law_c44 (xs : Nat → Int32) : ∃ h2, RA prog (lE 6 xs) pV0 41 mL_law 1050 lL [] h0 (some (.int 1), h2, 0, 0) := by
  obtain ⟨r, h1, h2, r1, r2⟩ := q_count (lE 6 xs) (xs 1)
  obtain ⟨o, ho, hc⟩ := r1.shp 110 _ rfl
  refine ⟨h2, ?_⟩
  refine RA.steps (i' := 1056) (L' := lL) (st' := [.int (xs 1), .ref 0]) (h' := h0) 6 rfl ?_
  refine RA.call0 rfl rfl rfl r1 ?_
  refine RA.steps (i' := 1063) (L' := lL) (st' := [.int (xs 1), .ref 110, .int r]) (h' := h1) 6 rfl ?_
  refine RA.call0 rfl rfl (pcallV rfl rfl ho rfl hc (Nat.le_of_ble_eq_true rfl)) r2 ?_
  refine RA.if2T (a := r) (b := r) (rest := []) rfl (decide_eq_true rfl) ?_
  exact law_end xs h2
