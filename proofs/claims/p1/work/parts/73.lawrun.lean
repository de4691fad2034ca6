/-! ===== the run of the law (printed by program) ===== -/
set_option maxRecDepth 100000 in
set_option maxHeartbeats 4000000 in
theorem law_z (xs : Nat → Int32) : ∃ h2, RA prog (lE 6 xs) pV0 41 mL_law 10 lL [] h0 (some (.int 1), h2, 0, 0) := by
  have go : ∀ (t : Nat) (h2 : List pC), psw (xs 0 &&& 63).toInt lkeys 1067 = t → RA prog (lE 6 xs) pV0 41 mL_law t lL [] h0 (some (.int 1), h2, 0, 0) → ∃ h2, RA prog (lE 6 xs) pV0 41 mL_law 10 lL [] h0 (some (.int 1), h2, 0, 0) := by
    intro t h2 hx k
    refine ⟨h2, ?_⟩
    refine RA.steps (i' := 14) (L' := lL) (st' := [.int 6, .int 6, .int 0]) (h' := h0) 4 rfl ?_
    refine RA.steps (i' := 15) (L' := lL) (st' := [.int 0, .int 0]) (h' := h0) 1 rfl ?_
    refine RA.steps (i' := 16) (L' := lL) (st' := []) (h' := h0) 1 rfl ?_
    refine RA.steps (i' := 21) (L' := lL) (st' := [.int (xs 0 &&& 63)]) (h' := h0) 5 rfl ?_
    exact RA.sw rfl rfl rfl rfl hx k
  by_cases e0 : xs 0 &&& 63 = 0
  · obtain ⟨h2, k⟩ := law_c0 xs
    exact go 22 h2 (by rw [e0]; rfl) k
  by_cases e1 : xs 0 &&& 63 = 1
  · obtain ⟨h2, k⟩ := law_c1 xs
    exact go 59 h2 (by rw [e1]; rfl) k
  by_cases e2 : xs 0 &&& 63 = 2
  · obtain ⟨h2, k⟩ := law_c2 xs
    exact go 86 h2 (by rw [e2]; rfl) k
  by_cases e3 : xs 0 &&& 63 = 3
  · obtain ⟨h2, k⟩ := law_c3 xs
    exact go 113 h2 (by rw [e3]; rfl) k
  by_cases e4 : xs 0 &&& 63 = 4
  · obtain ⟨h2, k⟩ := law_c4 xs
    exact go 140 h2 (by rw [e4]; rfl) k
  by_cases e5 : xs 0 &&& 63 = 5
  · obtain ⟨h2, k⟩ := law_c5 xs
    exact go 167 h2 (by rw [e5]; rfl) k
  by_cases e6 : xs 0 &&& 63 = 6
  · obtain ⟨h2, k⟩ := law_c6 xs
    exact go 204 h2 (by rw [e6]; rfl) k
  by_cases e7 : xs 0 &&& 63 = 7
  · obtain ⟨h2, k⟩ := law_c7 xs
    exact go 231 h2 (by rw [e7]; rfl) k
  by_cases e8 : xs 0 &&& 63 = 8
  · obtain ⟨h2, k⟩ := law_c8 xs
    exact go 248 h2 (by rw [e8]; rfl) k
  by_cases e9 : xs 0 &&& 63 = 9
  · obtain ⟨h2, k⟩ := law_c9 xs
    exact go 265 h2 (by rw [e9]; rfl) k
  by_cases e10 : xs 0 &&& 63 = 10
  · obtain ⟨h2, k⟩ := law_c10 xs
    exact go 282 h2 (by rw [e10]; rfl) k
  by_cases e11 : xs 0 &&& 63 = 11
  · obtain ⟨h2, k⟩ := law_c11 xs
    exact go 309 h2 (by rw [e11]; rfl) k
  by_cases e12 : xs 0 &&& 63 = 12
  · obtain ⟨h2, k⟩ := law_c12 xs
    exact go 336 h2 (by rw [e12]; rfl) k
  by_cases e13 : xs 0 &&& 63 = 13
  · obtain ⟨h2, k⟩ := law_c13 xs
    exact go 373 h2 (by rw [e13]; rfl) k
  by_cases e14 : xs 0 &&& 63 = 14
  · obtain ⟨h2, k⟩ := law_c14 xs
    exact go 400 h2 (by rw [e14]; rfl) k
  by_cases e15 : xs 0 &&& 63 = 15
  · obtain ⟨h2, k⟩ := law_c15 xs
    exact go 407 h2 (by rw [e15]; rfl) k
  by_cases e16 : xs 0 &&& 63 = 16
  · obtain ⟨h2, k⟩ := law_c16 xs
    exact go 414 h2 (by rw [e16]; rfl) k
  by_cases e17 : xs 0 &&& 63 = 17
  · obtain ⟨h2, k⟩ := law_c17 xs
    exact go 431 h2 (by rw [e17]; rfl) k
  by_cases e18 : xs 0 &&& 63 = 18
  · obtain ⟨h2, k⟩ := law_c18 xs
    exact go 448 h2 (by rw [e18]; rfl) k
  by_cases e19 : xs 0 &&& 63 = 19
  · obtain ⟨h2, k⟩ := law_c19 xs
    exact go 465 h2 (by rw [e19]; rfl) k
  by_cases e20 : xs 0 &&& 63 = 20
  · obtain ⟨h2, k⟩ := law_c20 xs
    exact go 492 h2 (by rw [e20]; rfl) k
  by_cases e21 : xs 0 &&& 63 = 21
  · obtain ⟨h2, k⟩ := law_c21 xs
    exact go 499 h2 (by rw [e21]; rfl) k
  by_cases e22 : xs 0 &&& 63 = 22
  · obtain ⟨h2, k⟩ := law_c22 xs
    exact go 536 h2 (by rw [e22]; rfl) k
  by_cases e23 : xs 0 &&& 63 = 23
  · obtain ⟨h2, k⟩ := law_c23 xs
    exact go 563 h2 (by rw [e23]; rfl) k
  by_cases e24 : xs 0 &&& 63 = 24
  · obtain ⟨h2, k⟩ := law_c24 xs
    exact go 590 h2 (by rw [e24]; rfl) k
  by_cases e25 : xs 0 &&& 63 = 25
  · obtain ⟨h2, k⟩ := law_c25 xs
    exact go 597 h2 (by rw [e25]; rfl) k
  by_cases e26 : xs 0 &&& 63 = 26
  · obtain ⟨h2, k⟩ := law_c26 xs
    exact go 614 h2 (by rw [e26]; rfl) k
  by_cases e27 : xs 0 &&& 63 = 27
  · obtain ⟨h2, k⟩ := law_c27 xs
    exact go 651 h2 (by rw [e27]; rfl) k
  by_cases e28 : xs 0 &&& 63 = 28
  · obtain ⟨h2, k⟩ := law_c28 xs
    exact go 668 h2 (by rw [e28]; rfl) k
  by_cases e29 : xs 0 &&& 63 = 29
  · obtain ⟨h2, k⟩ := law_c29 xs
    exact go 675 h2 (by rw [e29]; rfl) k
  by_cases e30 : xs 0 &&& 63 = 30
  · obtain ⟨h2, k⟩ := law_c30 xs
    exact go 702 h2 (by rw [e30]; rfl) k
  by_cases e31 : xs 0 &&& 63 = 31
  · obtain ⟨h2, k⟩ := law_c31 xs
    exact go 719 h2 (by rw [e31]; rfl) k
  by_cases e32 : xs 0 &&& 63 = 32
  · obtain ⟨h2, k⟩ := law_c32 xs
    exact go 756 h2 (by rw [e32]; rfl) k
  by_cases e33 : xs 0 &&& 63 = 33
  · obtain ⟨h2, k⟩ := law_c33 xs
    exact go 793 h2 (by rw [e33]; rfl) k
  by_cases e34 : xs 0 &&& 63 = 34
  · obtain ⟨h2, k⟩ := law_c34 xs
    exact go 810 h2 (by rw [e34]; rfl) k
  by_cases e35 : xs 0 &&& 63 = 35
  · obtain ⟨h2, k⟩ := law_c35 xs
    exact go 827 h2 (by rw [e35]; rfl) k
  by_cases e36 : xs 0 &&& 63 = 36
  · obtain ⟨h2, k⟩ := law_c36 xs
    exact go 884 h2 (by rw [e36]; rfl) k
  by_cases e37 : xs 0 &&& 63 = 37
  · obtain ⟨h2, k⟩ := law_c37 xs
    exact go 921 h2 (by rw [e37]; rfl) k
  by_cases e38 : xs 0 &&& 63 = 38
  · obtain ⟨h2, k⟩ := law_c38 xs
    exact go 948 h2 (by rw [e38]; rfl) k
  by_cases e39 : xs 0 &&& 63 = 39
  · obtain ⟨h2, k⟩ := law_c39 xs
    exact go 975 h2 (by rw [e39]; rfl) k
  by_cases e40 : xs 0 &&& 63 = 40
  · obtain ⟨h2, k⟩ := law_c40 xs
    exact go 1002 h2 (by rw [e40]; rfl) k
  by_cases e41 : xs 0 &&& 63 = 41
  · obtain ⟨h2, k⟩ := law_c41 xs
    exact go 1019 h2 (by rw [e41]; rfl) k
  by_cases e42 : xs 0 &&& 63 = 42
  · obtain ⟨h2, k⟩ := law_c42 xs
    exact go 1036 h2 (by rw [e42]; rfl) k
  by_cases e43 : xs 0 &&& 63 = 43
  · obtain ⟨h2, k⟩ := law_c43 xs
    exact go 1043 h2 (by rw [e43]; rfl) k
  by_cases e44 : xs 0 &&& 63 = 44
  · obtain ⟨h2, k⟩ := law_c44 xs
    exact go 1050 h2 (by rw [e44]; rfl) k
  exact go 1067 h0 ((psw_ne (lv_neT e0 (by decide))).trans ((psw_ne (lv_neT e1 (by decide))).trans ((psw_ne (lv_neT e2 (by decide))).trans ((psw_ne (lv_neT e3 (by decide))).trans ((psw_ne (lv_neT e4 (by decide))).trans ((psw_ne (lv_neT e5 (by decide))).trans ((psw_ne (lv_neT e6 (by decide))).trans ((psw_ne (lv_neT e7 (by decide))).trans ((psw_ne (lv_neT e8 (by decide))).trans ((psw_ne (lv_neT e9 (by decide))).trans ((psw_ne (lv_neT e10 (by decide))).trans ((psw_ne (lv_neT e11 (by decide))).trans ((psw_ne (lv_neT e12 (by decide))).trans ((psw_ne (lv_neT e13 (by decide))).trans ((psw_ne (lv_neT e14 (by decide))).trans ((psw_ne (lv_neT e15 (by decide))).trans ((psw_ne (lv_neT e16 (by decide))).trans ((psw_ne (lv_neT e17 (by decide))).trans ((psw_ne (lv_neT e18 (by decide))).trans ((psw_ne (lv_neT e19 (by decide))).trans ((psw_ne (lv_neT e20 (by decide))).trans ((psw_ne (lv_neT e21 (by decide))).trans ((psw_ne (lv_neT e22 (by decide))).trans ((psw_ne (lv_neT e23 (by decide))).trans ((psw_ne (lv_neT e24 (by decide))).trans ((psw_ne (lv_neT e25 (by decide))).trans ((psw_ne (lv_neT e26 (by decide))).trans ((psw_ne (lv_neT e27 (by decide))).trans ((psw_ne (lv_neT e28 (by decide))).trans ((psw_ne (lv_neT e29 (by decide))).trans ((psw_ne (lv_neT e30 (by decide))).trans ((psw_ne (lv_neT e31 (by decide))).trans ((psw_ne (lv_neT e32 (by decide))).trans ((psw_ne (lv_neT e33 (by decide))).trans ((psw_ne (lv_neT e34 (by decide))).trans ((psw_ne (lv_neT e35 (by decide))).trans ((psw_ne (lv_neT e36 (by decide))).trans ((psw_ne (lv_neT e37 (by decide))).trans ((psw_ne (lv_neT e38 (by decide))).trans ((psw_ne (lv_neT e39 (by decide))).trans ((psw_ne (lv_neT e40 (by decide))).trans ((psw_ne (lv_neT e41 (by decide))).trans ((psw_ne (lv_neT e42 (by decide))).trans ((psw_ne (lv_neT e43 (by decide))).trans ((psw_ne (lv_neT e44 (by decide))).trans (rfl)))))))))))))))))))))))))))))))))))))))))))))) (law_end xs h0)
set_option maxRecDepth 100000 in
set_option maxHeartbeats 4000000 in
theorem law_s (L : Nat) (hL : L < 6) (xs : Nat → Int32) : RA prog (lE L xs) pV0 41 mL_law 10 lL [] h0 (some (.int 1), h0, 0, 0) := by
  have h : L = 0 ∨ L = 1 ∨ L = 2 ∨ L = 3 ∨ L = 4 ∨ L = 5 := by omega
  rcases h with rfl | rfl | rfl | rfl | rfl | rfl
  · refine RA.steps (i' := 14) (L' := lL) (st' := [.int 6, .int 0, .int 0]) (h' := h0) 4 rfl ?_
    refine RA.steps (i' := 15) (L' := lL) (st' := [.int (-6), .int 0]) (h' := h0) 1 rfl ?_
    refine RA.steps (i' := 1069) (L' := lL) (st' := []) (h' := h0) 1 rfl ?_
    refine RA.steps (i' := 1070) (L' := lL) (st' := [.int 1]) (h' := h0) 1 rfl ?_
    exact RA.ret rfl rfl
  · refine RA.steps (i' := 14) (L' := lL) (st' := [.int 6, .int 1, .int 0]) (h' := h0) 4 rfl ?_
    refine RA.steps (i' := 15) (L' := lL) (st' := [.int (-5), .int 0]) (h' := h0) 1 rfl ?_
    refine RA.steps (i' := 1069) (L' := lL) (st' := []) (h' := h0) 1 rfl ?_
    refine RA.steps (i' := 1070) (L' := lL) (st' := [.int 1]) (h' := h0) 1 rfl ?_
    exact RA.ret rfl rfl
  · refine RA.steps (i' := 14) (L' := lL) (st' := [.int 6, .int 2, .int 0]) (h' := h0) 4 rfl ?_
    refine RA.steps (i' := 15) (L' := lL) (st' := [.int (-4), .int 0]) (h' := h0) 1 rfl ?_
    refine RA.steps (i' := 1069) (L' := lL) (st' := []) (h' := h0) 1 rfl ?_
    refine RA.steps (i' := 1070) (L' := lL) (st' := [.int 1]) (h' := h0) 1 rfl ?_
    exact RA.ret rfl rfl
  · refine RA.steps (i' := 14) (L' := lL) (st' := [.int 6, .int 3, .int 0]) (h' := h0) 4 rfl ?_
    refine RA.steps (i' := 15) (L' := lL) (st' := [.int (-3), .int 0]) (h' := h0) 1 rfl ?_
    refine RA.steps (i' := 1069) (L' := lL) (st' := []) (h' := h0) 1 rfl ?_
    refine RA.steps (i' := 1070) (L' := lL) (st' := [.int 1]) (h' := h0) 1 rfl ?_
    exact RA.ret rfl rfl
  · refine RA.steps (i' := 14) (L' := lL) (st' := [.int 6, .int 4, .int 0]) (h' := h0) 4 rfl ?_
    refine RA.steps (i' := 15) (L' := lL) (st' := [.int (-2), .int 0]) (h' := h0) 1 rfl ?_
    refine RA.steps (i' := 1069) (L' := lL) (st' := []) (h' := h0) 1 rfl ?_
    refine RA.steps (i' := 1070) (L' := lL) (st' := [.int 1]) (h' := h0) 1 rfl ?_
    exact RA.ret rfl rfl
  · refine RA.steps (i' := 14) (L' := lL) (st' := [.int 6, .int 5, .int 0]) (h' := h0) 4 rfl ?_
    refine RA.steps (i' := 15) (L' := lL) (st' := [.int (-1), .int 0]) (h' := h0) 1 rfl ?_
    refine RA.steps (i' := 1069) (L' := lL) (st' := []) (h' := h0) 1 rfl ?_
    refine RA.steps (i' := 1070) (L' := lL) (st' := [.int 1]) (h' := h0) 1 rfl ?_
    exact RA.ret rfl rfl
theorem law_ten (L : Nat) (hL : L ≤ 6) (xs : Nat → Int32) : ∃ h2, RA prog (lE L xs) pV0 41 mL_law 10 lL [] h0 (some (.int 1), h2, 0, 0) := by
  by_cases h : L < 6
  · exact ⟨h0, law_s L h xs⟩
  · obtain rfl : L = 6 := by omega
    exact law_z xs
set_option maxRecDepth 100000 in
set_option maxHeartbeats 4000000 in
theorem law_all (L : Nat) (hL : L ≤ 6) (xs : Nat → Int32) : ∃ h2, RA prog (lE L xs) pV0 41 mL_law 0 (pent 4 [.retAddr 0]) [] [] (some (.int 1), h2, 130, 12545) := by
  obtain ⟨h2, k⟩ := law_ten L hL xs
  refine ⟨h2, ?_⟩
  refine RA.step (dk := 1) (dn := 10) (k2 := 129) (n2 := 12535) (i' := 1) (L' := [some (.retAddr 0), none, none, none]) (st' := [.ref 0]) (h' := [.inr (.inr (7, pini 7))]) rfl rfl rfl rfl ?_
  refine RA.steps 1 rfl ?_
  refine RA.call (k1 := 109) (n1 := 2482) (k2 := 20) (n2 := 10053) rfl rfl rfl (run_C40 _ _) ?_
  refine RA.steps (i' := 4) (L' := [some (.retAddr 0), some (.ref 0), none, none]) (st' := []) (h' := hC) 1 rfl ?_
  refine RA.step (dk := 1) (dn := 32) (k2 := 19) (n2 := 10021) (i' := 5) (L' := [some (.retAddr 0), some (.ref 0), none, none]) (st' := [.ref 110]) (h' := hC ++ [.inr (.inr (8, pini 8))]) rfl rfl rfl rfl ?_
  refine RA.steps 1 rfl ?_
  refine RA.call (k1 := 19) (n1 := 10021) (k2 := 0) (n2 := 0) rfl rfl rfl (run_M40 _ _) ?_
  exact RA.steps (i' := 10) (L' := lL) (st' := []) (h' := h0) 3 rfl k
