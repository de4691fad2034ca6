set_option maxRecDepth 100000 in
set_option maxHeartbeats 60000000 in
theorem q_sheet (E : pX) (a b c : Int32) : ∃ (r : Int32) (h1 h2 : List pC), Run prog E pV0 40 mX7_sheet [.ref 0, .int a, .int b, .int c] h0 (some (.int r), h1, 0, 0) ∧ Run prog E pV0 40 mX8_sheet [.ref 110, .int a, .int b, .int c] h1 (some (.int r), h2, 0, 0) := by
  by_cases h1 : a < 0
  · exact ⟨(-1000000001), h0, _, by
        refine ⟨Nat.le_of_ble_eq_true rfl, ⟨_, _, rfl⟩, ?_⟩
        refine RA.steps (i' := 2) (L' := [some (.ref 0), some (.int a), some (.int b), some (.int c), none]) (st' := [.int a, .ref 0]) (h' := h0) 2 rfl ?_
        refine RA.call0 (h1 := h0) (r1 := some (.null)) rfl rfl rfl (by
          refine ⟨Nat.le_of_ble_eq_true rfl, ⟨_, _, rfl⟩, ?_⟩
          refine RA.steps (i' := 1) (L' := [some (.ref 0), some (.int a)]) (st' := [.int a]) (h' := h0) 1 rfl ?_
          refine RA.if1T rfl (decide_eq_true h1) ?_
          refine RA.steps (i' := 13) (L' := [some (.ref 0), some (.int a)]) (st' := [.null]) (h' := h0) 1 rfl ?_
          exact RA.ret rfl rfl) ?_
        refine RA.steps (i' := 12) (L' := [some (.ref 0), some (.int a), some (.int b), some (.int c), some (.null)]) (st' := [.int (-1000000001)]) (h' := h0) 4 rfl ?_
        exact RA.ret rfl rfl, by
        refine ⟨Nat.le_of_ble_eq_true rfl, ⟨_, _, rfl⟩, ?_⟩
        refine RA.steps (i' := 1) (L' := [some (.ref 110), some (.int a), some (.int b), some (.int c), none]) (st' := [.int a]) (h' := h0) 1 rfl ?_
        refine RA.call0 (h1 := h0) (r1 := some (.int 0)) rfl rfl rfl (by
          refine ⟨Nat.le_of_ble_eq_true rfl, ⟨_, _, rfl⟩, ?_⟩
          refine RA.steps (i' := 4) (L' := [some (.int a)]) (st' := [.long 3, .long 0, .long (a : Int32).toInt64]) (h' := h0) 4 rfl ?_
          refine RA.call0 rfl rfl rfl (isIn_f (v := a) (lo := 0) (hi := 3) (fun q => absurd h1 (Int32.not_lt.mpr q.1))) ?_
          exact RA.ret rfl rfl) ?_
        refine RA.steps (i' := 15) (L' := [some (.ref 110), some (.int a), some (.int b), some (.int c), none]) (st' := [.int (-1000000001)]) (h' := h0) 2 rfl ?_
        exact RA.ret rfl rfl⟩
  · by_cases h2 : a < 4
    · rcases cases_0_3 (in_lt_4 h1 h2) with rfl | rfl | rfl | rfl
      · by_cases h3 : (-1) ≤ b ∧ b ≤ 1
        · rcases cases_m1_1 h3 with rfl | rfl | rfl
          · obtain ⟨f0, hf0⟩ := fill_run (E := E) (V := pV0) (d := 37) (h := h0) (a := 83) rfl
            obtain ⟨hx1, hs1⟩ := sh_run (E := E) (V := pV0) (d := 39) (S := 0) (so := (-1)) (n := c) (w := 0) (h := (((h0.set 83 (.inl (24, f0))).set 114 (.inl (4, va_up (va_up (va_up (va_up (va_up (fun _ => 0) 0 (-1)) 1 (-1)) 2 (-1)) 3 (-1)) 0 (-1)))).set 115 (.inl (4, va_up (fun _ => 0) 0 0)))) rfl rfl rfl rfl rfl rfl (by decide) (by decide) (by decide)
            exact ⟨0, (h0.set 83 (.inl (24, f0))), _, by
                refine ⟨Nat.le_of_ble_eq_true rfl, ⟨_, _, rfl⟩, ?_⟩
                refine RA.steps (i' := 2) (L' := [some (.ref 0), some (.int 0), some (.int (-1)), some (.int c), none]) (st' := [.int 0, .ref 0]) (h' := h0) 2 rfl ?_
                refine RA.call0 (h1 := h0) (r1 := some (.ref 82)) rfl rfl rfl (Run.ex 4000 (Nat.le_of_ble_eq_true rfl) ⟨_, _, rfl⟩ rfl) ?_
                refine RA.steps (i' := 9) (L' := [some (.ref 0), some (.int 0), some (.int (-1)), some (.int c), some (.ref 82)]) (st' := [.int 1, .int (-1), .int (-1)]) (h' := h0) 6 rfl ?_
                refine RA.call0 (h1 := h0) (r1 := some (.int 1)) rfl rfl rfl (Run.ex 4000 (Nat.le_of_ble_eq_true rfl) ⟨_, _, rfl⟩ rfl) ?_
                refine RA.steps (i' := 19) (L' := [some (.ref 0), some (.int 0), some (.int (-1)), some (.int c), some (.ref 82)]) (st' := [.int 0, .int (-1), .ref 82]) (h' := h0) 7 rfl ?_
                refine RA.call0 (h1 := (h0.set 83 (.inl (24, f0)))) (r1 := none) rfl rfl rfl (by
                  refine ⟨Nat.le_of_ble_eq_true rfl, ⟨_, _, rfl⟩, ?_⟩
                  refine RA.steps (i' := 9) (L' := [some (.ref 82), some (.int (-1)), some (.int 0)]) (st' := [.int 0, .ref 83]) (h' := h0) 9 rfl ?_
                  refine RA.call0 rfl rfl rfl hf0 ?_
                  exact RA.ret rfl rfl) ?_
                refine RA.steps (i' := 21) (L' := [some (.ref 0), some (.int 0), some (.int (-1)), some (.int c), some (.ref 82)]) (st' := [.int 0]) (h' := (h0.set 83 (.inl (24, f0)))) 1 rfl ?_
                exact RA.ret rfl rfl, by
                refine ⟨Nat.le_of_ble_eq_true rfl, ⟨_, _, rfl⟩, ?_⟩
                refine RA.steps (i' := 1) (L' := [some (.ref 110), some (.int 0), some (.int (-1)), some (.int c), none]) (st' := [.int 0]) (h' := (h0.set 83 (.inl (24, f0)))) 1 rfl ?_
                refine RA.call0 (h1 := (h0.set 83 (.inl (24, f0)))) (r1 := some (.int 1)) rfl rfl rfl (Run.ex 4000 (Nat.le_of_ble_eq_true rfl) ⟨_, _, rfl⟩ rfl) ?_
                refine RA.steps (i' := 7) (L' := [some (.ref 110), some (.int 0), some (.int (-1)), some (.int c), none]) (st' := [.long 1, .long (-1), .long (-1)]) (h' := (h0.set 83 (.inl (24, f0)))) 5 rfl ?_
                refine RA.call0 (h1 := (h0.set 83 (.inl (24, f0)))) (r1 := some (.int 1)) rfl rfl rfl (Run.ex 4000 (Nat.le_of_ble_eq_true rfl) ⟨_, _, rfl⟩ rfl) ?_
                refine RA.steps (i' := 38) (L' := [some (.ref 110), some (.int 0), some (.int (-1)), some (.int c), some (.int 0)]) (st' := []) (h' := (((h0.set 83 (.inl (24, f0))).set 114 (.inl (4, va_up (va_up (va_up (va_up (va_up (fun _ => 0) 0 (-1)) 1 (-1)) 2 (-1)) 3 (-1)) 0 (-1)))).set 115 (.inl (4, va_up (fun _ => 0) 0 0)))) 20 rfl ?_
                exact hs1⟩
          · by_cases h4 : 24 < c
            · exact ⟨(-1000000001), h0, _, by
                  refine ⟨Nat.le_of_ble_eq_true rfl, ⟨_, _, rfl⟩, ?_⟩
                  refine RA.steps (i' := 2) (L' := [some (.ref 0), some (.int 0), some (.int 0), some (.int c), none]) (st' := [.int 0, .ref 0]) (h' := h0) 2 rfl ?_
                  refine RA.call0 (h1 := h0) (r1 := some (.ref 82)) rfl rfl rfl (Run.ex 4000 (Nat.le_of_ble_eq_true rfl) ⟨_, _, rfl⟩ rfl) ?_
                  refine RA.steps (i' := 9) (L' := [some (.ref 0), some (.int 0), some (.int 0), some (.int c), some (.ref 82)]) (st' := [.int 1, .int (-1), .int 0]) (h' := h0) 6 rfl ?_
                  refine RA.call0 (h1 := h0) (r1 := some (.int 1)) rfl rfl rfl (Run.ex 4000 (Nat.le_of_ble_eq_true rfl) ⟨_, _, rfl⟩ rfl) ?_
                  refine RA.steps (i' := 24) (L' := [some (.ref 0), some (.int 0), some (.int 0), some (.int c), some (.ref 82)]) (st' := [.int 24, .int c]) (h' := h0) 6 rfl ?_
                  refine RA.if2F rfl (decide_eq_false (Int32.not_le.mpr h4)) ?_
                  refine RA.steps (i' := 26) (L' := [some (.ref 0), some (.int 0), some (.int 0), some (.int c), some (.ref 82)]) (st' := [.int (-1000000001)]) (h' := h0) 1 rfl ?_
                  exact RA.ret rfl rfl, by
                  refine ⟨Nat.le_of_ble_eq_true rfl, ⟨_, _, rfl⟩, ?_⟩
                  refine RA.steps (i' := 1) (L' := [some (.ref 110), some (.int 0), some (.int 0), some (.int c), none]) (st' := [.int 0]) (h' := h0) 1 rfl ?_
                  refine RA.call0 (h1 := h0) (r1 := some (.int 1)) rfl rfl rfl (Run.ex 4000 (Nat.le_of_ble_eq_true rfl) ⟨_, _, rfl⟩ rfl) ?_
                  refine RA.steps (i' := 7) (L' := [some (.ref 110), some (.int 0), some (.int 0), some (.int c), none]) (st' := [.long 1, .long (-1), .long 0]) (h' := h0) 5 rfl ?_
                  refine RA.call0 (h1 := h0) (r1 := some (.int 1)) rfl rfl rfl (Run.ex 4000 (Nat.le_of_ble_eq_true rfl) ⟨_, _, rfl⟩ rfl) ?_
                  refine RA.steps (i' := 13) (L' := [some (.ref 110), some (.int 0), some (.int 0), some (.int c), none]) (st' := [.int 24, .int c]) (h' := h0) 5 rfl ?_
                  refine RA.if2F rfl (decide_eq_false (Int32.not_le.mpr h4)) ?_
                  refine RA.steps (i' := 15) (L' := [some (.ref 110), some (.int 0), some (.int 0), some (.int c), none]) (st' := [.int (-1000000001)]) (h' := h0) 1 rfl ?_
                  exact RA.ret rfl rfl⟩
            · by_cases h5 : c < 0
              · exact ⟨(-1000000014), h0, _, by
                    refine ⟨Nat.le_of_ble_eq_true rfl, ⟨_, _, rfl⟩, ?_⟩
                    refine RA.steps (i' := 2) (L' := [some (.ref 0), some (.int 0), some (.int 0), some (.int c), none]) (st' := [.int 0, .ref 0]) (h' := h0) 2 rfl ?_
                    refine RA.call0 (h1 := h0) (r1 := some (.ref 82)) rfl rfl rfl (Run.ex 4000 (Nat.le_of_ble_eq_true rfl) ⟨_, _, rfl⟩ rfl) ?_
                    refine RA.steps (i' := 9) (L' := [some (.ref 0), some (.int 0), some (.int 0), some (.int c), some (.ref 82)]) (st' := [.int 1, .int (-1), .int 0]) (h' := h0) 6 rfl ?_
                    refine RA.call0 (h1 := h0) (r1 := some (.int 1)) rfl rfl rfl (Run.ex 4000 (Nat.le_of_ble_eq_true rfl) ⟨_, _, rfl⟩ rfl) ?_
                    refine RA.steps (i' := 24) (L' := [some (.ref 0), some (.int 0), some (.int 0), some (.int c), some (.ref 82)]) (st' := [.int 24, .int c]) (h' := h0) 6 rfl ?_
                    refine RA.if2T rfl (decide_eq_true (Int32.not_lt.mp h4)) ?_
                    refine RA.steps (i' := 28) (L' := [some (.ref 0), some (.int 0), some (.int 0), some (.int c), some (.ref 82)]) (st' := [.int c]) (h' := h0) 1 rfl ?_
                    refine RA.if1F rfl (decide_eq_false (Int32.not_le.mpr h5)) ?_
                    refine RA.steps (i' := 30) (L' := [some (.ref 0), some (.int 0), some (.int 0), some (.int c), some (.ref 82)]) (st' := [.int (-1000000014)]) (h' := h0) 1 rfl ?_
                    exact RA.ret rfl rfl, by
                    refine ⟨Nat.le_of_ble_eq_true rfl, ⟨_, _, rfl⟩, ?_⟩
                    refine RA.steps (i' := 1) (L' := [some (.ref 110), some (.int 0), some (.int 0), some (.int c), none]) (st' := [.int 0]) (h' := h0) 1 rfl ?_
                    refine RA.call0 (h1 := h0) (r1 := some (.int 1)) rfl rfl rfl (Run.ex 4000 (Nat.le_of_ble_eq_true rfl) ⟨_, _, rfl⟩ rfl) ?_
                    refine RA.steps (i' := 7) (L' := [some (.ref 110), some (.int 0), some (.int 0), some (.int c), none]) (st' := [.long 1, .long (-1), .long 0]) (h' := h0) 5 rfl ?_
                    refine RA.call0 (h1 := h0) (r1 := some (.int 1)) rfl rfl rfl (Run.ex 4000 (Nat.le_of_ble_eq_true rfl) ⟨_, _, rfl⟩ rfl) ?_
                    refine RA.steps (i' := 13) (L' := [some (.ref 110), some (.int 0), some (.int 0), some (.int c), none]) (st' := [.int 24, .int c]) (h' := h0) 5 rfl ?_
                    refine RA.if2T rfl (decide_eq_true (Int32.not_lt.mp h4)) ?_
                    refine RA.steps (i' := 19) (L' := [some (.ref 110), some (.int 0), some (.int 0), some (.int c), none]) (st' := [.int c]) (h' := h0) 3 rfl ?_
                    refine RA.if1F rfl (decide_eq_false (Int32.not_le.mpr h5)) ?_
                    refine RA.steps (i' := 21) (L' := [some (.ref 110), some (.int 0), some (.int 0), some (.int c), none]) (st' := [.int (-1000000014)]) (h' := h0) 1 rfl ?_
                    exact RA.ret rfl rfl⟩
              · obtain ⟨f0, hf0⟩ := fill_run (E := E) (V := pV0) (d := 37) (h := (h0.set 82 (.inr (.inr (3, [.ref 83, .int 0, .int c]))))) (a := 83) rfl
                obtain ⟨hx1, hs1⟩ := sh_run (E := E) (V := pV0) (d := 39) (S := 0) (so := 0) (n := c) (w := c) (h := ((((h0.set 82 (.inr (.inr (3, [.ref 83, .int 0, .int c])))).set 83 (.inl (24, f0))).set 114 (.inl (4, va_up (va_up (va_up (va_up (va_up (fun _ => 0) 0 (-1)) 1 (-1)) 2 (-1)) 3 (-1)) 0 0))).set 115 (.inl (4, va_up (fun _ => 0) 0 c)))) rfl rfl rfl rfl rfl rfl (by decide) (by decide) (by decide)
                exact ⟨c, ((h0.set 82 (.inr (.inr (3, [.ref 83, .int 0, .int c])))).set 83 (.inl (24, f0))), _, by
                    refine ⟨Nat.le_of_ble_eq_true rfl, ⟨_, _, rfl⟩, ?_⟩
                    refine RA.steps (i' := 2) (L' := [some (.ref 0), some (.int 0), some (.int 0), some (.int c), none]) (st' := [.int 0, .ref 0]) (h' := h0) 2 rfl ?_
                    refine RA.call0 (h1 := h0) (r1 := some (.ref 82)) rfl rfl rfl (Run.ex 4000 (Nat.le_of_ble_eq_true rfl) ⟨_, _, rfl⟩ rfl) ?_
                    refine RA.steps (i' := 9) (L' := [some (.ref 0), some (.int 0), some (.int 0), some (.int c), some (.ref 82)]) (st' := [.int 1, .int (-1), .int 0]) (h' := h0) 6 rfl ?_
                    refine RA.call0 (h1 := h0) (r1 := some (.int 1)) rfl rfl rfl (Run.ex 4000 (Nat.le_of_ble_eq_true rfl) ⟨_, _, rfl⟩ rfl) ?_
                    refine RA.steps (i' := 24) (L' := [some (.ref 0), some (.int 0), some (.int 0), some (.int c), some (.ref 82)]) (st' := [.int 24, .int c]) (h' := h0) 6 rfl ?_
                    refine RA.if2T rfl (decide_eq_true (Int32.not_lt.mp h4)) ?_
                    refine RA.steps (i' := 28) (L' := [some (.ref 0), some (.int 0), some (.int 0), some (.int c), some (.ref 82)]) (st' := [.int c]) (h' := h0) 1 rfl ?_
                    refine RA.if1T rfl (decide_eq_true (Int32.not_lt.mp h5)) ?_
                    refine RA.steps (i' := 34) (L' := [some (.ref 0), some (.int 0), some (.int 0), some (.int c), some (.ref 82)]) (st' := [.int c, .int 0, .ref 82]) (h' := h0) 3 rfl ?_
                    refine RA.call0 (h1 := ((h0.set 82 (.inr (.inr (3, [.ref 83, .int 0, .int c])))).set 83 (.inl (24, f0)))) (r1 := none) rfl rfl rfl (by
                      refine ⟨Nat.le_of_ble_eq_true rfl, ⟨_, _, rfl⟩, ?_⟩
                      refine RA.steps (i' := 9) (L' := [some (.ref 82), some (.int 0), some (.int c)]) (st' := [.int 0, .ref 83]) (h' := (h0.set 82 (.inr (.inr (3, [.ref 83, .int 0, .int c]))))) 9 rfl ?_
                      refine RA.call0 rfl rfl rfl hf0 ?_
                      exact RA.ret rfl rfl) ?_
                    refine RA.steps (i' := 36) (L' := [some (.ref 0), some (.int 0), some (.int 0), some (.int c), some (.ref 82)]) (st' := [.int c]) (h' := ((h0.set 82 (.inr (.inr (3, [.ref 83, .int 0, .int c])))).set 83 (.inl (24, f0)))) 1 rfl ?_
                    exact RA.ret rfl rfl, by
                    refine ⟨Nat.le_of_ble_eq_true rfl, ⟨_, _, rfl⟩, ?_⟩
                    refine RA.steps (i' := 1) (L' := [some (.ref 110), some (.int 0), some (.int 0), some (.int c), none]) (st' := [.int 0]) (h' := ((h0.set 82 (.inr (.inr (3, [.ref 83, .int 0, .int c])))).set 83 (.inl (24, f0)))) 1 rfl ?_
                    refine RA.call0 (h1 := ((h0.set 82 (.inr (.inr (3, [.ref 83, .int 0, .int c])))).set 83 (.inl (24, f0)))) (r1 := some (.int 1)) rfl rfl rfl (Run.ex 4000 (Nat.le_of_ble_eq_true rfl) ⟨_, _, rfl⟩ rfl) ?_
                    refine RA.steps (i' := 7) (L' := [some (.ref 110), some (.int 0), some (.int 0), some (.int c), none]) (st' := [.long 1, .long (-1), .long 0]) (h' := ((h0.set 82 (.inr (.inr (3, [.ref 83, .int 0, .int c])))).set 83 (.inl (24, f0)))) 5 rfl ?_
                    refine RA.call0 (h1 := ((h0.set 82 (.inr (.inr (3, [.ref 83, .int 0, .int c])))).set 83 (.inl (24, f0)))) (r1 := some (.int 1)) rfl rfl rfl (Run.ex 4000 (Nat.le_of_ble_eq_true rfl) ⟨_, _, rfl⟩ rfl) ?_
                    refine RA.steps (i' := 13) (L' := [some (.ref 110), some (.int 0), some (.int 0), some (.int c), none]) (st' := [.int 24, .int c]) (h' := ((h0.set 82 (.inr (.inr (3, [.ref 83, .int 0, .int c])))).set 83 (.inl (24, f0)))) 5 rfl ?_
                    refine RA.if2T rfl (decide_eq_true (Int32.not_lt.mp h4)) ?_
                    refine RA.steps (i' := 19) (L' := [some (.ref 110), some (.int 0), some (.int 0), some (.int c), none]) (st' := [.int c]) (h' := ((h0.set 82 (.inr (.inr (3, [.ref 83, .int 0, .int c])))).set 83 (.inl (24, f0)))) 3 rfl ?_
                    refine RA.if1T rfl (decide_eq_true (Int32.not_lt.mp h5)) ?_
                    refine RA.steps (i' := 38) (L' := [some (.ref 110), some (.int 0), some (.int 0), some (.int c), some (.int 0)]) (st' := []) (h' := ((((h0.set 82 (.inr (.inr (3, [.ref 83, .int 0, .int c])))).set 83 (.inl (24, f0))).set 114 (.inl (4, va_up (va_up (va_up (va_up (va_up (fun _ => 0) 0 (-1)) 1 (-1)) 2 (-1)) 3 (-1)) 0 0))).set 115 (.inl (4, va_up (fun _ => 0) 0 c)))) 14 rfl ?_
                    exact hs1⟩
          · by_cases h6 : 24 < c
            · exact ⟨(-1000000001), h0, _, by
                  refine ⟨Nat.le_of_ble_eq_true rfl, ⟨_, _, rfl⟩, ?_⟩
                  refine RA.steps (i' := 2) (L' := [some (.ref 0), some (.int 0), some (.int 1), some (.int c), none]) (st' := [.int 0, .ref 0]) (h' := h0) 2 rfl ?_
                  refine RA.call0 (h1 := h0) (r1 := some (.ref 82)) rfl rfl rfl (Run.ex 4000 (Nat.le_of_ble_eq_true rfl) ⟨_, _, rfl⟩ rfl) ?_
                  refine RA.steps (i' := 9) (L' := [some (.ref 0), some (.int 0), some (.int 1), some (.int c), some (.ref 82)]) (st' := [.int 1, .int (-1), .int 1]) (h' := h0) 6 rfl ?_
                  refine RA.call0 (h1 := h0) (r1 := some (.int 1)) rfl rfl rfl (Run.ex 4000 (Nat.le_of_ble_eq_true rfl) ⟨_, _, rfl⟩ rfl) ?_
                  refine RA.steps (i' := 24) (L' := [some (.ref 0), some (.int 0), some (.int 1), some (.int c), some (.ref 82)]) (st' := [.int 24, .int c]) (h' := h0) 6 rfl ?_
                  refine RA.if2F rfl (decide_eq_false (Int32.not_le.mpr h6)) ?_
                  refine RA.steps (i' := 26) (L' := [some (.ref 0), some (.int 0), some (.int 1), some (.int c), some (.ref 82)]) (st' := [.int (-1000000001)]) (h' := h0) 1 rfl ?_
                  exact RA.ret rfl rfl, by
                  refine ⟨Nat.le_of_ble_eq_true rfl, ⟨_, _, rfl⟩, ?_⟩
                  refine RA.steps (i' := 1) (L' := [some (.ref 110), some (.int 0), some (.int 1), some (.int c), none]) (st' := [.int 0]) (h' := h0) 1 rfl ?_
                  refine RA.call0 (h1 := h0) (r1 := some (.int 1)) rfl rfl rfl (Run.ex 4000 (Nat.le_of_ble_eq_true rfl) ⟨_, _, rfl⟩ rfl) ?_
                  refine RA.steps (i' := 7) (L' := [some (.ref 110), some (.int 0), some (.int 1), some (.int c), none]) (st' := [.long 1, .long (-1), .long 1]) (h' := h0) 5 rfl ?_
                  refine RA.call0 (h1 := h0) (r1 := some (.int 1)) rfl rfl rfl (Run.ex 4000 (Nat.le_of_ble_eq_true rfl) ⟨_, _, rfl⟩ rfl) ?_
                  refine RA.steps (i' := 13) (L' := [some (.ref 110), some (.int 0), some (.int 1), some (.int c), none]) (st' := [.int 24, .int c]) (h' := h0) 5 rfl ?_
                  refine RA.if2F rfl (decide_eq_false (Int32.not_le.mpr h6)) ?_
                  refine RA.steps (i' := 15) (L' := [some (.ref 110), some (.int 0), some (.int 1), some (.int c), none]) (st' := [.int (-1000000001)]) (h' := h0) 1 rfl ?_
                  exact RA.ret rfl rfl⟩
            · by_cases h7 : c < 0
              · exact ⟨(-1000000014), h0, _, by
                    refine ⟨Nat.le_of_ble_eq_true rfl, ⟨_, _, rfl⟩, ?_⟩
                    refine RA.steps (i' := 2) (L' := [some (.ref 0), some (.int 0), some (.int 1), some (.int c), none]) (st' := [.int 0, .ref 0]) (h' := h0) 2 rfl ?_
                    refine RA.call0 (h1 := h0) (r1 := some (.ref 82)) rfl rfl rfl (Run.ex 4000 (Nat.le_of_ble_eq_true rfl) ⟨_, _, rfl⟩ rfl) ?_
                    refine RA.steps (i' := 9) (L' := [some (.ref 0), some (.int 0), some (.int 1), some (.int c), some (.ref 82)]) (st' := [.int 1, .int (-1), .int 1]) (h' := h0) 6 rfl ?_
                    refine RA.call0 (h1 := h0) (r1 := some (.int 1)) rfl rfl rfl (Run.ex 4000 (Nat.le_of_ble_eq_true rfl) ⟨_, _, rfl⟩ rfl) ?_
                    refine RA.steps (i' := 24) (L' := [some (.ref 0), some (.int 0), some (.int 1), some (.int c), some (.ref 82)]) (st' := [.int 24, .int c]) (h' := h0) 6 rfl ?_
                    refine RA.if2T rfl (decide_eq_true (Int32.not_lt.mp h6)) ?_
                    refine RA.steps (i' := 28) (L' := [some (.ref 0), some (.int 0), some (.int 1), some (.int c), some (.ref 82)]) (st' := [.int c]) (h' := h0) 1 rfl ?_
                    refine RA.if1F rfl (decide_eq_false (Int32.not_le.mpr h7)) ?_
                    refine RA.steps (i' := 30) (L' := [some (.ref 0), some (.int 0), some (.int 1), some (.int c), some (.ref 82)]) (st' := [.int (-1000000014)]) (h' := h0) 1 rfl ?_
                    exact RA.ret rfl rfl, by
                    refine ⟨Nat.le_of_ble_eq_true rfl, ⟨_, _, rfl⟩, ?_⟩
                    refine RA.steps (i' := 1) (L' := [some (.ref 110), some (.int 0), some (.int 1), some (.int c), none]) (st' := [.int 0]) (h' := h0) 1 rfl ?_
                    refine RA.call0 (h1 := h0) (r1 := some (.int 1)) rfl rfl rfl (Run.ex 4000 (Nat.le_of_ble_eq_true rfl) ⟨_, _, rfl⟩ rfl) ?_
                    refine RA.steps (i' := 7) (L' := [some (.ref 110), some (.int 0), some (.int 1), some (.int c), none]) (st' := [.long 1, .long (-1), .long 1]) (h' := h0) 5 rfl ?_
                    refine RA.call0 (h1 := h0) (r1 := some (.int 1)) rfl rfl rfl (Run.ex 4000 (Nat.le_of_ble_eq_true rfl) ⟨_, _, rfl⟩ rfl) ?_
                    refine RA.steps (i' := 13) (L' := [some (.ref 110), some (.int 0), some (.int 1), some (.int c), none]) (st' := [.int 24, .int c]) (h' := h0) 5 rfl ?_
                    refine RA.if2T rfl (decide_eq_true (Int32.not_lt.mp h6)) ?_
                    refine RA.steps (i' := 19) (L' := [some (.ref 110), some (.int 0), some (.int 1), some (.int c), none]) (st' := [.int c]) (h' := h0) 3 rfl ?_
                    refine RA.if1F rfl (decide_eq_false (Int32.not_le.mpr h7)) ?_
                    refine RA.steps (i' := 21) (L' := [some (.ref 110), some (.int 0), some (.int 1), some (.int c), none]) (st' := [.int (-1000000014)]) (h' := h0) 1 rfl ?_
                    exact RA.ret rfl rfl⟩
              · obtain ⟨f0, hf0⟩ := fill_run (E := E) (V := pV0) (d := 37) (h := (h0.set 82 (.inr (.inr (3, [.ref 83, .int 1, .int c]))))) (a := 83) rfl
                obtain ⟨hx1, hs1⟩ := sh_run (E := E) (V := pV0) (d := 39) (S := 0) (so := 1) (n := c) (w := c) (h := ((((h0.set 82 (.inr (.inr (3, [.ref 83, .int 1, .int c])))).set 83 (.inl (24, f0))).set 114 (.inl (4, va_up (va_up (va_up (va_up (va_up (fun _ => 0) 0 (-1)) 1 (-1)) 2 (-1)) 3 (-1)) 0 1))).set 115 (.inl (4, va_up (fun _ => 0) 0 c)))) rfl rfl rfl rfl rfl rfl (by decide) (by decide) (by decide)
                exact ⟨c, ((h0.set 82 (.inr (.inr (3, [.ref 83, .int 1, .int c])))).set 83 (.inl (24, f0))), _, by
                    refine ⟨Nat.le_of_ble_eq_true rfl, ⟨_, _, rfl⟩, ?_⟩
                    refine RA.steps (i' := 2) (L' := [some (.ref 0), some (.int 0), some (.int 1), some (.int c), none]) (st' := [.int 0, .ref 0]) (h' := h0) 2 rfl ?_
                    refine RA.call0 (h1 := h0) (r1 := some (.ref 82)) rfl rfl rfl (Run.ex 4000 (Nat.le_of_ble_eq_true rfl) ⟨_, _, rfl⟩ rfl) ?_
                    refine RA.steps (i' := 9) (L' := [some (.ref 0), some (.int 0), some (.int 1), some (.int c), some (.ref 82)]) (st' := [.int 1, .int (-1), .int 1]) (h' := h0) 6 rfl ?_
                    refine RA.call0 (h1 := h0) (r1 := some (.int 1)) rfl rfl rfl (Run.ex 4000 (Nat.le_of_ble_eq_true rfl) ⟨_, _, rfl⟩ rfl) ?_
                    refine RA.steps (i' := 24) (L' := [some (.ref 0), some (.int 0), some (.int 1), some (.int c), some (.ref 82)]) (st' := [.int 24, .int c]) (h' := h0) 6 rfl ?_
                    refine RA.if2T rfl (decide_eq_true (Int32.not_lt.mp h6)) ?_
                    refine RA.steps (i' := 28) (L' := [some (.ref 0), some (.int 0), some (.int 1), some (.int c), some (.ref 82)]) (st' := [.int c]) (h' := h0) 1 rfl ?_
                    refine RA.if1T rfl (decide_eq_true (Int32.not_lt.mp h7)) ?_
                    refine RA.steps (i' := 34) (L' := [some (.ref 0), some (.int 0), some (.int 1), some (.int c), some (.ref 82)]) (st' := [.int c, .int 1, .ref 82]) (h' := h0) 3 rfl ?_
                    refine RA.call0 (h1 := ((h0.set 82 (.inr (.inr (3, [.ref 83, .int 1, .int c])))).set 83 (.inl (24, f0)))) (r1 := none) rfl rfl rfl (by
                      refine ⟨Nat.le_of_ble_eq_true rfl, ⟨_, _, rfl⟩, ?_⟩
                      refine RA.steps (i' := 9) (L' := [some (.ref 82), some (.int 1), some (.int c)]) (st' := [.int 0, .ref 83]) (h' := (h0.set 82 (.inr (.inr (3, [.ref 83, .int 1, .int c]))))) 9 rfl ?_
                      refine RA.call0 rfl rfl rfl hf0 ?_
                      exact RA.ret rfl rfl) ?_
                    refine RA.steps (i' := 36) (L' := [some (.ref 0), some (.int 0), some (.int 1), some (.int c), some (.ref 82)]) (st' := [.int c]) (h' := ((h0.set 82 (.inr (.inr (3, [.ref 83, .int 1, .int c])))).set 83 (.inl (24, f0)))) 1 rfl ?_
                    exact RA.ret rfl rfl, by
                    refine ⟨Nat.le_of_ble_eq_true rfl, ⟨_, _, rfl⟩, ?_⟩
                    refine RA.steps (i' := 1) (L' := [some (.ref 110), some (.int 0), some (.int 1), some (.int c), none]) (st' := [.int 0]) (h' := ((h0.set 82 (.inr (.inr (3, [.ref 83, .int 1, .int c])))).set 83 (.inl (24, f0)))) 1 rfl ?_
                    refine RA.call0 (h1 := ((h0.set 82 (.inr (.inr (3, [.ref 83, .int 1, .int c])))).set 83 (.inl (24, f0)))) (r1 := some (.int 1)) rfl rfl rfl (Run.ex 4000 (Nat.le_of_ble_eq_true rfl) ⟨_, _, rfl⟩ rfl) ?_
                    refine RA.steps (i' := 7) (L' := [some (.ref 110), some (.int 0), some (.int 1), some (.int c), none]) (st' := [.long 1, .long (-1), .long 1]) (h' := ((h0.set 82 (.inr (.inr (3, [.ref 83, .int 1, .int c])))).set 83 (.inl (24, f0)))) 5 rfl ?_
                    refine RA.call0 (h1 := ((h0.set 82 (.inr (.inr (3, [.ref 83, .int 1, .int c])))).set 83 (.inl (24, f0)))) (r1 := some (.int 1)) rfl rfl rfl (Run.ex 4000 (Nat.le_of_ble_eq_true rfl) ⟨_, _, rfl⟩ rfl) ?_
                    refine RA.steps (i' := 13) (L' := [some (.ref 110), some (.int 0), some (.int 1), some (.int c), none]) (st' := [.int 24, .int c]) (h' := ((h0.set 82 (.inr (.inr (3, [.ref 83, .int 1, .int c])))).set 83 (.inl (24, f0)))) 5 rfl ?_
                    refine RA.if2T rfl (decide_eq_true (Int32.not_lt.mp h6)) ?_
                    refine RA.steps (i' := 19) (L' := [some (.ref 110), some (.int 0), some (.int 1), some (.int c), none]) (st' := [.int c]) (h' := ((h0.set 82 (.inr (.inr (3, [.ref 83, .int 1, .int c])))).set 83 (.inl (24, f0)))) 3 rfl ?_
                    refine RA.if1T rfl (decide_eq_true (Int32.not_lt.mp h7)) ?_
                    refine RA.steps (i' := 38) (L' := [some (.ref 110), some (.int 0), some (.int 1), some (.int c), some (.int 0)]) (st' := []) (h' := ((((h0.set 82 (.inr (.inr (3, [.ref 83, .int 1, .int c])))).set 83 (.inl (24, f0))).set 114 (.inl (4, va_up (va_up (va_up (va_up (va_up (fun _ => 0) 0 (-1)) 1 (-1)) 2 (-1)) 3 (-1)) 0 1))).set 115 (.inl (4, va_up (fun _ => 0) 0 c)))) 14 rfl ?_
                    exact hs1⟩
        · exact ⟨(-1000000001), h0, _, by
              refine ⟨Nat.le_of_ble_eq_true rfl, ⟨_, _, rfl⟩, ?_⟩
              refine RA.steps (i' := 2) (L' := [some (.ref 0), some (.int 0), some (.int b), some (.int c), none]) (st' := [.int 0, .ref 0]) (h' := h0) 2 rfl ?_
              refine RA.call0 (h1 := h0) (r1 := some (.ref 82)) rfl rfl rfl (Run.ex 4000 (Nat.le_of_ble_eq_true rfl) ⟨_, _, rfl⟩ rfl) ?_
              refine RA.steps (i' := 9) (L' := [some (.ref 0), some (.int 0), some (.int b), some (.int c), some (.ref 82)]) (st' := [.int 1, .int (-1), .int b]) (h' := h0) 6 rfl ?_
              refine RA.call0 rfl rfl rfl (within_f (v := b) (lo := (-1)) (hi := 1) h3) ?_
              refine RA.steps (i' := 12) (L' := [some (.ref 0), some (.int 0), some (.int b), some (.int c), some (.ref 82)]) (st' := [.int (-1000000001)]) (h' := h0) 2 rfl ?_
              exact RA.ret rfl rfl, by
              refine ⟨Nat.le_of_ble_eq_true rfl, ⟨_, _, rfl⟩, ?_⟩
              refine RA.steps (i' := 1) (L' := [some (.ref 110), some (.int 0), some (.int b), some (.int c), none]) (st' := [.int 0]) (h' := h0) 1 rfl ?_
              refine RA.call0 (h1 := h0) (r1 := some (.int 1)) rfl rfl rfl (Run.ex 4000 (Nat.le_of_ble_eq_true rfl) ⟨_, _, rfl⟩ rfl) ?_
              refine RA.steps (i' := 7) (L' := [some (.ref 110), some (.int 0), some (.int b), some (.int c), none]) (st' := [.long 1, .long (-1), .long (b : Int32).toInt64]) (h' := h0) 5 rfl ?_
              refine RA.call0 rfl rfl rfl (isIn_f (v := b) (lo := (-1)) (hi := 1) h3) ?_
              refine RA.steps (i' := 15) (L' := [some (.ref 110), some (.int 0), some (.int b), some (.int c), none]) (st' := [.int (-1000000001)]) (h' := h0) 2 rfl ?_
              exact RA.ret rfl rfl⟩
      · by_cases h8 : (-1) ≤ b ∧ b ≤ 1
        · rcases cases_m1_1 h8 with rfl | rfl | rfl
          · obtain ⟨f0, hf0⟩ := fill_run (E := E) (V := pV0) (d := 37) (h := h0) (a := 85) rfl
            obtain ⟨hx1, hs1⟩ := sh_run (E := E) (V := pV0) (d := 39) (S := 1) (so := (-1)) (n := c) (w := 0) (h := (((h0.set 85 (.inl (24, f0))).set 114 (.inl (4, va_up (va_up (va_up (va_up (va_up (fun _ => 0) 0 (-1)) 1 (-1)) 2 (-1)) 3 (-1)) 1 (-1)))).set 115 (.inl (4, va_up (fun _ => 0) 1 0)))) rfl rfl rfl rfl rfl rfl (by decide) (by decide) (by decide)
            exact ⟨0, (h0.set 85 (.inl (24, f0))), _, by
                refine ⟨Nat.le_of_ble_eq_true rfl, ⟨_, _, rfl⟩, ?_⟩
                refine RA.steps (i' := 2) (L' := [some (.ref 0), some (.int 1), some (.int (-1)), some (.int c), none]) (st' := [.int 1, .ref 0]) (h' := h0) 2 rfl ?_
                refine RA.call0 (h1 := h0) (r1 := some (.ref 84)) rfl rfl rfl (Run.ex 4000 (Nat.le_of_ble_eq_true rfl) ⟨_, _, rfl⟩ rfl) ?_
                refine RA.steps (i' := 9) (L' := [some (.ref 0), some (.int 1), some (.int (-1)), some (.int c), some (.ref 84)]) (st' := [.int 1, .int (-1), .int (-1)]) (h' := h0) 6 rfl ?_
                refine RA.call0 (h1 := h0) (r1 := some (.int 1)) rfl rfl rfl (Run.ex 4000 (Nat.le_of_ble_eq_true rfl) ⟨_, _, rfl⟩ rfl) ?_
                refine RA.steps (i' := 19) (L' := [some (.ref 0), some (.int 1), some (.int (-1)), some (.int c), some (.ref 84)]) (st' := [.int 0, .int (-1), .ref 84]) (h' := h0) 7 rfl ?_
                refine RA.call0 (h1 := (h0.set 85 (.inl (24, f0)))) (r1 := none) rfl rfl rfl (by
                  refine ⟨Nat.le_of_ble_eq_true rfl, ⟨_, _, rfl⟩, ?_⟩
                  refine RA.steps (i' := 9) (L' := [some (.ref 84), some (.int (-1)), some (.int 0)]) (st' := [.int 0, .ref 85]) (h' := h0) 9 rfl ?_
                  refine RA.call0 rfl rfl rfl hf0 ?_
                  exact RA.ret rfl rfl) ?_
                refine RA.steps (i' := 21) (L' := [some (.ref 0), some (.int 1), some (.int (-1)), some (.int c), some (.ref 84)]) (st' := [.int 0]) (h' := (h0.set 85 (.inl (24, f0)))) 1 rfl ?_
                exact RA.ret rfl rfl, by
                refine ⟨Nat.le_of_ble_eq_true rfl, ⟨_, _, rfl⟩, ?_⟩
                refine RA.steps (i' := 1) (L' := [some (.ref 110), some (.int 1), some (.int (-1)), some (.int c), none]) (st' := [.int 1]) (h' := (h0.set 85 (.inl (24, f0)))) 1 rfl ?_
                refine RA.call0 (h1 := (h0.set 85 (.inl (24, f0)))) (r1 := some (.int 1)) rfl rfl rfl (Run.ex 4000 (Nat.le_of_ble_eq_true rfl) ⟨_, _, rfl⟩ rfl) ?_
                refine RA.steps (i' := 7) (L' := [some (.ref 110), some (.int 1), some (.int (-1)), some (.int c), none]) (st' := [.long 1, .long (-1), .long (-1)]) (h' := (h0.set 85 (.inl (24, f0)))) 5 rfl ?_
                refine RA.call0 (h1 := (h0.set 85 (.inl (24, f0)))) (r1 := some (.int 1)) rfl rfl rfl (Run.ex 4000 (Nat.le_of_ble_eq_true rfl) ⟨_, _, rfl⟩ rfl) ?_
                refine RA.steps (i' := 38) (L' := [some (.ref 110), some (.int 1), some (.int (-1)), some (.int c), some (.int 0)]) (st' := []) (h' := (((h0.set 85 (.inl (24, f0))).set 114 (.inl (4, va_up (va_up (va_up (va_up (va_up (fun _ => 0) 0 (-1)) 1 (-1)) 2 (-1)) 3 (-1)) 1 (-1)))).set 115 (.inl (4, va_up (fun _ => 0) 1 0)))) 20 rfl ?_
                exact hs1⟩
          · by_cases h9 : 24 < c
            · exact ⟨(-1000000001), h0, _, by
                  refine ⟨Nat.le_of_ble_eq_true rfl, ⟨_, _, rfl⟩, ?_⟩
                  refine RA.steps (i' := 2) (L' := [some (.ref 0), some (.int 1), some (.int 0), some (.int c), none]) (st' := [.int 1, .ref 0]) (h' := h0) 2 rfl ?_
                  refine RA.call0 (h1 := h0) (r1 := some (.ref 84)) rfl rfl rfl (Run.ex 4000 (Nat.le_of_ble_eq_true rfl) ⟨_, _, rfl⟩ rfl) ?_
                  refine RA.steps (i' := 9) (L' := [some (.ref 0), some (.int 1), some (.int 0), some (.int c), some (.ref 84)]) (st' := [.int 1, .int (-1), .int 0]) (h' := h0) 6 rfl ?_
                  refine RA.call0 (h1 := h0) (r1 := some (.int 1)) rfl rfl rfl (Run.ex 4000 (Nat.le_of_ble_eq_true rfl) ⟨_, _, rfl⟩ rfl) ?_
                  refine RA.steps (i' := 24) (L' := [some (.ref 0), some (.int 1), some (.int 0), some (.int c), some (.ref 84)]) (st' := [.int 24, .int c]) (h' := h0) 6 rfl ?_
                  refine RA.if2F rfl (decide_eq_false (Int32.not_le.mpr h9)) ?_
                  refine RA.steps (i' := 26) (L' := [some (.ref 0), some (.int 1), some (.int 0), some (.int c), some (.ref 84)]) (st' := [.int (-1000000001)]) (h' := h0) 1 rfl ?_
                  exact RA.ret rfl rfl, by
                  refine ⟨Nat.le_of_ble_eq_true rfl, ⟨_, _, rfl⟩, ?_⟩
                  refine RA.steps (i' := 1) (L' := [some (.ref 110), some (.int 1), some (.int 0), some (.int c), none]) (st' := [.int 1]) (h' := h0) 1 rfl ?_
                  refine RA.call0 (h1 := h0) (r1 := some (.int 1)) rfl rfl rfl (Run.ex 4000 (Nat.le_of_ble_eq_true rfl) ⟨_, _, rfl⟩ rfl) ?_
                  refine RA.steps (i' := 7) (L' := [some (.ref 110), some (.int 1), some (.int 0), some (.int c), none]) (st' := [.long 1, .long (-1), .long 0]) (h' := h0) 5 rfl ?_
                  refine RA.call0 (h1 := h0) (r1 := some (.int 1)) rfl rfl rfl (Run.ex 4000 (Nat.le_of_ble_eq_true rfl) ⟨_, _, rfl⟩ rfl) ?_
                  refine RA.steps (i' := 13) (L' := [some (.ref 110), some (.int 1), some (.int 0), some (.int c), none]) (st' := [.int 24, .int c]) (h' := h0) 5 rfl ?_
                  refine RA.if2F rfl (decide_eq_false (Int32.not_le.mpr h9)) ?_
                  refine RA.steps (i' := 15) (L' := [some (.ref 110), some (.int 1), some (.int 0), some (.int c), none]) (st' := [.int (-1000000001)]) (h' := h0) 1 rfl ?_
                  exact RA.ret rfl rfl⟩
            · by_cases h10 : c < 0
              · exact ⟨(-1000000014), h0, _, by
                    refine ⟨Nat.le_of_ble_eq_true rfl, ⟨_, _, rfl⟩, ?_⟩
                    refine RA.steps (i' := 2) (L' := [some (.ref 0), some (.int 1), some (.int 0), some (.int c), none]) (st' := [.int 1, .ref 0]) (h' := h0) 2 rfl ?_
                    refine RA.call0 (h1 := h0) (r1 := some (.ref 84)) rfl rfl rfl (Run.ex 4000 (Nat.le_of_ble_eq_true rfl) ⟨_, _, rfl⟩ rfl) ?_
                    refine RA.steps (i' := 9) (L' := [some (.ref 0), some (.int 1), some (.int 0), some (.int c), some (.ref 84)]) (st' := [.int 1, .int (-1), .int 0]) (h' := h0) 6 rfl ?_
                    refine RA.call0 (h1 := h0) (r1 := some (.int 1)) rfl rfl rfl (Run.ex 4000 (Nat.le_of_ble_eq_true rfl) ⟨_, _, rfl⟩ rfl) ?_
                    refine RA.steps (i' := 24) (L' := [some (.ref 0), some (.int 1), some (.int 0), some (.int c), some (.ref 84)]) (st' := [.int 24, .int c]) (h' := h0) 6 rfl ?_
                    refine RA.if2T rfl (decide_eq_true (Int32.not_lt.mp h9)) ?_
                    refine RA.steps (i' := 28) (L' := [some (.ref 0), some (.int 1), some (.int 0), some (.int c), some (.ref 84)]) (st' := [.int c]) (h' := h0) 1 rfl ?_
                    refine RA.if1F rfl (decide_eq_false (Int32.not_le.mpr h10)) ?_
                    refine RA.steps (i' := 30) (L' := [some (.ref 0), some (.int 1), some (.int 0), some (.int c), some (.ref 84)]) (st' := [.int (-1000000014)]) (h' := h0) 1 rfl ?_
                    exact RA.ret rfl rfl, by
                    refine ⟨Nat.le_of_ble_eq_true rfl, ⟨_, _, rfl⟩, ?_⟩
                    refine RA.steps (i' := 1) (L' := [some (.ref 110), some (.int 1), some (.int 0), some (.int c), none]) (st' := [.int 1]) (h' := h0) 1 rfl ?_
                    refine RA.call0 (h1 := h0) (r1 := some (.int 1)) rfl rfl rfl (Run.ex 4000 (Nat.le_of_ble_eq_true rfl) ⟨_, _, rfl⟩ rfl) ?_
                    refine RA.steps (i' := 7) (L' := [some (.ref 110), some (.int 1), some (.int 0), some (.int c), none]) (st' := [.long 1, .long (-1), .long 0]) (h' := h0) 5 rfl ?_
                    refine RA.call0 (h1 := h0) (r1 := some (.int 1)) rfl rfl rfl (Run.ex 4000 (Nat.le_of_ble_eq_true rfl) ⟨_, _, rfl⟩ rfl) ?_
                    refine RA.steps (i' := 13) (L' := [some (.ref 110), some (.int 1), some (.int 0), some (.int c), none]) (st' := [.int 24, .int c]) (h' := h0) 5 rfl ?_
                    refine RA.if2T rfl (decide_eq_true (Int32.not_lt.mp h9)) ?_
                    refine RA.steps (i' := 19) (L' := [some (.ref 110), some (.int 1), some (.int 0), some (.int c), none]) (st' := [.int c]) (h' := h0) 3 rfl ?_
                    refine RA.if1F rfl (decide_eq_false (Int32.not_le.mpr h10)) ?_
                    refine RA.steps (i' := 21) (L' := [some (.ref 110), some (.int 1), some (.int 0), some (.int c), none]) (st' := [.int (-1000000014)]) (h' := h0) 1 rfl ?_
                    exact RA.ret rfl rfl⟩
              · obtain ⟨f0, hf0⟩ := fill_run (E := E) (V := pV0) (d := 37) (h := (h0.set 84 (.inr (.inr (3, [.ref 85, .int 0, .int c]))))) (a := 85) rfl
                obtain ⟨hx1, hs1⟩ := sh_run (E := E) (V := pV0) (d := 39) (S := 1) (so := 0) (n := c) (w := c) (h := ((((h0.set 84 (.inr (.inr (3, [.ref 85, .int 0, .int c])))).set 85 (.inl (24, f0))).set 114 (.inl (4, va_up (va_up (va_up (va_up (va_up (fun _ => 0) 0 (-1)) 1 (-1)) 2 (-1)) 3 (-1)) 1 0))).set 115 (.inl (4, va_up (fun _ => 0) 1 c)))) rfl rfl rfl rfl rfl rfl (by decide) (by decide) (by decide)
                exact ⟨c, ((h0.set 84 (.inr (.inr (3, [.ref 85, .int 0, .int c])))).set 85 (.inl (24, f0))), _, by
                    refine ⟨Nat.le_of_ble_eq_true rfl, ⟨_, _, rfl⟩, ?_⟩
                    refine RA.steps (i' := 2) (L' := [some (.ref 0), some (.int 1), some (.int 0), some (.int c), none]) (st' := [.int 1, .ref 0]) (h' := h0) 2 rfl ?_
                    refine RA.call0 (h1 := h0) (r1 := some (.ref 84)) rfl rfl rfl (Run.ex 4000 (Nat.le_of_ble_eq_true rfl) ⟨_, _, rfl⟩ rfl) ?_
                    refine RA.steps (i' := 9) (L' := [some (.ref 0), some (.int 1), some (.int 0), some (.int c), some (.ref 84)]) (st' := [.int 1, .int (-1), .int 0]) (h' := h0) 6 rfl ?_
                    refine RA.call0 (h1 := h0) (r1 := some (.int 1)) rfl rfl rfl (Run.ex 4000 (Nat.le_of_ble_eq_true rfl) ⟨_, _, rfl⟩ rfl) ?_
                    refine RA.steps (i' := 24) (L' := [some (.ref 0), some (.int 1), some (.int 0), some (.int c), some (.ref 84)]) (st' := [.int 24, .int c]) (h' := h0) 6 rfl ?_
                    refine RA.if2T rfl (decide_eq_true (Int32.not_lt.mp h9)) ?_
                    refine RA.steps (i' := 28) (L' := [some (.ref 0), some (.int 1), some (.int 0), some (.int c), some (.ref 84)]) (st' := [.int c]) (h' := h0) 1 rfl ?_
                    refine RA.if1T rfl (decide_eq_true (Int32.not_lt.mp h10)) ?_
                    refine RA.steps (i' := 34) (L' := [some (.ref 0), some (.int 1), some (.int 0), some (.int c), some (.ref 84)]) (st' := [.int c, .int 0, .ref 84]) (h' := h0) 3 rfl ?_
                    refine RA.call0 (h1 := ((h0.set 84 (.inr (.inr (3, [.ref 85, .int 0, .int c])))).set 85 (.inl (24, f0)))) (r1 := none) rfl rfl rfl (by
                      refine ⟨Nat.le_of_ble_eq_true rfl, ⟨_, _, rfl⟩, ?_⟩
                      refine RA.steps (i' := 9) (L' := [some (.ref 84), some (.int 0), some (.int c)]) (st' := [.int 0, .ref 85]) (h' := (h0.set 84 (.inr (.inr (3, [.ref 85, .int 0, .int c]))))) 9 rfl ?_
                      refine RA.call0 rfl rfl rfl hf0 ?_
                      exact RA.ret rfl rfl) ?_
                    refine RA.steps (i' := 36) (L' := [some (.ref 0), some (.int 1), some (.int 0), some (.int c), some (.ref 84)]) (st' := [.int c]) (h' := ((h0.set 84 (.inr (.inr (3, [.ref 85, .int 0, .int c])))).set 85 (.inl (24, f0)))) 1 rfl ?_
                    exact RA.ret rfl rfl, by
                    refine ⟨Nat.le_of_ble_eq_true rfl, ⟨_, _, rfl⟩, ?_⟩
                    refine RA.steps (i' := 1) (L' := [some (.ref 110), some (.int 1), some (.int 0), some (.int c), none]) (st' := [.int 1]) (h' := ((h0.set 84 (.inr (.inr (3, [.ref 85, .int 0, .int c])))).set 85 (.inl (24, f0)))) 1 rfl ?_
                    refine RA.call0 (h1 := ((h0.set 84 (.inr (.inr (3, [.ref 85, .int 0, .int c])))).set 85 (.inl (24, f0)))) (r1 := some (.int 1)) rfl rfl rfl (Run.ex 4000 (Nat.le_of_ble_eq_true rfl) ⟨_, _, rfl⟩ rfl) ?_
                    refine RA.steps (i' := 7) (L' := [some (.ref 110), some (.int 1), some (.int 0), some (.int c), none]) (st' := [.long 1, .long (-1), .long 0]) (h' := ((h0.set 84 (.inr (.inr (3, [.ref 85, .int 0, .int c])))).set 85 (.inl (24, f0)))) 5 rfl ?_
                    refine RA.call0 (h1 := ((h0.set 84 (.inr (.inr (3, [.ref 85, .int 0, .int c])))).set 85 (.inl (24, f0)))) (r1 := some (.int 1)) rfl rfl rfl (Run.ex 4000 (Nat.le_of_ble_eq_true rfl) ⟨_, _, rfl⟩ rfl) ?_
                    refine RA.steps (i' := 13) (L' := [some (.ref 110), some (.int 1), some (.int 0), some (.int c), none]) (st' := [.int 24, .int c]) (h' := ((h0.set 84 (.inr (.inr (3, [.ref 85, .int 0, .int c])))).set 85 (.inl (24, f0)))) 5 rfl ?_
                    refine RA.if2T rfl (decide_eq_true (Int32.not_lt.mp h9)) ?_
                    refine RA.steps (i' := 19) (L' := [some (.ref 110), some (.int 1), some (.int 0), some (.int c), none]) (st' := [.int c]) (h' := ((h0.set 84 (.inr (.inr (3, [.ref 85, .int 0, .int c])))).set 85 (.inl (24, f0)))) 3 rfl ?_
                    refine RA.if1T rfl (decide_eq_true (Int32.not_lt.mp h10)) ?_
                    refine RA.steps (i' := 38) (L' := [some (.ref 110), some (.int 1), some (.int 0), some (.int c), some (.int 0)]) (st' := []) (h' := ((((h0.set 84 (.inr (.inr (3, [.ref 85, .int 0, .int c])))).set 85 (.inl (24, f0))).set 114 (.inl (4, va_up (va_up (va_up (va_up (va_up (fun _ => 0) 0 (-1)) 1 (-1)) 2 (-1)) 3 (-1)) 1 0))).set 115 (.inl (4, va_up (fun _ => 0) 1 c)))) 14 rfl ?_
                    exact hs1⟩
          · by_cases h11 : 24 < c
            · exact ⟨(-1000000001), h0, _, by
                  refine ⟨Nat.le_of_ble_eq_true rfl, ⟨_, _, rfl⟩, ?_⟩
                  refine RA.steps (i' := 2) (L' := [some (.ref 0), some (.int 1), some (.int 1), some (.int c), none]) (st' := [.int 1, .ref 0]) (h' := h0) 2 rfl ?_
                  refine RA.call0 (h1 := h0) (r1 := some (.ref 84)) rfl rfl rfl (Run.ex 4000 (Nat.le_of_ble_eq_true rfl) ⟨_, _, rfl⟩ rfl) ?_
                  refine RA.steps (i' := 9) (L' := [some (.ref 0), some (.int 1), some (.int 1), some (.int c), some (.ref 84)]) (st' := [.int 1, .int (-1), .int 1]) (h' := h0) 6 rfl ?_
                  refine RA.call0 (h1 := h0) (r1 := some (.int 1)) rfl rfl rfl (Run.ex 4000 (Nat.le_of_ble_eq_true rfl) ⟨_, _, rfl⟩ rfl) ?_
                  refine RA.steps (i' := 24) (L' := [some (.ref 0), some (.int 1), some (.int 1), some (.int c), some (.ref 84)]) (st' := [.int 24, .int c]) (h' := h0) 6 rfl ?_
                  refine RA.if2F rfl (decide_eq_false (Int32.not_le.mpr h11)) ?_
                  refine RA.steps (i' := 26) (L' := [some (.ref 0), some (.int 1), some (.int 1), some (.int c), some (.ref 84)]) (st' := [.int (-1000000001)]) (h' := h0) 1 rfl ?_
                  exact RA.ret rfl rfl, by
                  refine ⟨Nat.le_of_ble_eq_true rfl, ⟨_, _, rfl⟩, ?_⟩
                  refine RA.steps (i' := 1) (L' := [some (.ref 110), some (.int 1), some (.int 1), some (.int c), none]) (st' := [.int 1]) (h' := h0) 1 rfl ?_
                  refine RA.call0 (h1 := h0) (r1 := some (.int 1)) rfl rfl rfl (Run.ex 4000 (Nat.le_of_ble_eq_true rfl) ⟨_, _, rfl⟩ rfl) ?_
                  refine RA.steps (i' := 7) (L' := [some (.ref 110), some (.int 1), some (.int 1), some (.int c), none]) (st' := [.long 1, .long (-1), .long 1]) (h' := h0) 5 rfl ?_
                  refine RA.call0 (h1 := h0) (r1 := some (.int 1)) rfl rfl rfl (Run.ex 4000 (Nat.le_of_ble_eq_true rfl) ⟨_, _, rfl⟩ rfl) ?_
                  refine RA.steps (i' := 13) (L' := [some (.ref 110), some (.int 1), some (.int 1), some (.int c), none]) (st' := [.int 24, .int c]) (h' := h0) 5 rfl ?_
                  refine RA.if2F rfl (decide_eq_false (Int32.not_le.mpr h11)) ?_
                  refine RA.steps (i' := 15) (L' := [some (.ref 110), some (.int 1), some (.int 1), some (.int c), none]) (st' := [.int (-1000000001)]) (h' := h0) 1 rfl ?_
                  exact RA.ret rfl rfl⟩
            · by_cases h12 : c < 0
              · exact ⟨(-1000000014), h0, _, by
                    refine ⟨Nat.le_of_ble_eq_true rfl, ⟨_, _, rfl⟩, ?_⟩
                    refine RA.steps (i' := 2) (L' := [some (.ref 0), some (.int 1), some (.int 1), some (.int c), none]) (st' := [.int 1, .ref 0]) (h' := h0) 2 rfl ?_
                    refine RA.call0 (h1 := h0) (r1 := some (.ref 84)) rfl rfl rfl (Run.ex 4000 (Nat.le_of_ble_eq_true rfl) ⟨_, _, rfl⟩ rfl) ?_
                    refine RA.steps (i' := 9) (L' := [some (.ref 0), some (.int 1), some (.int 1), some (.int c), some (.ref 84)]) (st' := [.int 1, .int (-1), .int 1]) (h' := h0) 6 rfl ?_
                    refine RA.call0 (h1 := h0) (r1 := some (.int 1)) rfl rfl rfl (Run.ex 4000 (Nat.le_of_ble_eq_true rfl) ⟨_, _, rfl⟩ rfl) ?_
                    refine RA.steps (i' := 24) (L' := [some (.ref 0), some (.int 1), some (.int 1), some (.int c), some (.ref 84)]) (st' := [.int 24, .int c]) (h' := h0) 6 rfl ?_
                    refine RA.if2T rfl (decide_eq_true (Int32.not_lt.mp h11)) ?_
                    refine RA.steps (i' := 28) (L' := [some (.ref 0), some (.int 1), some (.int 1), some (.int c), some (.ref 84)]) (st' := [.int c]) (h' := h0) 1 rfl ?_
                    refine RA.if1F rfl (decide_eq_false (Int32.not_le.mpr h12)) ?_
                    refine RA.steps (i' := 30) (L' := [some (.ref 0), some (.int 1), some (.int 1), some (.int c), some (.ref 84)]) (st' := [.int (-1000000014)]) (h' := h0) 1 rfl ?_
                    exact RA.ret rfl rfl, by
                    refine ⟨Nat.le_of_ble_eq_true rfl, ⟨_, _, rfl⟩, ?_⟩
                    refine RA.steps (i' := 1) (L' := [some (.ref 110), some (.int 1), some (.int 1), some (.int c), none]) (st' := [.int 1]) (h' := h0) 1 rfl ?_
                    refine RA.call0 (h1 := h0) (r1 := some (.int 1)) rfl rfl rfl (Run.ex 4000 (Nat.le_of_ble_eq_true rfl) ⟨_, _, rfl⟩ rfl) ?_
                    refine RA.steps (i' := 7) (L' := [some (.ref 110), some (.int 1), some (.int 1), some (.int c), none]) (st' := [.long 1, .long (-1), .long 1]) (h' := h0) 5 rfl ?_
                    refine RA.call0 (h1 := h0) (r1 := some (.int 1)) rfl rfl rfl (Run.ex 4000 (Nat.le_of_ble_eq_true rfl) ⟨_, _, rfl⟩ rfl) ?_
                    refine RA.steps (i' := 13) (L' := [some (.ref 110), some (.int 1), some (.int 1), some (.int c), none]) (st' := [.int 24, .int c]) (h' := h0) 5 rfl ?_
                    refine RA.if2T rfl (decide_eq_true (Int32.not_lt.mp h11)) ?_
                    refine RA.steps (i' := 19) (L' := [some (.ref 110), some (.int 1), some (.int 1), some (.int c), none]) (st' := [.int c]) (h' := h0) 3 rfl ?_
                    refine RA.if1F rfl (decide_eq_false (Int32.not_le.mpr h12)) ?_
                    refine RA.steps (i' := 21) (L' := [some (.ref 110), some (.int 1), some (.int 1), some (.int c), none]) (st' := [.int (-1000000014)]) (h' := h0) 1 rfl ?_
                    exact RA.ret rfl rfl⟩
              · obtain ⟨f0, hf0⟩ := fill_run (E := E) (V := pV0) (d := 37) (h := (h0.set 84 (.inr (.inr (3, [.ref 85, .int 1, .int c]))))) (a := 85) rfl
                obtain ⟨hx1, hs1⟩ := sh_run (E := E) (V := pV0) (d := 39) (S := 1) (so := 1) (n := c) (w := c) (h := ((((h0.set 84 (.inr (.inr (3, [.ref 85, .int 1, .int c])))).set 85 (.inl (24, f0))).set 114 (.inl (4, va_up (va_up (va_up (va_up (va_up (fun _ => 0) 0 (-1)) 1 (-1)) 2 (-1)) 3 (-1)) 1 1))).set 115 (.inl (4, va_up (fun _ => 0) 1 c)))) rfl rfl rfl rfl rfl rfl (by decide) (by decide) (by decide)
                exact ⟨c, ((h0.set 84 (.inr (.inr (3, [.ref 85, .int 1, .int c])))).set 85 (.inl (24, f0))), _, by
                    refine ⟨Nat.le_of_ble_eq_true rfl, ⟨_, _, rfl⟩, ?_⟩
                    refine RA.steps (i' := 2) (L' := [some (.ref 0), some (.int 1), some (.int 1), some (.int c), none]) (st' := [.int 1, .ref 0]) (h' := h0) 2 rfl ?_
                    refine RA.call0 (h1 := h0) (r1 := some (.ref 84)) rfl rfl rfl (Run.ex 4000 (Nat.le_of_ble_eq_true rfl) ⟨_, _, rfl⟩ rfl) ?_
                    refine RA.steps (i' := 9) (L' := [some (.ref 0), some (.int 1), some (.int 1), some (.int c), some (.ref 84)]) (st' := [.int 1, .int (-1), .int 1]) (h' := h0) 6 rfl ?_
                    refine RA.call0 (h1 := h0) (r1 := some (.int 1)) rfl rfl rfl (Run.ex 4000 (Nat.le_of_ble_eq_true rfl) ⟨_, _, rfl⟩ rfl) ?_
                    refine RA.steps (i' := 24) (L' := [some (.ref 0), some (.int 1), some (.int 1), some (.int c), some (.ref 84)]) (st' := [.int 24, .int c]) (h' := h0) 6 rfl ?_
                    refine RA.if2T rfl (decide_eq_true (Int32.not_lt.mp h11)) ?_
                    refine RA.steps (i' := 28) (L' := [some (.ref 0), some (.int 1), some (.int 1), some (.int c), some (.ref 84)]) (st' := [.int c]) (h' := h0) 1 rfl ?_
                    refine RA.if1T rfl (decide_eq_true (Int32.not_lt.mp h12)) ?_
                    refine RA.steps (i' := 34) (L' := [some (.ref 0), some (.int 1), some (.int 1), some (.int c), some (.ref 84)]) (st' := [.int c, .int 1, .ref 84]) (h' := h0) 3 rfl ?_
                    refine RA.call0 (h1 := ((h0.set 84 (.inr (.inr (3, [.ref 85, .int 1, .int c])))).set 85 (.inl (24, f0)))) (r1 := none) rfl rfl rfl (by
                      refine ⟨Nat.le_of_ble_eq_true rfl, ⟨_, _, rfl⟩, ?_⟩
                      refine RA.steps (i' := 9) (L' := [some (.ref 84), some (.int 1), some (.int c)]) (st' := [.int 0, .ref 85]) (h' := (h0.set 84 (.inr (.inr (3, [.ref 85, .int 1, .int c]))))) 9 rfl ?_
                      refine RA.call0 rfl rfl rfl hf0 ?_
                      exact RA.ret rfl rfl) ?_
                    refine RA.steps (i' := 36) (L' := [some (.ref 0), some (.int 1), some (.int 1), some (.int c), some (.ref 84)]) (st' := [.int c]) (h' := ((h0.set 84 (.inr (.inr (3, [.ref 85, .int 1, .int c])))).set 85 (.inl (24, f0)))) 1 rfl ?_
                    exact RA.ret rfl rfl, by
                    refine ⟨Nat.le_of_ble_eq_true rfl, ⟨_, _, rfl⟩, ?_⟩
                    refine RA.steps (i' := 1) (L' := [some (.ref 110), some (.int 1), some (.int 1), some (.int c), none]) (st' := [.int 1]) (h' := ((h0.set 84 (.inr (.inr (3, [.ref 85, .int 1, .int c])))).set 85 (.inl (24, f0)))) 1 rfl ?_
                    refine RA.call0 (h1 := ((h0.set 84 (.inr (.inr (3, [.ref 85, .int 1, .int c])))).set 85 (.inl (24, f0)))) (r1 := some (.int 1)) rfl rfl rfl (Run.ex 4000 (Nat.le_of_ble_eq_true rfl) ⟨_, _, rfl⟩ rfl) ?_
                    refine RA.steps (i' := 7) (L' := [some (.ref 110), some (.int 1), some (.int 1), some (.int c), none]) (st' := [.long 1, .long (-1), .long 1]) (h' := ((h0.set 84 (.inr (.inr (3, [.ref 85, .int 1, .int c])))).set 85 (.inl (24, f0)))) 5 rfl ?_
                    refine RA.call0 (h1 := ((h0.set 84 (.inr (.inr (3, [.ref 85, .int 1, .int c])))).set 85 (.inl (24, f0)))) (r1 := some (.int 1)) rfl rfl rfl (Run.ex 4000 (Nat.le_of_ble_eq_true rfl) ⟨_, _, rfl⟩ rfl) ?_
                    refine RA.steps (i' := 13) (L' := [some (.ref 110), some (.int 1), some (.int 1), some (.int c), none]) (st' := [.int 24, .int c]) (h' := ((h0.set 84 (.inr (.inr (3, [.ref 85, .int 1, .int c])))).set 85 (.inl (24, f0)))) 5 rfl ?_
                    refine RA.if2T rfl (decide_eq_true (Int32.not_lt.mp h11)) ?_
                    refine RA.steps (i' := 19) (L' := [some (.ref 110), some (.int 1), some (.int 1), some (.int c), none]) (st' := [.int c]) (h' := ((h0.set 84 (.inr (.inr (3, [.ref 85, .int 1, .int c])))).set 85 (.inl (24, f0)))) 3 rfl ?_
                    refine RA.if1T rfl (decide_eq_true (Int32.not_lt.mp h12)) ?_
                    refine RA.steps (i' := 38) (L' := [some (.ref 110), some (.int 1), some (.int 1), some (.int c), some (.int 0)]) (st' := []) (h' := ((((h0.set 84 (.inr (.inr (3, [.ref 85, .int 1, .int c])))).set 85 (.inl (24, f0))).set 114 (.inl (4, va_up (va_up (va_up (va_up (va_up (fun _ => 0) 0 (-1)) 1 (-1)) 2 (-1)) 3 (-1)) 1 1))).set 115 (.inl (4, va_up (fun _ => 0) 1 c)))) 14 rfl ?_
                    exact hs1⟩
        · exact ⟨(-1000000001), h0, _, by
              refine ⟨Nat.le_of_ble_eq_true rfl, ⟨_, _, rfl⟩, ?_⟩
              refine RA.steps (i' := 2) (L' := [some (.ref 0), some (.int 1), some (.int b), some (.int c), none]) (st' := [.int 1, .ref 0]) (h' := h0) 2 rfl ?_
              refine RA.call0 (h1 := h0) (r1 := some (.ref 84)) rfl rfl rfl (Run.ex 4000 (Nat.le_of_ble_eq_true rfl) ⟨_, _, rfl⟩ rfl) ?_
              refine RA.steps (i' := 9) (L' := [some (.ref 0), some (.int 1), some (.int b), some (.int c), some (.ref 84)]) (st' := [.int 1, .int (-1), .int b]) (h' := h0) 6 rfl ?_
              refine RA.call0 rfl rfl rfl (within_f (v := b) (lo := (-1)) (hi := 1) h8) ?_
              refine RA.steps (i' := 12) (L' := [some (.ref 0), some (.int 1), some (.int b), some (.int c), some (.ref 84)]) (st' := [.int (-1000000001)]) (h' := h0) 2 rfl ?_
              exact RA.ret rfl rfl, by
              refine ⟨Nat.le_of_ble_eq_true rfl, ⟨_, _, rfl⟩, ?_⟩
              refine RA.steps (i' := 1) (L' := [some (.ref 110), some (.int 1), some (.int b), some (.int c), none]) (st' := [.int 1]) (h' := h0) 1 rfl ?_
              refine RA.call0 (h1 := h0) (r1 := some (.int 1)) rfl rfl rfl (Run.ex 4000 (Nat.le_of_ble_eq_true rfl) ⟨_, _, rfl⟩ rfl) ?_
              refine RA.steps (i' := 7) (L' := [some (.ref 110), some (.int 1), some (.int b), some (.int c), none]) (st' := [.long 1, .long (-1), .long (b : Int32).toInt64]) (h' := h0) 5 rfl ?_
              refine RA.call0 rfl rfl rfl (isIn_f (v := b) (lo := (-1)) (hi := 1) h8) ?_
              refine RA.steps (i' := 15) (L' := [some (.ref 110), some (.int 1), some (.int b), some (.int c), none]) (st' := [.int (-1000000001)]) (h' := h0) 2 rfl ?_
              exact RA.ret rfl rfl⟩
      · by_cases h13 : (-1) ≤ b ∧ b ≤ 1
        · rcases cases_m1_1 h13 with rfl | rfl | rfl
          · obtain ⟨f0, hf0⟩ := fill_run (E := E) (V := pV0) (d := 37) (h := h0) (a := 87) rfl
            obtain ⟨hx1, hs1⟩ := sh_run (E := E) (V := pV0) (d := 39) (S := 2) (so := (-1)) (n := c) (w := 0) (h := (((h0.set 87 (.inl (24, f0))).set 114 (.inl (4, va_up (va_up (va_up (va_up (va_up (fun _ => 0) 0 (-1)) 1 (-1)) 2 (-1)) 3 (-1)) 2 (-1)))).set 115 (.inl (4, va_up (fun _ => 0) 2 0)))) rfl rfl rfl rfl rfl rfl (by decide) (by decide) (by decide)
            exact ⟨0, (h0.set 87 (.inl (24, f0))), _, by
                refine ⟨Nat.le_of_ble_eq_true rfl, ⟨_, _, rfl⟩, ?_⟩
                refine RA.steps (i' := 2) (L' := [some (.ref 0), some (.int 2), some (.int (-1)), some (.int c), none]) (st' := [.int 2, .ref 0]) (h' := h0) 2 rfl ?_
                refine RA.call0 (h1 := h0) (r1 := some (.ref 86)) rfl rfl rfl (Run.ex 4000 (Nat.le_of_ble_eq_true rfl) ⟨_, _, rfl⟩ rfl) ?_
                refine RA.steps (i' := 9) (L' := [some (.ref 0), some (.int 2), some (.int (-1)), some (.int c), some (.ref 86)]) (st' := [.int 1, .int (-1), .int (-1)]) (h' := h0) 6 rfl ?_
                refine RA.call0 (h1 := h0) (r1 := some (.int 1)) rfl rfl rfl (Run.ex 4000 (Nat.le_of_ble_eq_true rfl) ⟨_, _, rfl⟩ rfl) ?_
                refine RA.steps (i' := 19) (L' := [some (.ref 0), some (.int 2), some (.int (-1)), some (.int c), some (.ref 86)]) (st' := [.int 0, .int (-1), .ref 86]) (h' := h0) 7 rfl ?_
                refine RA.call0 (h1 := (h0.set 87 (.inl (24, f0)))) (r1 := none) rfl rfl rfl (by
                  refine ⟨Nat.le_of_ble_eq_true rfl, ⟨_, _, rfl⟩, ?_⟩
                  refine RA.steps (i' := 9) (L' := [some (.ref 86), some (.int (-1)), some (.int 0)]) (st' := [.int 0, .ref 87]) (h' := h0) 9 rfl ?_
                  refine RA.call0 rfl rfl rfl hf0 ?_
                  exact RA.ret rfl rfl) ?_
                refine RA.steps (i' := 21) (L' := [some (.ref 0), some (.int 2), some (.int (-1)), some (.int c), some (.ref 86)]) (st' := [.int 0]) (h' := (h0.set 87 (.inl (24, f0)))) 1 rfl ?_
                exact RA.ret rfl rfl, by
                refine ⟨Nat.le_of_ble_eq_true rfl, ⟨_, _, rfl⟩, ?_⟩
                refine RA.steps (i' := 1) (L' := [some (.ref 110), some (.int 2), some (.int (-1)), some (.int c), none]) (st' := [.int 2]) (h' := (h0.set 87 (.inl (24, f0)))) 1 rfl ?_
                refine RA.call0 (h1 := (h0.set 87 (.inl (24, f0)))) (r1 := some (.int 1)) rfl rfl rfl (Run.ex 4000 (Nat.le_of_ble_eq_true rfl) ⟨_, _, rfl⟩ rfl) ?_
                refine RA.steps (i' := 7) (L' := [some (.ref 110), some (.int 2), some (.int (-1)), some (.int c), none]) (st' := [.long 1, .long (-1), .long (-1)]) (h' := (h0.set 87 (.inl (24, f0)))) 5 rfl ?_
                refine RA.call0 (h1 := (h0.set 87 (.inl (24, f0)))) (r1 := some (.int 1)) rfl rfl rfl (Run.ex 4000 (Nat.le_of_ble_eq_true rfl) ⟨_, _, rfl⟩ rfl) ?_
                refine RA.steps (i' := 38) (L' := [some (.ref 110), some (.int 2), some (.int (-1)), some (.int c), some (.int 0)]) (st' := []) (h' := (((h0.set 87 (.inl (24, f0))).set 114 (.inl (4, va_up (va_up (va_up (va_up (va_up (fun _ => 0) 0 (-1)) 1 (-1)) 2 (-1)) 3 (-1)) 2 (-1)))).set 115 (.inl (4, va_up (fun _ => 0) 2 0)))) 20 rfl ?_
                exact hs1⟩
          · by_cases h14 : 24 < c
            · exact ⟨(-1000000001), h0, _, by
                  refine ⟨Nat.le_of_ble_eq_true rfl, ⟨_, _, rfl⟩, ?_⟩
                  refine RA.steps (i' := 2) (L' := [some (.ref 0), some (.int 2), some (.int 0), some (.int c), none]) (st' := [.int 2, .ref 0]) (h' := h0) 2 rfl ?_
                  refine RA.call0 (h1 := h0) (r1 := some (.ref 86)) rfl rfl rfl (Run.ex 4000 (Nat.le_of_ble_eq_true rfl) ⟨_, _, rfl⟩ rfl) ?_
                  refine RA.steps (i' := 9) (L' := [some (.ref 0), some (.int 2), some (.int 0), some (.int c), some (.ref 86)]) (st' := [.int 1, .int (-1), .int 0]) (h' := h0) 6 rfl ?_
                  refine RA.call0 (h1 := h0) (r1 := some (.int 1)) rfl rfl rfl (Run.ex 4000 (Nat.le_of_ble_eq_true rfl) ⟨_, _, rfl⟩ rfl) ?_
                  refine RA.steps (i' := 24) (L' := [some (.ref 0), some (.int 2), some (.int 0), some (.int c), some (.ref 86)]) (st' := [.int 24, .int c]) (h' := h0) 6 rfl ?_
                  refine RA.if2F rfl (decide_eq_false (Int32.not_le.mpr h14)) ?_
                  refine RA.steps (i' := 26) (L' := [some (.ref 0), some (.int 2), some (.int 0), some (.int c), some (.ref 86)]) (st' := [.int (-1000000001)]) (h' := h0) 1 rfl ?_
                  exact RA.ret rfl rfl, by
                  refine ⟨Nat.le_of_ble_eq_true rfl, ⟨_, _, rfl⟩, ?_⟩
                  refine RA.steps (i' := 1) (L' := [some (.ref 110), some (.int 2), some (.int 0), some (.int c), none]) (st' := [.int 2]) (h' := h0) 1 rfl ?_
                  refine RA.call0 (h1 := h0) (r1 := some (.int 1)) rfl rfl rfl (Run.ex 4000 (Nat.le_of_ble_eq_true rfl) ⟨_, _, rfl⟩ rfl) ?_
                  refine RA.steps (i' := 7) (L' := [some (.ref 110), some (.int 2), some (.int 0), some (.int c), none]) (st' := [.long 1, .long (-1), .long 0]) (h' := h0) 5 rfl ?_
                  refine RA.call0 (h1 := h0) (r1 := some (.int 1)) rfl rfl rfl (Run.ex 4000 (Nat.le_of_ble_eq_true rfl) ⟨_, _, rfl⟩ rfl) ?_
                  refine RA.steps (i' := 13) (L' := [some (.ref 110), some (.int 2), some (.int 0), some (.int c), none]) (st' := [.int 24, .int c]) (h' := h0) 5 rfl ?_
                  refine RA.if2F rfl (decide_eq_false (Int32.not_le.mpr h14)) ?_
                  refine RA.steps (i' := 15) (L' := [some (.ref 110), some (.int 2), some (.int 0), some (.int c), none]) (st' := [.int (-1000000001)]) (h' := h0) 1 rfl ?_
                  exact RA.ret rfl rfl⟩
            · by_cases h15 : c < 0
              · exact ⟨(-1000000014), h0, _, by
                    refine ⟨Nat.le_of_ble_eq_true rfl, ⟨_, _, rfl⟩, ?_⟩
                    refine RA.steps (i' := 2) (L' := [some (.ref 0), some (.int 2), some (.int 0), some (.int c), none]) (st' := [.int 2, .ref 0]) (h' := h0) 2 rfl ?_
                    refine RA.call0 (h1 := h0) (r1 := some (.ref 86)) rfl rfl rfl (Run.ex 4000 (Nat.le_of_ble_eq_true rfl) ⟨_, _, rfl⟩ rfl) ?_
                    refine RA.steps (i' := 9) (L' := [some (.ref 0), some (.int 2), some (.int 0), some (.int c), some (.ref 86)]) (st' := [.int 1, .int (-1), .int 0]) (h' := h0) 6 rfl ?_
                    refine RA.call0 (h1 := h0) (r1 := some (.int 1)) rfl rfl rfl (Run.ex 4000 (Nat.le_of_ble_eq_true rfl) ⟨_, _, rfl⟩ rfl) ?_
                    refine RA.steps (i' := 24) (L' := [some (.ref 0), some (.int 2), some (.int 0), some (.int c), some (.ref 86)]) (st' := [.int 24, .int c]) (h' := h0) 6 rfl ?_
                    refine RA.if2T rfl (decide_eq_true (Int32.not_lt.mp h14)) ?_
                    refine RA.steps (i' := 28) (L' := [some (.ref 0), some (.int 2), some (.int 0), some (.int c), some (.ref 86)]) (st' := [.int c]) (h' := h0) 1 rfl ?_
                    refine RA.if1F rfl (decide_eq_false (Int32.not_le.mpr h15)) ?_
                    refine RA.steps (i' := 30) (L' := [some (.ref 0), some (.int 2), some (.int 0), some (.int c), some (.ref 86)]) (st' := [.int (-1000000014)]) (h' := h0) 1 rfl ?_
                    exact RA.ret rfl rfl, by
                    refine ⟨Nat.le_of_ble_eq_true rfl, ⟨_, _, rfl⟩, ?_⟩
                    refine RA.steps (i' := 1) (L' := [some (.ref 110), some (.int 2), some (.int 0), some (.int c), none]) (st' := [.int 2]) (h' := h0) 1 rfl ?_
                    refine RA.call0 (h1 := h0) (r1 := some (.int 1)) rfl rfl rfl (Run.ex 4000 (Nat.le_of_ble_eq_true rfl) ⟨_, _, rfl⟩ rfl) ?_
                    refine RA.steps (i' := 7) (L' := [some (.ref 110), some (.int 2), some (.int 0), some (.int c), none]) (st' := [.long 1, .long (-1), .long 0]) (h' := h0) 5 rfl ?_
                    refine RA.call0 (h1 := h0) (r1 := some (.int 1)) rfl rfl rfl (Run.ex 4000 (Nat.le_of_ble_eq_true rfl) ⟨_, _, rfl⟩ rfl) ?_
                    refine RA.steps (i' := 13) (L' := [some (.ref 110), some (.int 2), some (.int 0), some (.int c), none]) (st' := [.int 24, .int c]) (h' := h0) 5 rfl ?_
                    refine RA.if2T rfl (decide_eq_true (Int32.not_lt.mp h14)) ?_
                    refine RA.steps (i' := 19) (L' := [some (.ref 110), some (.int 2), some (.int 0), some (.int c), none]) (st' := [.int c]) (h' := h0) 3 rfl ?_
                    refine RA.if1F rfl (decide_eq_false (Int32.not_le.mpr h15)) ?_
                    refine RA.steps (i' := 21) (L' := [some (.ref 110), some (.int 2), some (.int 0), some (.int c), none]) (st' := [.int (-1000000014)]) (h' := h0) 1 rfl ?_
                    exact RA.ret rfl rfl⟩
              · obtain ⟨f0, hf0⟩ := fill_run (E := E) (V := pV0) (d := 37) (h := (h0.set 86 (.inr (.inr (3, [.ref 87, .int 0, .int c]))))) (a := 87) rfl
                obtain ⟨hx1, hs1⟩ := sh_run (E := E) (V := pV0) (d := 39) (S := 2) (so := 0) (n := c) (w := c) (h := ((((h0.set 86 (.inr (.inr (3, [.ref 87, .int 0, .int c])))).set 87 (.inl (24, f0))).set 114 (.inl (4, va_up (va_up (va_up (va_up (va_up (fun _ => 0) 0 (-1)) 1 (-1)) 2 (-1)) 3 (-1)) 2 0))).set 115 (.inl (4, va_up (fun _ => 0) 2 c)))) rfl rfl rfl rfl rfl rfl (by decide) (by decide) (by decide)
                exact ⟨c, ((h0.set 86 (.inr (.inr (3, [.ref 87, .int 0, .int c])))).set 87 (.inl (24, f0))), _, by
                    refine ⟨Nat.le_of_ble_eq_true rfl, ⟨_, _, rfl⟩, ?_⟩
                    refine RA.steps (i' := 2) (L' := [some (.ref 0), some (.int 2), some (.int 0), some (.int c), none]) (st' := [.int 2, .ref 0]) (h' := h0) 2 rfl ?_
                    refine RA.call0 (h1 := h0) (r1 := some (.ref 86)) rfl rfl rfl (Run.ex 4000 (Nat.le_of_ble_eq_true rfl) ⟨_, _, rfl⟩ rfl) ?_
                    refine RA.steps (i' := 9) (L' := [some (.ref 0), some (.int 2), some (.int 0), some (.int c), some (.ref 86)]) (st' := [.int 1, .int (-1), .int 0]) (h' := h0) 6 rfl ?_
                    refine RA.call0 (h1 := h0) (r1 := some (.int 1)) rfl rfl rfl (Run.ex 4000 (Nat.le_of_ble_eq_true rfl) ⟨_, _, rfl⟩ rfl) ?_
                    refine RA.steps (i' := 24) (L' := [some (.ref 0), some (.int 2), some (.int 0), some (.int c), some (.ref 86)]) (st' := [.int 24, .int c]) (h' := h0) 6 rfl ?_
                    refine RA.if2T rfl (decide_eq_true (Int32.not_lt.mp h14)) ?_
                    refine RA.steps (i' := 28) (L' := [some (.ref 0), some (.int 2), some (.int 0), some (.int c), some (.ref 86)]) (st' := [.int c]) (h' := h0) 1 rfl ?_
                    refine RA.if1T rfl (decide_eq_true (Int32.not_lt.mp h15)) ?_
                    refine RA.steps (i' := 34) (L' := [some (.ref 0), some (.int 2), some (.int 0), some (.int c), some (.ref 86)]) (st' := [.int c, .int 0, .ref 86]) (h' := h0) 3 rfl ?_
                    refine RA.call0 (h1 := ((h0.set 86 (.inr (.inr (3, [.ref 87, .int 0, .int c])))).set 87 (.inl (24, f0)))) (r1 := none) rfl rfl rfl (by
                      refine ⟨Nat.le_of_ble_eq_true rfl, ⟨_, _, rfl⟩, ?_⟩
                      refine RA.steps (i' := 9) (L' := [some (.ref 86), some (.int 0), some (.int c)]) (st' := [.int 0, .ref 87]) (h' := (h0.set 86 (.inr (.inr (3, [.ref 87, .int 0, .int c]))))) 9 rfl ?_
                      refine RA.call0 rfl rfl rfl hf0 ?_
                      exact RA.ret rfl rfl) ?_
                    refine RA.steps (i' := 36) (L' := [some (.ref 0), some (.int 2), some (.int 0), some (.int c), some (.ref 86)]) (st' := [.int c]) (h' := ((h0.set 86 (.inr (.inr (3, [.ref 87, .int 0, .int c])))).set 87 (.inl (24, f0)))) 1 rfl ?_
                    exact RA.ret rfl rfl, by
                    refine ⟨Nat.le_of_ble_eq_true rfl, ⟨_, _, rfl⟩, ?_⟩
                    refine RA.steps (i' := 1) (L' := [some (.ref 110), some (.int 2), some (.int 0), some (.int c), none]) (st' := [.int 2]) (h' := ((h0.set 86 (.inr (.inr (3, [.ref 87, .int 0, .int c])))).set 87 (.inl (24, f0)))) 1 rfl ?_
                    refine RA.call0 (h1 := ((h0.set 86 (.inr (.inr (3, [.ref 87, .int 0, .int c])))).set 87 (.inl (24, f0)))) (r1 := some (.int 1)) rfl rfl rfl (Run.ex 4000 (Nat.le_of_ble_eq_true rfl) ⟨_, _, rfl⟩ rfl) ?_
                    refine RA.steps (i' := 7) (L' := [some (.ref 110), some (.int 2), some (.int 0), some (.int c), none]) (st' := [.long 1, .long (-1), .long 0]) (h' := ((h0.set 86 (.inr (.inr (3, [.ref 87, .int 0, .int c])))).set 87 (.inl (24, f0)))) 5 rfl ?_
                    refine RA.call0 (h1 := ((h0.set 86 (.inr (.inr (3, [.ref 87, .int 0, .int c])))).set 87 (.inl (24, f0)))) (r1 := some (.int 1)) rfl rfl rfl (Run.ex 4000 (Nat.le_of_ble_eq_true rfl) ⟨_, _, rfl⟩ rfl) ?_
                    refine RA.steps (i' := 13) (L' := [some (.ref 110), some (.int 2), some (.int 0), some (.int c), none]) (st' := [.int 24, .int c]) (h' := ((h0.set 86 (.inr (.inr (3, [.ref 87, .int 0, .int c])))).set 87 (.inl (24, f0)))) 5 rfl ?_
                    refine RA.if2T rfl (decide_eq_true (Int32.not_lt.mp h14)) ?_
                    refine RA.steps (i' := 19) (L' := [some (.ref 110), some (.int 2), some (.int 0), some (.int c), none]) (st' := [.int c]) (h' := ((h0.set 86 (.inr (.inr (3, [.ref 87, .int 0, .int c])))).set 87 (.inl (24, f0)))) 3 rfl ?_
                    refine RA.if1T rfl (decide_eq_true (Int32.not_lt.mp h15)) ?_
                    refine RA.steps (i' := 38) (L' := [some (.ref 110), some (.int 2), some (.int 0), some (.int c), some (.int 0)]) (st' := []) (h' := ((((h0.set 86 (.inr (.inr (3, [.ref 87, .int 0, .int c])))).set 87 (.inl (24, f0))).set 114 (.inl (4, va_up (va_up (va_up (va_up (va_up (fun _ => 0) 0 (-1)) 1 (-1)) 2 (-1)) 3 (-1)) 2 0))).set 115 (.inl (4, va_up (fun _ => 0) 2 c)))) 14 rfl ?_
                    exact hs1⟩
          · by_cases h16 : 24 < c
            · exact ⟨(-1000000001), h0, _, by
                  refine ⟨Nat.le_of_ble_eq_true rfl, ⟨_, _, rfl⟩, ?_⟩
                  refine RA.steps (i' := 2) (L' := [some (.ref 0), some (.int 2), some (.int 1), some (.int c), none]) (st' := [.int 2, .ref 0]) (h' := h0) 2 rfl ?_
                  refine RA.call0 (h1 := h0) (r1 := some (.ref 86)) rfl rfl rfl (Run.ex 4000 (Nat.le_of_ble_eq_true rfl) ⟨_, _, rfl⟩ rfl) ?_
                  refine RA.steps (i' := 9) (L' := [some (.ref 0), some (.int 2), some (.int 1), some (.int c), some (.ref 86)]) (st' := [.int 1, .int (-1), .int 1]) (h' := h0) 6 rfl ?_
                  refine RA.call0 (h1 := h0) (r1 := some (.int 1)) rfl rfl rfl (Run.ex 4000 (Nat.le_of_ble_eq_true rfl) ⟨_, _, rfl⟩ rfl) ?_
                  refine RA.steps (i' := 24) (L' := [some (.ref 0), some (.int 2), some (.int 1), some (.int c), some (.ref 86)]) (st' := [.int 24, .int c]) (h' := h0) 6 rfl ?_
                  refine RA.if2F rfl (decide_eq_false (Int32.not_le.mpr h16)) ?_
                  refine RA.steps (i' := 26) (L' := [some (.ref 0), some (.int 2), some (.int 1), some (.int c), some (.ref 86)]) (st' := [.int (-1000000001)]) (h' := h0) 1 rfl ?_
                  exact RA.ret rfl rfl, by
                  refine ⟨Nat.le_of_ble_eq_true rfl, ⟨_, _, rfl⟩, ?_⟩
                  refine RA.steps (i' := 1) (L' := [some (.ref 110), some (.int 2), some (.int 1), some (.int c), none]) (st' := [.int 2]) (h' := h0) 1 rfl ?_
                  refine RA.call0 (h1 := h0) (r1 := some (.int 1)) rfl rfl rfl (Run.ex 4000 (Nat.le_of_ble_eq_true rfl) ⟨_, _, rfl⟩ rfl) ?_
                  refine RA.steps (i' := 7) (L' := [some (.ref 110), some (.int 2), some (.int 1), some (.int c), none]) (st' := [.long 1, .long (-1), .long 1]) (h' := h0) 5 rfl ?_
                  refine RA.call0 (h1 := h0) (r1 := some (.int 1)) rfl rfl rfl (Run.ex 4000 (Nat.le_of_ble_eq_true rfl) ⟨_, _, rfl⟩ rfl) ?_
                  refine RA.steps (i' := 13) (L' := [some (.ref 110), some (.int 2), some (.int 1), some (.int c), none]) (st' := [.int 24, .int c]) (h' := h0) 5 rfl ?_
                  refine RA.if2F rfl (decide_eq_false (Int32.not_le.mpr h16)) ?_
                  refine RA.steps (i' := 15) (L' := [some (.ref 110), some (.int 2), some (.int 1), some (.int c), none]) (st' := [.int (-1000000001)]) (h' := h0) 1 rfl ?_
                  exact RA.ret rfl rfl⟩
            · by_cases h17 : c < 0
              · exact ⟨(-1000000014), h0, _, by
                    refine ⟨Nat.le_of_ble_eq_true rfl, ⟨_, _, rfl⟩, ?_⟩
                    refine RA.steps (i' := 2) (L' := [some (.ref 0), some (.int 2), some (.int 1), some (.int c), none]) (st' := [.int 2, .ref 0]) (h' := h0) 2 rfl ?_
                    refine RA.call0 (h1 := h0) (r1 := some (.ref 86)) rfl rfl rfl (Run.ex 4000 (Nat.le_of_ble_eq_true rfl) ⟨_, _, rfl⟩ rfl) ?_
                    refine RA.steps (i' := 9) (L' := [some (.ref 0), some (.int 2), some (.int 1), some (.int c), some (.ref 86)]) (st' := [.int 1, .int (-1), .int 1]) (h' := h0) 6 rfl ?_
                    refine RA.call0 (h1 := h0) (r1 := some (.int 1)) rfl rfl rfl (Run.ex 4000 (Nat.le_of_ble_eq_true rfl) ⟨_, _, rfl⟩ rfl) ?_
                    refine RA.steps (i' := 24) (L' := [some (.ref 0), some (.int 2), some (.int 1), some (.int c), some (.ref 86)]) (st' := [.int 24, .int c]) (h' := h0) 6 rfl ?_
                    refine RA.if2T rfl (decide_eq_true (Int32.not_lt.mp h16)) ?_
                    refine RA.steps (i' := 28) (L' := [some (.ref 0), some (.int 2), some (.int 1), some (.int c), some (.ref 86)]) (st' := [.int c]) (h' := h0) 1 rfl ?_
                    refine RA.if1F rfl (decide_eq_false (Int32.not_le.mpr h17)) ?_
                    refine RA.steps (i' := 30) (L' := [some (.ref 0), some (.int 2), some (.int 1), some (.int c), some (.ref 86)]) (st' := [.int (-1000000014)]) (h' := h0) 1 rfl ?_
                    exact RA.ret rfl rfl, by
                    refine ⟨Nat.le_of_ble_eq_true rfl, ⟨_, _, rfl⟩, ?_⟩
                    refine RA.steps (i' := 1) (L' := [some (.ref 110), some (.int 2), some (.int 1), some (.int c), none]) (st' := [.int 2]) (h' := h0) 1 rfl ?_
                    refine RA.call0 (h1 := h0) (r1 := some (.int 1)) rfl rfl rfl (Run.ex 4000 (Nat.le_of_ble_eq_true rfl) ⟨_, _, rfl⟩ rfl) ?_
                    refine RA.steps (i' := 7) (L' := [some (.ref 110), some (.int 2), some (.int 1), some (.int c), none]) (st' := [.long 1, .long (-1), .long 1]) (h' := h0) 5 rfl ?_
                    refine RA.call0 (h1 := h0) (r1 := some (.int 1)) rfl rfl rfl (Run.ex 4000 (Nat.le_of_ble_eq_true rfl) ⟨_, _, rfl⟩ rfl) ?_
                    refine RA.steps (i' := 13) (L' := [some (.ref 110), some (.int 2), some (.int 1), some (.int c), none]) (st' := [.int 24, .int c]) (h' := h0) 5 rfl ?_
                    refine RA.if2T rfl (decide_eq_true (Int32.not_lt.mp h16)) ?_
                    refine RA.steps (i' := 19) (L' := [some (.ref 110), some (.int 2), some (.int 1), some (.int c), none]) (st' := [.int c]) (h' := h0) 3 rfl ?_
                    refine RA.if1F rfl (decide_eq_false (Int32.not_le.mpr h17)) ?_
                    refine RA.steps (i' := 21) (L' := [some (.ref 110), some (.int 2), some (.int 1), some (.int c), none]) (st' := [.int (-1000000014)]) (h' := h0) 1 rfl ?_
                    exact RA.ret rfl rfl⟩
              · obtain ⟨f0, hf0⟩ := fill_run (E := E) (V := pV0) (d := 37) (h := (h0.set 86 (.inr (.inr (3, [.ref 87, .int 1, .int c]))))) (a := 87) rfl
                obtain ⟨hx1, hs1⟩ := sh_run (E := E) (V := pV0) (d := 39) (S := 2) (so := 1) (n := c) (w := c) (h := ((((h0.set 86 (.inr (.inr (3, [.ref 87, .int 1, .int c])))).set 87 (.inl (24, f0))).set 114 (.inl (4, va_up (va_up (va_up (va_up (va_up (fun _ => 0) 0 (-1)) 1 (-1)) 2 (-1)) 3 (-1)) 2 1))).set 115 (.inl (4, va_up (fun _ => 0) 2 c)))) rfl rfl rfl rfl rfl rfl (by decide) (by decide) (by decide)
                exact ⟨c, ((h0.set 86 (.inr (.inr (3, [.ref 87, .int 1, .int c])))).set 87 (.inl (24, f0))), _, by
                    refine ⟨Nat.le_of_ble_eq_true rfl, ⟨_, _, rfl⟩, ?_⟩
                    refine RA.steps (i' := 2) (L' := [some (.ref 0), some (.int 2), some (.int 1), some (.int c), none]) (st' := [.int 2, .ref 0]) (h' := h0) 2 rfl ?_
                    refine RA.call0 (h1 := h0) (r1 := some (.ref 86)) rfl rfl rfl (Run.ex 4000 (Nat.le_of_ble_eq_true rfl) ⟨_, _, rfl⟩ rfl) ?_
                    refine RA.steps (i' := 9) (L' := [some (.ref 0), some (.int 2), some (.int 1), some (.int c), some (.ref 86)]) (st' := [.int 1, .int (-1), .int 1]) (h' := h0) 6 rfl ?_
                    refine RA.call0 (h1 := h0) (r1 := some (.int 1)) rfl rfl rfl (Run.ex 4000 (Nat.le_of_ble_eq_true rfl) ⟨_, _, rfl⟩ rfl) ?_
                    refine RA.steps (i' := 24) (L' := [some (.ref 0), some (.int 2), some (.int 1), some (.int c), some (.ref 86)]) (st' := [.int 24, .int c]) (h' := h0) 6 rfl ?_
                    refine RA.if2T rfl (decide_eq_true (Int32.not_lt.mp h16)) ?_
                    refine RA.steps (i' := 28) (L' := [some (.ref 0), some (.int 2), some (.int 1), some (.int c), some (.ref 86)]) (st' := [.int c]) (h' := h0) 1 rfl ?_
                    refine RA.if1T rfl (decide_eq_true (Int32.not_lt.mp h17)) ?_
                    refine RA.steps (i' := 34) (L' := [some (.ref 0), some (.int 2), some (.int 1), some (.int c), some (.ref 86)]) (st' := [.int c, .int 1, .ref 86]) (h' := h0) 3 rfl ?_
                    refine RA.call0 (h1 := ((h0.set 86 (.inr (.inr (3, [.ref 87, .int 1, .int c])))).set 87 (.inl (24, f0)))) (r1 := none) rfl rfl rfl (by
                      refine ⟨Nat.le_of_ble_eq_true rfl, ⟨_, _, rfl⟩, ?_⟩
                      refine RA.steps (i' := 9) (L' := [some (.ref 86), some (.int 1), some (.int c)]) (st' := [.int 0, .ref 87]) (h' := (h0.set 86 (.inr (.inr (3, [.ref 87, .int 1, .int c]))))) 9 rfl ?_
                      refine RA.call0 rfl rfl rfl hf0 ?_
                      exact RA.ret rfl rfl) ?_
                    refine RA.steps (i' := 36) (L' := [some (.ref 0), some (.int 2), some (.int 1), some (.int c), some (.ref 86)]) (st' := [.int c]) (h' := ((h0.set 86 (.inr (.inr (3, [.ref 87, .int 1, .int c])))).set 87 (.inl (24, f0)))) 1 rfl ?_
                    exact RA.ret rfl rfl, by
                    refine ⟨Nat.le_of_ble_eq_true rfl, ⟨_, _, rfl⟩, ?_⟩
                    refine RA.steps (i' := 1) (L' := [some (.ref 110), some (.int 2), some (.int 1), some (.int c), none]) (st' := [.int 2]) (h' := ((h0.set 86 (.inr (.inr (3, [.ref 87, .int 1, .int c])))).set 87 (.inl (24, f0)))) 1 rfl ?_
                    refine RA.call0 (h1 := ((h0.set 86 (.inr (.inr (3, [.ref 87, .int 1, .int c])))).set 87 (.inl (24, f0)))) (r1 := some (.int 1)) rfl rfl rfl (Run.ex 4000 (Nat.le_of_ble_eq_true rfl) ⟨_, _, rfl⟩ rfl) ?_
                    refine RA.steps (i' := 7) (L' := [some (.ref 110), some (.int 2), some (.int 1), some (.int c), none]) (st' := [.long 1, .long (-1), .long 1]) (h' := ((h0.set 86 (.inr (.inr (3, [.ref 87, .int 1, .int c])))).set 87 (.inl (24, f0)))) 5 rfl ?_
                    refine RA.call0 (h1 := ((h0.set 86 (.inr (.inr (3, [.ref 87, .int 1, .int c])))).set 87 (.inl (24, f0)))) (r1 := some (.int 1)) rfl rfl rfl (Run.ex 4000 (Nat.le_of_ble_eq_true rfl) ⟨_, _, rfl⟩ rfl) ?_
                    refine RA.steps (i' := 13) (L' := [some (.ref 110), some (.int 2), some (.int 1), some (.int c), none]) (st' := [.int 24, .int c]) (h' := ((h0.set 86 (.inr (.inr (3, [.ref 87, .int 1, .int c])))).set 87 (.inl (24, f0)))) 5 rfl ?_
                    refine RA.if2T rfl (decide_eq_true (Int32.not_lt.mp h16)) ?_
                    refine RA.steps (i' := 19) (L' := [some (.ref 110), some (.int 2), some (.int 1), some (.int c), none]) (st' := [.int c]) (h' := ((h0.set 86 (.inr (.inr (3, [.ref 87, .int 1, .int c])))).set 87 (.inl (24, f0)))) 3 rfl ?_
                    refine RA.if1T rfl (decide_eq_true (Int32.not_lt.mp h17)) ?_
                    refine RA.steps (i' := 38) (L' := [some (.ref 110), some (.int 2), some (.int 1), some (.int c), some (.int 0)]) (st' := []) (h' := ((((h0.set 86 (.inr (.inr (3, [.ref 87, .int 1, .int c])))).set 87 (.inl (24, f0))).set 114 (.inl (4, va_up (va_up (va_up (va_up (va_up (fun _ => 0) 0 (-1)) 1 (-1)) 2 (-1)) 3 (-1)) 2 1))).set 115 (.inl (4, va_up (fun _ => 0) 2 c)))) 14 rfl ?_
                    exact hs1⟩
        · exact ⟨(-1000000001), h0, _, by
              refine ⟨Nat.le_of_ble_eq_true rfl, ⟨_, _, rfl⟩, ?_⟩
              refine RA.steps (i' := 2) (L' := [some (.ref 0), some (.int 2), some (.int b), some (.int c), none]) (st' := [.int 2, .ref 0]) (h' := h0) 2 rfl ?_
              refine RA.call0 (h1 := h0) (r1 := some (.ref 86)) rfl rfl rfl (Run.ex 4000 (Nat.le_of_ble_eq_true rfl) ⟨_, _, rfl⟩ rfl) ?_
              refine RA.steps (i' := 9) (L' := [some (.ref 0), some (.int 2), some (.int b), some (.int c), some (.ref 86)]) (st' := [.int 1, .int (-1), .int b]) (h' := h0) 6 rfl ?_
              refine RA.call0 rfl rfl rfl (within_f (v := b) (lo := (-1)) (hi := 1) h13) ?_
              refine RA.steps (i' := 12) (L' := [some (.ref 0), some (.int 2), some (.int b), some (.int c), some (.ref 86)]) (st' := [.int (-1000000001)]) (h' := h0) 2 rfl ?_
              exact RA.ret rfl rfl, by
              refine ⟨Nat.le_of_ble_eq_true rfl, ⟨_, _, rfl⟩, ?_⟩
              refine RA.steps (i' := 1) (L' := [some (.ref 110), some (.int 2), some (.int b), some (.int c), none]) (st' := [.int 2]) (h' := h0) 1 rfl ?_
              refine RA.call0 (h1 := h0) (r1 := some (.int 1)) rfl rfl rfl (Run.ex 4000 (Nat.le_of_ble_eq_true rfl) ⟨_, _, rfl⟩ rfl) ?_
              refine RA.steps (i' := 7) (L' := [some (.ref 110), some (.int 2), some (.int b), some (.int c), none]) (st' := [.long 1, .long (-1), .long (b : Int32).toInt64]) (h' := h0) 5 rfl ?_
              refine RA.call0 rfl rfl rfl (isIn_f (v := b) (lo := (-1)) (hi := 1) h13) ?_
              refine RA.steps (i' := 15) (L' := [some (.ref 110), some (.int 2), some (.int b), some (.int c), none]) (st' := [.int (-1000000001)]) (h' := h0) 2 rfl ?_
              exact RA.ret rfl rfl⟩
      · by_cases h18 : (-1) ≤ b ∧ b ≤ 1
        · rcases cases_m1_1 h18 with rfl | rfl | rfl
          · obtain ⟨f0, hf0⟩ := fill_run (E := E) (V := pV0) (d := 37) (h := h0) (a := 89) rfl
            obtain ⟨hx1, hs1⟩ := sh_run (E := E) (V := pV0) (d := 39) (S := 3) (so := (-1)) (n := c) (w := 0) (h := (((h0.set 89 (.inl (24, f0))).set 114 (.inl (4, va_up (va_up (va_up (va_up (va_up (fun _ => 0) 0 (-1)) 1 (-1)) 2 (-1)) 3 (-1)) 3 (-1)))).set 115 (.inl (4, va_up (fun _ => 0) 3 0)))) rfl rfl rfl rfl rfl rfl (by decide) (by decide) (by decide)
            exact ⟨0, (h0.set 89 (.inl (24, f0))), _, by
                refine ⟨Nat.le_of_ble_eq_true rfl, ⟨_, _, rfl⟩, ?_⟩
                refine RA.steps (i' := 2) (L' := [some (.ref 0), some (.int 3), some (.int (-1)), some (.int c), none]) (st' := [.int 3, .ref 0]) (h' := h0) 2 rfl ?_
                refine RA.call0 (h1 := h0) (r1 := some (.ref 88)) rfl rfl rfl (Run.ex 4000 (Nat.le_of_ble_eq_true rfl) ⟨_, _, rfl⟩ rfl) ?_
                refine RA.steps (i' := 9) (L' := [some (.ref 0), some (.int 3), some (.int (-1)), some (.int c), some (.ref 88)]) (st' := [.int 1, .int (-1), .int (-1)]) (h' := h0) 6 rfl ?_
                refine RA.call0 (h1 := h0) (r1 := some (.int 1)) rfl rfl rfl (Run.ex 4000 (Nat.le_of_ble_eq_true rfl) ⟨_, _, rfl⟩ rfl) ?_
                refine RA.steps (i' := 19) (L' := [some (.ref 0), some (.int 3), some (.int (-1)), some (.int c), some (.ref 88)]) (st' := [.int 0, .int (-1), .ref 88]) (h' := h0) 7 rfl ?_
                refine RA.call0 (h1 := (h0.set 89 (.inl (24, f0)))) (r1 := none) rfl rfl rfl (by
                  refine ⟨Nat.le_of_ble_eq_true rfl, ⟨_, _, rfl⟩, ?_⟩
                  refine RA.steps (i' := 9) (L' := [some (.ref 88), some (.int (-1)), some (.int 0)]) (st' := [.int 0, .ref 89]) (h' := h0) 9 rfl ?_
                  refine RA.call0 rfl rfl rfl hf0 ?_
                  exact RA.ret rfl rfl) ?_
                refine RA.steps (i' := 21) (L' := [some (.ref 0), some (.int 3), some (.int (-1)), some (.int c), some (.ref 88)]) (st' := [.int 0]) (h' := (h0.set 89 (.inl (24, f0)))) 1 rfl ?_
                exact RA.ret rfl rfl, by
                refine ⟨Nat.le_of_ble_eq_true rfl, ⟨_, _, rfl⟩, ?_⟩
                refine RA.steps (i' := 1) (L' := [some (.ref 110), some (.int 3), some (.int (-1)), some (.int c), none]) (st' := [.int 3]) (h' := (h0.set 89 (.inl (24, f0)))) 1 rfl ?_
                refine RA.call0 (h1 := (h0.set 89 (.inl (24, f0)))) (r1 := some (.int 1)) rfl rfl rfl (Run.ex 4000 (Nat.le_of_ble_eq_true rfl) ⟨_, _, rfl⟩ rfl) ?_
                refine RA.steps (i' := 7) (L' := [some (.ref 110), some (.int 3), some (.int (-1)), some (.int c), none]) (st' := [.long 1, .long (-1), .long (-1)]) (h' := (h0.set 89 (.inl (24, f0)))) 5 rfl ?_
                refine RA.call0 (h1 := (h0.set 89 (.inl (24, f0)))) (r1 := some (.int 1)) rfl rfl rfl (Run.ex 4000 (Nat.le_of_ble_eq_true rfl) ⟨_, _, rfl⟩ rfl) ?_
                refine RA.steps (i' := 38) (L' := [some (.ref 110), some (.int 3), some (.int (-1)), some (.int c), some (.int 0)]) (st' := []) (h' := (((h0.set 89 (.inl (24, f0))).set 114 (.inl (4, va_up (va_up (va_up (va_up (va_up (fun _ => 0) 0 (-1)) 1 (-1)) 2 (-1)) 3 (-1)) 3 (-1)))).set 115 (.inl (4, va_up (fun _ => 0) 3 0)))) 20 rfl ?_
                exact hs1⟩
          · by_cases h19 : 24 < c
            · exact ⟨(-1000000001), h0, _, by
                  refine ⟨Nat.le_of_ble_eq_true rfl, ⟨_, _, rfl⟩, ?_⟩
                  refine RA.steps (i' := 2) (L' := [some (.ref 0), some (.int 3), some (.int 0), some (.int c), none]) (st' := [.int 3, .ref 0]) (h' := h0) 2 rfl ?_
                  refine RA.call0 (h1 := h0) (r1 := some (.ref 88)) rfl rfl rfl (Run.ex 4000 (Nat.le_of_ble_eq_true rfl) ⟨_, _, rfl⟩ rfl) ?_
                  refine RA.steps (i' := 9) (L' := [some (.ref 0), some (.int 3), some (.int 0), some (.int c), some (.ref 88)]) (st' := [.int 1, .int (-1), .int 0]) (h' := h0) 6 rfl ?_
                  refine RA.call0 (h1 := h0) (r1 := some (.int 1)) rfl rfl rfl (Run.ex 4000 (Nat.le_of_ble_eq_true rfl) ⟨_, _, rfl⟩ rfl) ?_
                  refine RA.steps (i' := 24) (L' := [some (.ref 0), some (.int 3), some (.int 0), some (.int c), some (.ref 88)]) (st' := [.int 24, .int c]) (h' := h0) 6 rfl ?_
                  refine RA.if2F rfl (decide_eq_false (Int32.not_le.mpr h19)) ?_
                  refine RA.steps (i' := 26) (L' := [some (.ref 0), some (.int 3), some (.int 0), some (.int c), some (.ref 88)]) (st' := [.int (-1000000001)]) (h' := h0) 1 rfl ?_
                  exact RA.ret rfl rfl, by
                  refine ⟨Nat.le_of_ble_eq_true rfl, ⟨_, _, rfl⟩, ?_⟩
                  refine RA.steps (i' := 1) (L' := [some (.ref 110), some (.int 3), some (.int 0), some (.int c), none]) (st' := [.int 3]) (h' := h0) 1 rfl ?_
                  refine RA.call0 (h1 := h0) (r1 := some (.int 1)) rfl rfl rfl (Run.ex 4000 (Nat.le_of_ble_eq_true rfl) ⟨_, _, rfl⟩ rfl) ?_
                  refine RA.steps (i' := 7) (L' := [some (.ref 110), some (.int 3), some (.int 0), some (.int c), none]) (st' := [.long 1, .long (-1), .long 0]) (h' := h0) 5 rfl ?_
                  refine RA.call0 (h1 := h0) (r1 := some (.int 1)) rfl rfl rfl (Run.ex 4000 (Nat.le_of_ble_eq_true rfl) ⟨_, _, rfl⟩ rfl) ?_
                  refine RA.steps (i' := 13) (L' := [some (.ref 110), some (.int 3), some (.int 0), some (.int c), none]) (st' := [.int 24, .int c]) (h' := h0) 5 rfl ?_
                  refine RA.if2F rfl (decide_eq_false (Int32.not_le.mpr h19)) ?_
                  refine RA.steps (i' := 15) (L' := [some (.ref 110), some (.int 3), some (.int 0), some (.int c), none]) (st' := [.int (-1000000001)]) (h' := h0) 1 rfl ?_
                  exact RA.ret rfl rfl⟩
            · by_cases h20 : c < 0
              · exact ⟨(-1000000014), h0, _, by
                    refine ⟨Nat.le_of_ble_eq_true rfl, ⟨_, _, rfl⟩, ?_⟩
                    refine RA.steps (i' := 2) (L' := [some (.ref 0), some (.int 3), some (.int 0), some (.int c), none]) (st' := [.int 3, .ref 0]) (h' := h0) 2 rfl ?_
                    refine RA.call0 (h1 := h0) (r1 := some (.ref 88)) rfl rfl rfl (Run.ex 4000 (Nat.le_of_ble_eq_true rfl) ⟨_, _, rfl⟩ rfl) ?_
                    refine RA.steps (i' := 9) (L' := [some (.ref 0), some (.int 3), some (.int 0), some (.int c), some (.ref 88)]) (st' := [.int 1, .int (-1), .int 0]) (h' := h0) 6 rfl ?_
                    refine RA.call0 (h1 := h0) (r1 := some (.int 1)) rfl rfl rfl (Run.ex 4000 (Nat.le_of_ble_eq_true rfl) ⟨_, _, rfl⟩ rfl) ?_
                    refine RA.steps (i' := 24) (L' := [some (.ref 0), some (.int 3), some (.int 0), some (.int c), some (.ref 88)]) (st' := [.int 24, .int c]) (h' := h0) 6 rfl ?_
                    refine RA.if2T rfl (decide_eq_true (Int32.not_lt.mp h19)) ?_
                    refine RA.steps (i' := 28) (L' := [some (.ref 0), some (.int 3), some (.int 0), some (.int c), some (.ref 88)]) (st' := [.int c]) (h' := h0) 1 rfl ?_
                    refine RA.if1F rfl (decide_eq_false (Int32.not_le.mpr h20)) ?_
                    refine RA.steps (i' := 30) (L' := [some (.ref 0), some (.int 3), some (.int 0), some (.int c), some (.ref 88)]) (st' := [.int (-1000000014)]) (h' := h0) 1 rfl ?_
                    exact RA.ret rfl rfl, by
                    refine ⟨Nat.le_of_ble_eq_true rfl, ⟨_, _, rfl⟩, ?_⟩
                    refine RA.steps (i' := 1) (L' := [some (.ref 110), some (.int 3), some (.int 0), some (.int c), none]) (st' := [.int 3]) (h' := h0) 1 rfl ?_
                    refine RA.call0 (h1 := h0) (r1 := some (.int 1)) rfl rfl rfl (Run.ex 4000 (Nat.le_of_ble_eq_true rfl) ⟨_, _, rfl⟩ rfl) ?_
                    refine RA.steps (i' := 7) (L' := [some (.ref 110), some (.int 3), some (.int 0), some (.int c), none]) (st' := [.long 1, .long (-1), .long 0]) (h' := h0) 5 rfl ?_
                    refine RA.call0 (h1 := h0) (r1 := some (.int 1)) rfl rfl rfl (Run.ex 4000 (Nat.le_of_ble_eq_true rfl) ⟨_, _, rfl⟩ rfl) ?_
                    refine RA.steps (i' := 13) (L' := [some (.ref 110), some (.int 3), some (.int 0), some (.int c), none]) (st' := [.int 24, .int c]) (h' := h0) 5 rfl ?_
                    refine RA.if2T rfl (decide_eq_true (Int32.not_lt.mp h19)) ?_
                    refine RA.steps (i' := 19) (L' := [some (.ref 110), some (.int 3), some (.int 0), some (.int c), none]) (st' := [.int c]) (h' := h0) 3 rfl ?_
                    refine RA.if1F rfl (decide_eq_false (Int32.not_le.mpr h20)) ?_
                    refine RA.steps (i' := 21) (L' := [some (.ref 110), some (.int 3), some (.int 0), some (.int c), none]) (st' := [.int (-1000000014)]) (h' := h0) 1 rfl ?_
                    exact RA.ret rfl rfl⟩
              · obtain ⟨f0, hf0⟩ := fill_run (E := E) (V := pV0) (d := 37) (h := (h0.set 88 (.inr (.inr (3, [.ref 89, .int 0, .int c]))))) (a := 89) rfl
                obtain ⟨hx1, hs1⟩ := sh_run (E := E) (V := pV0) (d := 39) (S := 3) (so := 0) (n := c) (w := c) (h := ((((h0.set 88 (.inr (.inr (3, [.ref 89, .int 0, .int c])))).set 89 (.inl (24, f0))).set 114 (.inl (4, va_up (va_up (va_up (va_up (va_up (fun _ => 0) 0 (-1)) 1 (-1)) 2 (-1)) 3 (-1)) 3 0))).set 115 (.inl (4, va_up (fun _ => 0) 3 c)))) rfl rfl rfl rfl rfl rfl (by decide) (by decide) (by decide)
                exact ⟨c, ((h0.set 88 (.inr (.inr (3, [.ref 89, .int 0, .int c])))).set 89 (.inl (24, f0))), _, by
                    refine ⟨Nat.le_of_ble_eq_true rfl, ⟨_, _, rfl⟩, ?_⟩
                    refine RA.steps (i' := 2) (L' := [some (.ref 0), some (.int 3), some (.int 0), some (.int c), none]) (st' := [.int 3, .ref 0]) (h' := h0) 2 rfl ?_
                    refine RA.call0 (h1 := h0) (r1 := some (.ref 88)) rfl rfl rfl (Run.ex 4000 (Nat.le_of_ble_eq_true rfl) ⟨_, _, rfl⟩ rfl) ?_
                    refine RA.steps (i' := 9) (L' := [some (.ref 0), some (.int 3), some (.int 0), some (.int c), some (.ref 88)]) (st' := [.int 1, .int (-1), .int 0]) (h' := h0) 6 rfl ?_
                    refine RA.call0 (h1 := h0) (r1 := some (.int 1)) rfl rfl rfl (Run.ex 4000 (Nat.le_of_ble_eq_true rfl) ⟨_, _, rfl⟩ rfl) ?_
                    refine RA.steps (i' := 24) (L' := [some (.ref 0), some (.int 3), some (.int 0), some (.int c), some (.ref 88)]) (st' := [.int 24, .int c]) (h' := h0) 6 rfl ?_
                    refine RA.if2T rfl (decide_eq_true (Int32.not_lt.mp h19)) ?_
                    refine RA.steps (i' := 28) (L' := [some (.ref 0), some (.int 3), some (.int 0), some (.int c), some (.ref 88)]) (st' := [.int c]) (h' := h0) 1 rfl ?_
                    refine RA.if1T rfl (decide_eq_true (Int32.not_lt.mp h20)) ?_
                    refine RA.steps (i' := 34) (L' := [some (.ref 0), some (.int 3), some (.int 0), some (.int c), some (.ref 88)]) (st' := [.int c, .int 0, .ref 88]) (h' := h0) 3 rfl ?_
                    refine RA.call0 (h1 := ((h0.set 88 (.inr (.inr (3, [.ref 89, .int 0, .int c])))).set 89 (.inl (24, f0)))) (r1 := none) rfl rfl rfl (by
                      refine ⟨Nat.le_of_ble_eq_true rfl, ⟨_, _, rfl⟩, ?_⟩
                      refine RA.steps (i' := 9) (L' := [some (.ref 88), some (.int 0), some (.int c)]) (st' := [.int 0, .ref 89]) (h' := (h0.set 88 (.inr (.inr (3, [.ref 89, .int 0, .int c]))))) 9 rfl ?_
                      refine RA.call0 rfl rfl rfl hf0 ?_
                      exact RA.ret rfl rfl) ?_
                    refine RA.steps (i' := 36) (L' := [some (.ref 0), some (.int 3), some (.int 0), some (.int c), some (.ref 88)]) (st' := [.int c]) (h' := ((h0.set 88 (.inr (.inr (3, [.ref 89, .int 0, .int c])))).set 89 (.inl (24, f0)))) 1 rfl ?_
                    exact RA.ret rfl rfl, by
                    refine ⟨Nat.le_of_ble_eq_true rfl, ⟨_, _, rfl⟩, ?_⟩
                    refine RA.steps (i' := 1) (L' := [some (.ref 110), some (.int 3), some (.int 0), some (.int c), none]) (st' := [.int 3]) (h' := ((h0.set 88 (.inr (.inr (3, [.ref 89, .int 0, .int c])))).set 89 (.inl (24, f0)))) 1 rfl ?_
                    refine RA.call0 (h1 := ((h0.set 88 (.inr (.inr (3, [.ref 89, .int 0, .int c])))).set 89 (.inl (24, f0)))) (r1 := some (.int 1)) rfl rfl rfl (Run.ex 4000 (Nat.le_of_ble_eq_true rfl) ⟨_, _, rfl⟩ rfl) ?_
                    refine RA.steps (i' := 7) (L' := [some (.ref 110), some (.int 3), some (.int 0), some (.int c), none]) (st' := [.long 1, .long (-1), .long 0]) (h' := ((h0.set 88 (.inr (.inr (3, [.ref 89, .int 0, .int c])))).set 89 (.inl (24, f0)))) 5 rfl ?_
                    refine RA.call0 (h1 := ((h0.set 88 (.inr (.inr (3, [.ref 89, .int 0, .int c])))).set 89 (.inl (24, f0)))) (r1 := some (.int 1)) rfl rfl rfl (Run.ex 4000 (Nat.le_of_ble_eq_true rfl) ⟨_, _, rfl⟩ rfl) ?_
                    refine RA.steps (i' := 13) (L' := [some (.ref 110), some (.int 3), some (.int 0), some (.int c), none]) (st' := [.int 24, .int c]) (h' := ((h0.set 88 (.inr (.inr (3, [.ref 89, .int 0, .int c])))).set 89 (.inl (24, f0)))) 5 rfl ?_
                    refine RA.if2T rfl (decide_eq_true (Int32.not_lt.mp h19)) ?_
                    refine RA.steps (i' := 19) (L' := [some (.ref 110), some (.int 3), some (.int 0), some (.int c), none]) (st' := [.int c]) (h' := ((h0.set 88 (.inr (.inr (3, [.ref 89, .int 0, .int c])))).set 89 (.inl (24, f0)))) 3 rfl ?_
                    refine RA.if1T rfl (decide_eq_true (Int32.not_lt.mp h20)) ?_
                    refine RA.steps (i' := 38) (L' := [some (.ref 110), some (.int 3), some (.int 0), some (.int c), some (.int 0)]) (st' := []) (h' := ((((h0.set 88 (.inr (.inr (3, [.ref 89, .int 0, .int c])))).set 89 (.inl (24, f0))).set 114 (.inl (4, va_up (va_up (va_up (va_up (va_up (fun _ => 0) 0 (-1)) 1 (-1)) 2 (-1)) 3 (-1)) 3 0))).set 115 (.inl (4, va_up (fun _ => 0) 3 c)))) 14 rfl ?_
                    exact hs1⟩
          · by_cases h21 : 24 < c
            · exact ⟨(-1000000001), h0, _, by
                  refine ⟨Nat.le_of_ble_eq_true rfl, ⟨_, _, rfl⟩, ?_⟩
                  refine RA.steps (i' := 2) (L' := [some (.ref 0), some (.int 3), some (.int 1), some (.int c), none]) (st' := [.int 3, .ref 0]) (h' := h0) 2 rfl ?_
                  refine RA.call0 (h1 := h0) (r1 := some (.ref 88)) rfl rfl rfl (Run.ex 4000 (Nat.le_of_ble_eq_true rfl) ⟨_, _, rfl⟩ rfl) ?_
                  refine RA.steps (i' := 9) (L' := [some (.ref 0), some (.int 3), some (.int 1), some (.int c), some (.ref 88)]) (st' := [.int 1, .int (-1), .int 1]) (h' := h0) 6 rfl ?_
                  refine RA.call0 (h1 := h0) (r1 := some (.int 1)) rfl rfl rfl (Run.ex 4000 (Nat.le_of_ble_eq_true rfl) ⟨_, _, rfl⟩ rfl) ?_
                  refine RA.steps (i' := 24) (L' := [some (.ref 0), some (.int 3), some (.int 1), some (.int c), some (.ref 88)]) (st' := [.int 24, .int c]) (h' := h0) 6 rfl ?_
                  refine RA.if2F rfl (decide_eq_false (Int32.not_le.mpr h21)) ?_
                  refine RA.steps (i' := 26) (L' := [some (.ref 0), some (.int 3), some (.int 1), some (.int c), some (.ref 88)]) (st' := [.int (-1000000001)]) (h' := h0) 1 rfl ?_
                  exact RA.ret rfl rfl, by
                  refine ⟨Nat.le_of_ble_eq_true rfl, ⟨_, _, rfl⟩, ?_⟩
                  refine RA.steps (i' := 1) (L' := [some (.ref 110), some (.int 3), some (.int 1), some (.int c), none]) (st' := [.int 3]) (h' := h0) 1 rfl ?_
                  refine RA.call0 (h1 := h0) (r1 := some (.int 1)) rfl rfl rfl (Run.ex 4000 (Nat.le_of_ble_eq_true rfl) ⟨_, _, rfl⟩ rfl) ?_
                  refine RA.steps (i' := 7) (L' := [some (.ref 110), some (.int 3), some (.int 1), some (.int c), none]) (st' := [.long 1, .long (-1), .long 1]) (h' := h0) 5 rfl ?_
                  refine RA.call0 (h1 := h0) (r1 := some (.int 1)) rfl rfl rfl (Run.ex 4000 (Nat.le_of_ble_eq_true rfl) ⟨_, _, rfl⟩ rfl) ?_
                  refine RA.steps (i' := 13) (L' := [some (.ref 110), some (.int 3), some (.int 1), some (.int c), none]) (st' := [.int 24, .int c]) (h' := h0) 5 rfl ?_
                  refine RA.if2F rfl (decide_eq_false (Int32.not_le.mpr h21)) ?_
                  refine RA.steps (i' := 15) (L' := [some (.ref 110), some (.int 3), some (.int 1), some (.int c), none]) (st' := [.int (-1000000001)]) (h' := h0) 1 rfl ?_
                  exact RA.ret rfl rfl⟩
            · by_cases h22 : c < 0
              · exact ⟨(-1000000014), h0, _, by
                    refine ⟨Nat.le_of_ble_eq_true rfl, ⟨_, _, rfl⟩, ?_⟩
                    refine RA.steps (i' := 2) (L' := [some (.ref 0), some (.int 3), some (.int 1), some (.int c), none]) (st' := [.int 3, .ref 0]) (h' := h0) 2 rfl ?_
                    refine RA.call0 (h1 := h0) (r1 := some (.ref 88)) rfl rfl rfl (Run.ex 4000 (Nat.le_of_ble_eq_true rfl) ⟨_, _, rfl⟩ rfl) ?_
                    refine RA.steps (i' := 9) (L' := [some (.ref 0), some (.int 3), some (.int 1), some (.int c), some (.ref 88)]) (st' := [.int 1, .int (-1), .int 1]) (h' := h0) 6 rfl ?_
                    refine RA.call0 (h1 := h0) (r1 := some (.int 1)) rfl rfl rfl (Run.ex 4000 (Nat.le_of_ble_eq_true rfl) ⟨_, _, rfl⟩ rfl) ?_
                    refine RA.steps (i' := 24) (L' := [some (.ref 0), some (.int 3), some (.int 1), some (.int c), some (.ref 88)]) (st' := [.int 24, .int c]) (h' := h0) 6 rfl ?_
                    refine RA.if2T rfl (decide_eq_true (Int32.not_lt.mp h21)) ?_
                    refine RA.steps (i' := 28) (L' := [some (.ref 0), some (.int 3), some (.int 1), some (.int c), some (.ref 88)]) (st' := [.int c]) (h' := h0) 1 rfl ?_
                    refine RA.if1F rfl (decide_eq_false (Int32.not_le.mpr h22)) ?_
                    refine RA.steps (i' := 30) (L' := [some (.ref 0), some (.int 3), some (.int 1), some (.int c), some (.ref 88)]) (st' := [.int (-1000000014)]) (h' := h0) 1 rfl ?_
                    exact RA.ret rfl rfl, by
                    refine ⟨Nat.le_of_ble_eq_true rfl, ⟨_, _, rfl⟩, ?_⟩
                    refine RA.steps (i' := 1) (L' := [some (.ref 110), some (.int 3), some (.int 1), some (.int c), none]) (st' := [.int 3]) (h' := h0) 1 rfl ?_
                    refine RA.call0 (h1 := h0) (r1 := some (.int 1)) rfl rfl rfl (Run.ex 4000 (Nat.le_of_ble_eq_true rfl) ⟨_, _, rfl⟩ rfl) ?_
                    refine RA.steps (i' := 7) (L' := [some (.ref 110), some (.int 3), some (.int 1), some (.int c), none]) (st' := [.long 1, .long (-1), .long 1]) (h' := h0) 5 rfl ?_
                    refine RA.call0 (h1 := h0) (r1 := some (.int 1)) rfl rfl rfl (Run.ex 4000 (Nat.le_of_ble_eq_true rfl) ⟨_, _, rfl⟩ rfl) ?_
                    refine RA.steps (i' := 13) (L' := [some (.ref 110), some (.int 3), some (.int 1), some (.int c), none]) (st' := [.int 24, .int c]) (h' := h0) 5 rfl ?_
                    refine RA.if2T rfl (decide_eq_true (Int32.not_lt.mp h21)) ?_
                    refine RA.steps (i' := 19) (L' := [some (.ref 110), some (.int 3), some (.int 1), some (.int c), none]) (st' := [.int c]) (h' := h0) 3 rfl ?_
                    refine RA.if1F rfl (decide_eq_false (Int32.not_le.mpr h22)) ?_
                    refine RA.steps (i' := 21) (L' := [some (.ref 110), some (.int 3), some (.int 1), some (.int c), none]) (st' := [.int (-1000000014)]) (h' := h0) 1 rfl ?_
                    exact RA.ret rfl rfl⟩
              · obtain ⟨f0, hf0⟩ := fill_run (E := E) (V := pV0) (d := 37) (h := (h0.set 88 (.inr (.inr (3, [.ref 89, .int 1, .int c]))))) (a := 89) rfl
                obtain ⟨hx1, hs1⟩ := sh_run (E := E) (V := pV0) (d := 39) (S := 3) (so := 1) (n := c) (w := c) (h := ((((h0.set 88 (.inr (.inr (3, [.ref 89, .int 1, .int c])))).set 89 (.inl (24, f0))).set 114 (.inl (4, va_up (va_up (va_up (va_up (va_up (fun _ => 0) 0 (-1)) 1 (-1)) 2 (-1)) 3 (-1)) 3 1))).set 115 (.inl (4, va_up (fun _ => 0) 3 c)))) rfl rfl rfl rfl rfl rfl (by decide) (by decide) (by decide)
                exact ⟨c, ((h0.set 88 (.inr (.inr (3, [.ref 89, .int 1, .int c])))).set 89 (.inl (24, f0))), _, by
                    refine ⟨Nat.le_of_ble_eq_true rfl, ⟨_, _, rfl⟩, ?_⟩
                    refine RA.steps (i' := 2) (L' := [some (.ref 0), some (.int 3), some (.int 1), some (.int c), none]) (st' := [.int 3, .ref 0]) (h' := h0) 2 rfl ?_
                    refine RA.call0 (h1 := h0) (r1 := some (.ref 88)) rfl rfl rfl (Run.ex 4000 (Nat.le_of_ble_eq_true rfl) ⟨_, _, rfl⟩ rfl) ?_
                    refine RA.steps (i' := 9) (L' := [some (.ref 0), some (.int 3), some (.int 1), some (.int c), some (.ref 88)]) (st' := [.int 1, .int (-1), .int 1]) (h' := h0) 6 rfl ?_
                    refine RA.call0 (h1 := h0) (r1 := some (.int 1)) rfl rfl rfl (Run.ex 4000 (Nat.le_of_ble_eq_true rfl) ⟨_, _, rfl⟩ rfl) ?_
                    refine RA.steps (i' := 24) (L' := [some (.ref 0), some (.int 3), some (.int 1), some (.int c), some (.ref 88)]) (st' := [.int 24, .int c]) (h' := h0) 6 rfl ?_
                    refine RA.if2T rfl (decide_eq_true (Int32.not_lt.mp h21)) ?_
                    refine RA.steps (i' := 28) (L' := [some (.ref 0), some (.int 3), some (.int 1), some (.int c), some (.ref 88)]) (st' := [.int c]) (h' := h0) 1 rfl ?_
                    refine RA.if1T rfl (decide_eq_true (Int32.not_lt.mp h22)) ?_
                    refine RA.steps (i' := 34) (L' := [some (.ref 0), some (.int 3), some (.int 1), some (.int c), some (.ref 88)]) (st' := [.int c, .int 1, .ref 88]) (h' := h0) 3 rfl ?_
                    refine RA.call0 (h1 := ((h0.set 88 (.inr (.inr (3, [.ref 89, .int 1, .int c])))).set 89 (.inl (24, f0)))) (r1 := none) rfl rfl rfl (by
                      refine ⟨Nat.le_of_ble_eq_true rfl, ⟨_, _, rfl⟩, ?_⟩
                      refine RA.steps (i' := 9) (L' := [some (.ref 88), some (.int 1), some (.int c)]) (st' := [.int 0, .ref 89]) (h' := (h0.set 88 (.inr (.inr (3, [.ref 89, .int 1, .int c]))))) 9 rfl ?_
                      refine RA.call0 rfl rfl rfl hf0 ?_
                      exact RA.ret rfl rfl) ?_
                    refine RA.steps (i' := 36) (L' := [some (.ref 0), some (.int 3), some (.int 1), some (.int c), some (.ref 88)]) (st' := [.int c]) (h' := ((h0.set 88 (.inr (.inr (3, [.ref 89, .int 1, .int c])))).set 89 (.inl (24, f0)))) 1 rfl ?_
                    exact RA.ret rfl rfl, by
                    refine ⟨Nat.le_of_ble_eq_true rfl, ⟨_, _, rfl⟩, ?_⟩
                    refine RA.steps (i' := 1) (L' := [some (.ref 110), some (.int 3), some (.int 1), some (.int c), none]) (st' := [.int 3]) (h' := ((h0.set 88 (.inr (.inr (3, [.ref 89, .int 1, .int c])))).set 89 (.inl (24, f0)))) 1 rfl ?_
                    refine RA.call0 (h1 := ((h0.set 88 (.inr (.inr (3, [.ref 89, .int 1, .int c])))).set 89 (.inl (24, f0)))) (r1 := some (.int 1)) rfl rfl rfl (Run.ex 4000 (Nat.le_of_ble_eq_true rfl) ⟨_, _, rfl⟩ rfl) ?_
                    refine RA.steps (i' := 7) (L' := [some (.ref 110), some (.int 3), some (.int 1), some (.int c), none]) (st' := [.long 1, .long (-1), .long 1]) (h' := ((h0.set 88 (.inr (.inr (3, [.ref 89, .int 1, .int c])))).set 89 (.inl (24, f0)))) 5 rfl ?_
                    refine RA.call0 (h1 := ((h0.set 88 (.inr (.inr (3, [.ref 89, .int 1, .int c])))).set 89 (.inl (24, f0)))) (r1 := some (.int 1)) rfl rfl rfl (Run.ex 4000 (Nat.le_of_ble_eq_true rfl) ⟨_, _, rfl⟩ rfl) ?_
                    refine RA.steps (i' := 13) (L' := [some (.ref 110), some (.int 3), some (.int 1), some (.int c), none]) (st' := [.int 24, .int c]) (h' := ((h0.set 88 (.inr (.inr (3, [.ref 89, .int 1, .int c])))).set 89 (.inl (24, f0)))) 5 rfl ?_
                    refine RA.if2T rfl (decide_eq_true (Int32.not_lt.mp h21)) ?_
                    refine RA.steps (i' := 19) (L' := [some (.ref 110), some (.int 3), some (.int 1), some (.int c), none]) (st' := [.int c]) (h' := ((h0.set 88 (.inr (.inr (3, [.ref 89, .int 1, .int c])))).set 89 (.inl (24, f0)))) 3 rfl ?_
                    refine RA.if1T rfl (decide_eq_true (Int32.not_lt.mp h22)) ?_
                    refine RA.steps (i' := 38) (L' := [some (.ref 110), some (.int 3), some (.int 1), some (.int c), some (.int 0)]) (st' := []) (h' := ((((h0.set 88 (.inr (.inr (3, [.ref 89, .int 1, .int c])))).set 89 (.inl (24, f0))).set 114 (.inl (4, va_up (va_up (va_up (va_up (va_up (fun _ => 0) 0 (-1)) 1 (-1)) 2 (-1)) 3 (-1)) 3 1))).set 115 (.inl (4, va_up (fun _ => 0) 3 c)))) 14 rfl ?_
                    exact hs1⟩
        · exact ⟨(-1000000001), h0, _, by
              refine ⟨Nat.le_of_ble_eq_true rfl, ⟨_, _, rfl⟩, ?_⟩
              refine RA.steps (i' := 2) (L' := [some (.ref 0), some (.int 3), some (.int b), some (.int c), none]) (st' := [.int 3, .ref 0]) (h' := h0) 2 rfl ?_
              refine RA.call0 (h1 := h0) (r1 := some (.ref 88)) rfl rfl rfl (Run.ex 4000 (Nat.le_of_ble_eq_true rfl) ⟨_, _, rfl⟩ rfl) ?_
              refine RA.steps (i' := 9) (L' := [some (.ref 0), some (.int 3), some (.int b), some (.int c), some (.ref 88)]) (st' := [.int 1, .int (-1), .int b]) (h' := h0) 6 rfl ?_
              refine RA.call0 rfl rfl rfl (within_f (v := b) (lo := (-1)) (hi := 1) h18) ?_
              refine RA.steps (i' := 12) (L' := [some (.ref 0), some (.int 3), some (.int b), some (.int c), some (.ref 88)]) (st' := [.int (-1000000001)]) (h' := h0) 2 rfl ?_
              exact RA.ret rfl rfl, by
              refine ⟨Nat.le_of_ble_eq_true rfl, ⟨_, _, rfl⟩, ?_⟩
              refine RA.steps (i' := 1) (L' := [some (.ref 110), some (.int 3), some (.int b), some (.int c), none]) (st' := [.int 3]) (h' := h0) 1 rfl ?_
              refine RA.call0 (h1 := h0) (r1 := some (.int 1)) rfl rfl rfl (Run.ex 4000 (Nat.le_of_ble_eq_true rfl) ⟨_, _, rfl⟩ rfl) ?_
              refine RA.steps (i' := 7) (L' := [some (.ref 110), some (.int 3), some (.int b), some (.int c), none]) (st' := [.long 1, .long (-1), .long (b : Int32).toInt64]) (h' := h0) 5 rfl ?_
              refine RA.call0 rfl rfl rfl (isIn_f (v := b) (lo := (-1)) (hi := 1) h18) ?_
              refine RA.steps (i' := 15) (L' := [some (.ref 110), some (.int 3), some (.int b), some (.int c), none]) (st' := [.int (-1000000001)]) (h' := h0) 2 rfl ?_
              exact RA.ret rfl rfl⟩
    · exact ⟨(-1000000001), h0, _, by
          refine ⟨Nat.le_of_ble_eq_true rfl, ⟨_, _, rfl⟩, ?_⟩
          refine RA.steps (i' := 2) (L' := [some (.ref 0), some (.int a), some (.int b), some (.int c), none]) (st' := [.int a, .ref 0]) (h' := h0) 2 rfl ?_
          refine RA.call0 (h1 := h0) (r1 := some (.null)) rfl rfl rfl (by
            refine ⟨Nat.le_of_ble_eq_true rfl, ⟨_, _, rfl⟩, ?_⟩
            refine RA.steps (i' := 1) (L' := [some (.ref 0), some (.int a)]) (st' := [.int a]) (h' := h0) 1 rfl ?_
            refine RA.if1F rfl (decide_eq_false h1) ?_
            refine RA.steps (i' := 6) (L' := [some (.ref 0), some (.int a)]) (st' := [.int 4, .int a]) (h' := h0) 4 rfl ?_
            refine RA.if2T rfl (decide_eq_true (Int32.not_lt.mp h2)) ?_
            refine RA.steps (i' := 13) (L' := [some (.ref 0), some (.int a)]) (st' := [.null]) (h' := h0) 1 rfl ?_
            exact RA.ret rfl rfl) ?_
          refine RA.steps (i' := 12) (L' := [some (.ref 0), some (.int a), some (.int b), some (.int c), some (.null)]) (st' := [.int (-1000000001)]) (h' := h0) 4 rfl ?_
          exact RA.ret rfl rfl, by
          refine ⟨Nat.le_of_ble_eq_true rfl, ⟨_, _, rfl⟩, ?_⟩
          refine RA.steps (i' := 1) (L' := [some (.ref 110), some (.int a), some (.int b), some (.int c), none]) (st' := [.int a]) (h' := h0) 1 rfl ?_
          refine RA.call0 (h1 := h0) (r1 := some (.int 0)) rfl rfl rfl (by
            refine ⟨Nat.le_of_ble_eq_true rfl, ⟨_, _, rfl⟩, ?_⟩
            refine RA.steps (i' := 4) (L' := [some (.int a)]) (st' := [.long 3, .long 0, .long (a : Int32).toInt64]) (h' := h0) 4 rfl ?_
            refine RA.call0 rfl rfl rfl (isIn_f (v := a) (lo := 0) (hi := 3) (fun q => h2 (le_lt_4 q.2))) ?_
            exact RA.ret rfl rfl) ?_
          refine RA.steps (i' := 15) (L' := [some (.ref 110), some (.int a), some (.int b), some (.int c), none]) (st' := [.int (-1000000001)]) (h' := h0) 2 rfl ?_
          exact RA.ret rfl rfl⟩
