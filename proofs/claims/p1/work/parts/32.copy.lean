set_option maxRecDepth 100000 in
set_option maxHeartbeats 60000000 in
theorem q_copy (E : pX) (a b c d e : Int32) : ∃ (r : Int32) (h1 h2 : List pC), Run prog E pV0 40 mX7_copy [.ref 0, .int a, .int b, .int c, .int d, .int e] h0 (some (.int r), h1, 0, 0) ∧ Run prog E pV0 40 mX8_copy [.ref 110, .int a, .int b, .int c, .int d, .int e] h1 (some (.int r), h2, 0, 0) := by
  by_cases h1 : a < 0
  · by_cases h2 : c < 0
    · exact ⟨_, _, _, by
          refine ⟨Nat.le_of_ble_eq_true rfl, ⟨_, _, rfl⟩, ?_⟩
          refine RA.steps 2 rfl ?_
          refine RA.call0 rfl rfl rfl (by
            refine ⟨Nat.le_of_ble_eq_true rfl, ⟨_, _, rfl⟩, ?_⟩
            refine RA.steps 1 rfl ?_
            refine RA.if1T rfl (decide_eq_true h1) ?_
            refine RA.steps 1 rfl ?_
            exact RA.ret rfl rfl) ?_
          refine RA.steps 3 rfl ?_
          refine RA.call0 rfl rfl rfl (by
            refine ⟨Nat.le_of_ble_eq_true rfl, ⟨_, _, rfl⟩, ?_⟩
            refine RA.steps 1 rfl ?_
            refine RA.if1T rfl (decide_eq_true h2) ?_
            refine RA.steps 1 rfl ?_
            exact RA.ret rfl rfl) ?_
          refine RA.steps 4 rfl ?_
          exact RA.ret rfl rfl, by
          refine ⟨Nat.le_of_ble_eq_true rfl, ⟨_, _, rfl⟩, ?_⟩
          refine RA.steps 1 rfl ?_
          refine RA.call0 rfl rfl rfl (by
            refine ⟨Nat.le_of_ble_eq_true rfl, ⟨_, _, rfl⟩, ?_⟩
            refine RA.steps 4 rfl ?_
            refine RA.call0 rfl rfl rfl (isIn_f (v := a) (lo := 0) (hi := 3) (fun q => absurd h1 (Int32.not_lt.mpr q.1))) ?_
            exact RA.ret rfl rfl) ?_
          refine RA.steps 2 rfl ?_
          exact RA.ret rfl rfl⟩
    · by_cases h3 : c < 4
      · rcases cases_0_3 (in_lt_4 h2 h3) with rfl | rfl | rfl | rfl
        · exact ⟨_, _, _, by
              refine ⟨Nat.le_of_ble_eq_true rfl, ⟨_, _, rfl⟩, ?_⟩
              refine RA.steps 2 rfl ?_
              refine RA.call0 rfl rfl rfl (by
                refine ⟨Nat.le_of_ble_eq_true rfl, ⟨_, _, rfl⟩, ?_⟩
                refine RA.steps 1 rfl ?_
                refine RA.if1T rfl (decide_eq_true h1) ?_
                refine RA.steps 1 rfl ?_
                exact RA.ret rfl rfl) ?_
              refine RA.steps 3 rfl ?_
              refine RA.call0 rfl rfl rfl (Run.ex 4000 (Nat.le_of_ble_eq_true rfl) ⟨_, _, rfl⟩ rfl) ?_
              refine RA.steps 4 rfl ?_
              exact RA.ret rfl rfl, by
              refine ⟨Nat.le_of_ble_eq_true rfl, ⟨_, _, rfl⟩, ?_⟩
              refine RA.steps 1 rfl ?_
              refine RA.call0 rfl rfl rfl (by
                refine ⟨Nat.le_of_ble_eq_true rfl, ⟨_, _, rfl⟩, ?_⟩
                refine RA.steps 4 rfl ?_
                refine RA.call0 rfl rfl rfl (isIn_f (v := a) (lo := 0) (hi := 3) (fun q => absurd h1 (Int32.not_lt.mpr q.1))) ?_
                exact RA.ret rfl rfl) ?_
              refine RA.steps 2 rfl ?_
              exact RA.ret rfl rfl⟩
        · exact ⟨_, _, _, by
              refine ⟨Nat.le_of_ble_eq_true rfl, ⟨_, _, rfl⟩, ?_⟩
              refine RA.steps 2 rfl ?_
              refine RA.call0 rfl rfl rfl (by
                refine ⟨Nat.le_of_ble_eq_true rfl, ⟨_, _, rfl⟩, ?_⟩
                refine RA.steps 1 rfl ?_
                refine RA.if1T rfl (decide_eq_true h1) ?_
                refine RA.steps 1 rfl ?_
                exact RA.ret rfl rfl) ?_
              refine RA.steps 3 rfl ?_
              refine RA.call0 rfl rfl rfl (Run.ex 4000 (Nat.le_of_ble_eq_true rfl) ⟨_, _, rfl⟩ rfl) ?_
              refine RA.steps 4 rfl ?_
              exact RA.ret rfl rfl, by
              refine ⟨Nat.le_of_ble_eq_true rfl, ⟨_, _, rfl⟩, ?_⟩
              refine RA.steps 1 rfl ?_
              refine RA.call0 rfl rfl rfl (by
                refine ⟨Nat.le_of_ble_eq_true rfl, ⟨_, _, rfl⟩, ?_⟩
                refine RA.steps 4 rfl ?_
                refine RA.call0 rfl rfl rfl (isIn_f (v := a) (lo := 0) (hi := 3) (fun q => absurd h1 (Int32.not_lt.mpr q.1))) ?_
                exact RA.ret rfl rfl) ?_
              refine RA.steps 2 rfl ?_
              exact RA.ret rfl rfl⟩
        · exact ⟨_, _, _, by
              refine ⟨Nat.le_of_ble_eq_true rfl, ⟨_, _, rfl⟩, ?_⟩
              refine RA.steps 2 rfl ?_
              refine RA.call0 rfl rfl rfl (by
                refine ⟨Nat.le_of_ble_eq_true rfl, ⟨_, _, rfl⟩, ?_⟩
                refine RA.steps 1 rfl ?_
                refine RA.if1T rfl (decide_eq_true h1) ?_
                refine RA.steps 1 rfl ?_
                exact RA.ret rfl rfl) ?_
              refine RA.steps 3 rfl ?_
              refine RA.call0 rfl rfl rfl (Run.ex 4000 (Nat.le_of_ble_eq_true rfl) ⟨_, _, rfl⟩ rfl) ?_
              refine RA.steps 4 rfl ?_
              exact RA.ret rfl rfl, by
              refine ⟨Nat.le_of_ble_eq_true rfl, ⟨_, _, rfl⟩, ?_⟩
              refine RA.steps 1 rfl ?_
              refine RA.call0 rfl rfl rfl (by
                refine ⟨Nat.le_of_ble_eq_true rfl, ⟨_, _, rfl⟩, ?_⟩
                refine RA.steps 4 rfl ?_
                refine RA.call0 rfl rfl rfl (isIn_f (v := a) (lo := 0) (hi := 3) (fun q => absurd h1 (Int32.not_lt.mpr q.1))) ?_
                exact RA.ret rfl rfl) ?_
              refine RA.steps 2 rfl ?_
              exact RA.ret rfl rfl⟩
        · exact ⟨_, _, _, by
              refine ⟨Nat.le_of_ble_eq_true rfl, ⟨_, _, rfl⟩, ?_⟩
              refine RA.steps 2 rfl ?_
              refine RA.call0 rfl rfl rfl (by
                refine ⟨Nat.le_of_ble_eq_true rfl, ⟨_, _, rfl⟩, ?_⟩
                refine RA.steps 1 rfl ?_
                refine RA.if1T rfl (decide_eq_true h1) ?_
                refine RA.steps 1 rfl ?_
                exact RA.ret rfl rfl) ?_
              refine RA.steps 3 rfl ?_
              refine RA.call0 rfl rfl rfl (Run.ex 4000 (Nat.le_of_ble_eq_true rfl) ⟨_, _, rfl⟩ rfl) ?_
              refine RA.steps 4 rfl ?_
              exact RA.ret rfl rfl, by
              refine ⟨Nat.le_of_ble_eq_true rfl, ⟨_, _, rfl⟩, ?_⟩
              refine RA.steps 1 rfl ?_
              refine RA.call0 rfl rfl rfl (by
                refine ⟨Nat.le_of_ble_eq_true rfl, ⟨_, _, rfl⟩, ?_⟩
                refine RA.steps 4 rfl ?_
                refine RA.call0 rfl rfl rfl (isIn_f (v := a) (lo := 0) (hi := 3) (fun q => absurd h1 (Int32.not_lt.mpr q.1))) ?_
                exact RA.ret rfl rfl) ?_
              refine RA.steps 2 rfl ?_
              exact RA.ret rfl rfl⟩
      · exact ⟨_, _, _, by
            refine ⟨Nat.le_of_ble_eq_true rfl, ⟨_, _, rfl⟩, ?_⟩
            refine RA.steps 2 rfl ?_
            refine RA.call0 rfl rfl rfl (by
              refine ⟨Nat.le_of_ble_eq_true rfl, ⟨_, _, rfl⟩, ?_⟩
              refine RA.steps 1 rfl ?_
              refine RA.if1T rfl (decide_eq_true h1) ?_
              refine RA.steps 1 rfl ?_
              exact RA.ret rfl rfl) ?_
            refine RA.steps 3 rfl ?_
            refine RA.call0 rfl rfl rfl (by
              refine ⟨Nat.le_of_ble_eq_true rfl, ⟨_, _, rfl⟩, ?_⟩
              refine RA.steps 1 rfl ?_
              refine RA.if1F rfl (decide_eq_false h2) ?_
              refine RA.steps 4 rfl ?_
              refine RA.if2T rfl (decide_eq_true (Int32.not_lt.mp h3)) ?_
              refine RA.steps 1 rfl ?_
              exact RA.ret rfl rfl) ?_
            refine RA.steps 4 rfl ?_
            exact RA.ret rfl rfl, by
            refine ⟨Nat.le_of_ble_eq_true rfl, ⟨_, _, rfl⟩, ?_⟩
            refine RA.steps 1 rfl ?_
            refine RA.call0 rfl rfl rfl (by
              refine ⟨Nat.le_of_ble_eq_true rfl, ⟨_, _, rfl⟩, ?_⟩
              refine RA.steps 4 rfl ?_
              refine RA.call0 rfl rfl rfl (isIn_f (v := a) (lo := 0) (hi := 3) (fun q => absurd h1 (Int32.not_lt.mpr q.1))) ?_
              exact RA.ret rfl rfl) ?_
            refine RA.steps 2 rfl ?_
            exact RA.ret rfl rfl⟩
  · by_cases h4 : a < 4
    · rcases cases_0_3 (in_lt_4 h1 h4) with rfl | rfl | rfl | rfl
      · by_cases h5 : c < 0
        · exact ⟨_, _, _, by
              refine ⟨Nat.le_of_ble_eq_true rfl, ⟨_, _, rfl⟩, ?_⟩
              refine RA.steps 2 rfl ?_
              refine RA.call0 rfl rfl rfl (Run.ex 4000 (Nat.le_of_ble_eq_true rfl) ⟨_, _, rfl⟩ rfl) ?_
              refine RA.steps 3 rfl ?_
              refine RA.call0 rfl rfl rfl (by
                refine ⟨Nat.le_of_ble_eq_true rfl, ⟨_, _, rfl⟩, ?_⟩
                refine RA.steps 1 rfl ?_
                refine RA.if1T rfl (decide_eq_true h5) ?_
                refine RA.steps 1 rfl ?_
                exact RA.ret rfl rfl) ?_
              refine RA.steps 6 rfl ?_
              exact RA.ret rfl rfl, by
              refine ⟨Nat.le_of_ble_eq_true rfl, ⟨_, _, rfl⟩, ?_⟩
              refine RA.steps 1 rfl ?_
              refine RA.call0 rfl rfl rfl (Run.ex 4000 (Nat.le_of_ble_eq_true rfl) ⟨_, _, rfl⟩ rfl) ?_
              refine RA.steps 2 rfl ?_
              refine RA.call0 rfl rfl rfl (by
                refine ⟨Nat.le_of_ble_eq_true rfl, ⟨_, _, rfl⟩, ?_⟩
                refine RA.steps 4 rfl ?_
                refine RA.call0 rfl rfl rfl (isIn_f (v := c) (lo := 0) (hi := 3) (fun q => absurd h5 (Int32.not_lt.mpr q.1))) ?_
                exact RA.ret rfl rfl) ?_
              refine RA.steps 2 rfl ?_
              exact RA.ret rfl rfl⟩
        · by_cases h6 : c < 4
          · rcases cases_0_3 (in_lt_4 h5 h6) with rfl | rfl | rfl | rfl
            · exact ⟨_, _, _, by
                  exact Run.ex 4000 (Nat.le_of_ble_eq_true rfl) ⟨_, _, rfl⟩ rfl, by
                  exact Run.ex 4000 (Nat.le_of_ble_eq_true rfl) ⟨_, _, rfl⟩ rfl⟩
            · exact ⟨_, _, _, by
                  exact Run.ex 4000 (Nat.le_of_ble_eq_true rfl) ⟨_, _, rfl⟩ rfl, by
                  exact Run.ex 4000 (Nat.le_of_ble_eq_true rfl) ⟨_, _, rfl⟩ rfl⟩
            · exact ⟨_, _, _, by
                  exact Run.ex 4000 (Nat.le_of_ble_eq_true rfl) ⟨_, _, rfl⟩ rfl, by
                  exact Run.ex 4000 (Nat.le_of_ble_eq_true rfl) ⟨_, _, rfl⟩ rfl⟩
            · exact ⟨_, _, _, by
                  exact Run.ex 4000 (Nat.le_of_ble_eq_true rfl) ⟨_, _, rfl⟩ rfl, by
                  exact Run.ex 4000 (Nat.le_of_ble_eq_true rfl) ⟨_, _, rfl⟩ rfl⟩
          · exact ⟨_, _, _, by
                refine ⟨Nat.le_of_ble_eq_true rfl, ⟨_, _, rfl⟩, ?_⟩
                refine RA.steps 2 rfl ?_
                refine RA.call0 rfl rfl rfl (Run.ex 4000 (Nat.le_of_ble_eq_true rfl) ⟨_, _, rfl⟩ rfl) ?_
                refine RA.steps 3 rfl ?_
                refine RA.call0 rfl rfl rfl (by
                  refine ⟨Nat.le_of_ble_eq_true rfl, ⟨_, _, rfl⟩, ?_⟩
                  refine RA.steps 1 rfl ?_
                  refine RA.if1F rfl (decide_eq_false h5) ?_
                  refine RA.steps 4 rfl ?_
                  refine RA.if2T rfl (decide_eq_true (Int32.not_lt.mp h6)) ?_
                  refine RA.steps 1 rfl ?_
                  exact RA.ret rfl rfl) ?_
                refine RA.steps 6 rfl ?_
                exact RA.ret rfl rfl, by
                refine ⟨Nat.le_of_ble_eq_true rfl, ⟨_, _, rfl⟩, ?_⟩
                refine RA.steps 1 rfl ?_
                refine RA.call0 rfl rfl rfl (Run.ex 4000 (Nat.le_of_ble_eq_true rfl) ⟨_, _, rfl⟩ rfl) ?_
                refine RA.steps 2 rfl ?_
                refine RA.call0 rfl rfl rfl (by
                  refine ⟨Nat.le_of_ble_eq_true rfl, ⟨_, _, rfl⟩, ?_⟩
                  refine RA.steps 4 rfl ?_
                  refine RA.call0 rfl rfl rfl (isIn_f (v := c) (lo := 0) (hi := 3) (fun q => h6 (le_lt_4 q.2))) ?_
                  exact RA.ret rfl rfl) ?_
                refine RA.steps 2 rfl ?_
                exact RA.ret rfl rfl⟩
      · by_cases h7 : c < 0
        · exact ⟨_, _, _, by
              refine ⟨Nat.le_of_ble_eq_true rfl, ⟨_, _, rfl⟩, ?_⟩
              refine RA.steps 2 rfl ?_
              refine RA.call0 rfl rfl rfl (Run.ex 4000 (Nat.le_of_ble_eq_true rfl) ⟨_, _, rfl⟩ rfl) ?_
              refine RA.steps 3 rfl ?_
              refine RA.call0 rfl rfl rfl (by
                refine ⟨Nat.le_of_ble_eq_true rfl, ⟨_, _, rfl⟩, ?_⟩
                refine RA.steps 1 rfl ?_
                refine RA.if1T rfl (decide_eq_true h7) ?_
                refine RA.steps 1 rfl ?_
                exact RA.ret rfl rfl) ?_
              refine RA.steps 6 rfl ?_
              exact RA.ret rfl rfl, by
              refine ⟨Nat.le_of_ble_eq_true rfl, ⟨_, _, rfl⟩, ?_⟩
              refine RA.steps 1 rfl ?_
              refine RA.call0 rfl rfl rfl (Run.ex 4000 (Nat.le_of_ble_eq_true rfl) ⟨_, _, rfl⟩ rfl) ?_
              refine RA.steps 2 rfl ?_
              refine RA.call0 rfl rfl rfl (by
                refine ⟨Nat.le_of_ble_eq_true rfl, ⟨_, _, rfl⟩, ?_⟩
                refine RA.steps 4 rfl ?_
                refine RA.call0 rfl rfl rfl (isIn_f (v := c) (lo := 0) (hi := 3) (fun q => absurd h7 (Int32.not_lt.mpr q.1))) ?_
                exact RA.ret rfl rfl) ?_
              refine RA.steps 2 rfl ?_
              exact RA.ret rfl rfl⟩
        · by_cases h8 : c < 4
          · rcases cases_0_3 (in_lt_4 h7 h8) with rfl | rfl | rfl | rfl
            · exact ⟨_, _, _, by
                  exact Run.ex 4000 (Nat.le_of_ble_eq_true rfl) ⟨_, _, rfl⟩ rfl, by
                  exact Run.ex 4000 (Nat.le_of_ble_eq_true rfl) ⟨_, _, rfl⟩ rfl⟩
            · exact ⟨_, _, _, by
                  exact Run.ex 4000 (Nat.le_of_ble_eq_true rfl) ⟨_, _, rfl⟩ rfl, by
                  exact Run.ex 4000 (Nat.le_of_ble_eq_true rfl) ⟨_, _, rfl⟩ rfl⟩
            · exact ⟨_, _, _, by
                  exact Run.ex 4000 (Nat.le_of_ble_eq_true rfl) ⟨_, _, rfl⟩ rfl, by
                  exact Run.ex 4000 (Nat.le_of_ble_eq_true rfl) ⟨_, _, rfl⟩ rfl⟩
            · exact ⟨_, _, _, by
                  exact Run.ex 4000 (Nat.le_of_ble_eq_true rfl) ⟨_, _, rfl⟩ rfl, by
                  exact Run.ex 4000 (Nat.le_of_ble_eq_true rfl) ⟨_, _, rfl⟩ rfl⟩
          · exact ⟨_, _, _, by
                refine ⟨Nat.le_of_ble_eq_true rfl, ⟨_, _, rfl⟩, ?_⟩
                refine RA.steps 2 rfl ?_
                refine RA.call0 rfl rfl rfl (Run.ex 4000 (Nat.le_of_ble_eq_true rfl) ⟨_, _, rfl⟩ rfl) ?_
                refine RA.steps 3 rfl ?_
                refine RA.call0 rfl rfl rfl (by
                  refine ⟨Nat.le_of_ble_eq_true rfl, ⟨_, _, rfl⟩, ?_⟩
                  refine RA.steps 1 rfl ?_
                  refine RA.if1F rfl (decide_eq_false h7) ?_
                  refine RA.steps 4 rfl ?_
                  refine RA.if2T rfl (decide_eq_true (Int32.not_lt.mp h8)) ?_
                  refine RA.steps 1 rfl ?_
                  exact RA.ret rfl rfl) ?_
                refine RA.steps 6 rfl ?_
                exact RA.ret rfl rfl, by
                refine ⟨Nat.le_of_ble_eq_true rfl, ⟨_, _, rfl⟩, ?_⟩
                refine RA.steps 1 rfl ?_
                refine RA.call0 rfl rfl rfl (Run.ex 4000 (Nat.le_of_ble_eq_true rfl) ⟨_, _, rfl⟩ rfl) ?_
                refine RA.steps 2 rfl ?_
                refine RA.call0 rfl rfl rfl (by
                  refine ⟨Nat.le_of_ble_eq_true rfl, ⟨_, _, rfl⟩, ?_⟩
                  refine RA.steps 4 rfl ?_
                  refine RA.call0 rfl rfl rfl (isIn_f (v := c) (lo := 0) (hi := 3) (fun q => h8 (le_lt_4 q.2))) ?_
                  exact RA.ret rfl rfl) ?_
                refine RA.steps 2 rfl ?_
                exact RA.ret rfl rfl⟩
      · by_cases h9 : c < 0
        · exact ⟨_, _, _, by
              refine ⟨Nat.le_of_ble_eq_true rfl, ⟨_, _, rfl⟩, ?_⟩
              refine RA.steps 2 rfl ?_
              refine RA.call0 rfl rfl rfl (Run.ex 4000 (Nat.le_of_ble_eq_true rfl) ⟨_, _, rfl⟩ rfl) ?_
              refine RA.steps 3 rfl ?_
              refine RA.call0 rfl rfl rfl (by
                refine ⟨Nat.le_of_ble_eq_true rfl, ⟨_, _, rfl⟩, ?_⟩
                refine RA.steps 1 rfl ?_
                refine RA.if1T rfl (decide_eq_true h9) ?_
                refine RA.steps 1 rfl ?_
                exact RA.ret rfl rfl) ?_
              refine RA.steps 6 rfl ?_
              exact RA.ret rfl rfl, by
              refine ⟨Nat.le_of_ble_eq_true rfl, ⟨_, _, rfl⟩, ?_⟩
              refine RA.steps 1 rfl ?_
              refine RA.call0 rfl rfl rfl (Run.ex 4000 (Nat.le_of_ble_eq_true rfl) ⟨_, _, rfl⟩ rfl) ?_
              refine RA.steps 2 rfl ?_
              refine RA.call0 rfl rfl rfl (by
                refine ⟨Nat.le_of_ble_eq_true rfl, ⟨_, _, rfl⟩, ?_⟩
                refine RA.steps 4 rfl ?_
                refine RA.call0 rfl rfl rfl (isIn_f (v := c) (lo := 0) (hi := 3) (fun q => absurd h9 (Int32.not_lt.mpr q.1))) ?_
                exact RA.ret rfl rfl) ?_
              refine RA.steps 2 rfl ?_
              exact RA.ret rfl rfl⟩
        · by_cases h10 : c < 4
          · rcases cases_0_3 (in_lt_4 h9 h10) with rfl | rfl | rfl | rfl
            · exact ⟨_, _, _, by
                  exact Run.ex 4000 (Nat.le_of_ble_eq_true rfl) ⟨_, _, rfl⟩ rfl, by
                  exact Run.ex 4000 (Nat.le_of_ble_eq_true rfl) ⟨_, _, rfl⟩ rfl⟩
            · exact ⟨_, _, _, by
                  exact Run.ex 4000 (Nat.le_of_ble_eq_true rfl) ⟨_, _, rfl⟩ rfl, by
                  exact Run.ex 4000 (Nat.le_of_ble_eq_true rfl) ⟨_, _, rfl⟩ rfl⟩
            · exact ⟨_, _, _, by
                  exact Run.ex 4000 (Nat.le_of_ble_eq_true rfl) ⟨_, _, rfl⟩ rfl, by
                  exact Run.ex 4000 (Nat.le_of_ble_eq_true rfl) ⟨_, _, rfl⟩ rfl⟩
            · exact ⟨_, _, _, by
                  exact Run.ex 4000 (Nat.le_of_ble_eq_true rfl) ⟨_, _, rfl⟩ rfl, by
                  exact Run.ex 4000 (Nat.le_of_ble_eq_true rfl) ⟨_, _, rfl⟩ rfl⟩
          · exact ⟨_, _, _, by
                refine ⟨Nat.le_of_ble_eq_true rfl, ⟨_, _, rfl⟩, ?_⟩
                refine RA.steps 2 rfl ?_
                refine RA.call0 rfl rfl rfl (Run.ex 4000 (Nat.le_of_ble_eq_true rfl) ⟨_, _, rfl⟩ rfl) ?_
                refine RA.steps 3 rfl ?_
                refine RA.call0 rfl rfl rfl (by
                  refine ⟨Nat.le_of_ble_eq_true rfl, ⟨_, _, rfl⟩, ?_⟩
                  refine RA.steps 1 rfl ?_
                  refine RA.if1F rfl (decide_eq_false h9) ?_
                  refine RA.steps 4 rfl ?_
                  refine RA.if2T rfl (decide_eq_true (Int32.not_lt.mp h10)) ?_
                  refine RA.steps 1 rfl ?_
                  exact RA.ret rfl rfl) ?_
                refine RA.steps 6 rfl ?_
                exact RA.ret rfl rfl, by
                refine ⟨Nat.le_of_ble_eq_true rfl, ⟨_, _, rfl⟩, ?_⟩
                refine RA.steps 1 rfl ?_
                refine RA.call0 rfl rfl rfl (Run.ex 4000 (Nat.le_of_ble_eq_true rfl) ⟨_, _, rfl⟩ rfl) ?_
                refine RA.steps 2 rfl ?_
                refine RA.call0 rfl rfl rfl (by
                  refine ⟨Nat.le_of_ble_eq_true rfl, ⟨_, _, rfl⟩, ?_⟩
                  refine RA.steps 4 rfl ?_
                  refine RA.call0 rfl rfl rfl (isIn_f (v := c) (lo := 0) (hi := 3) (fun q => h10 (le_lt_4 q.2))) ?_
                  exact RA.ret rfl rfl) ?_
                refine RA.steps 2 rfl ?_
                exact RA.ret rfl rfl⟩
      · by_cases h11 : c < 0
        · exact ⟨_, _, _, by
              refine ⟨Nat.le_of_ble_eq_true rfl, ⟨_, _, rfl⟩, ?_⟩
              refine RA.steps 2 rfl ?_
              refine RA.call0 rfl rfl rfl (Run.ex 4000 (Nat.le_of_ble_eq_true rfl) ⟨_, _, rfl⟩ rfl) ?_
              refine RA.steps 3 rfl ?_
              refine RA.call0 rfl rfl rfl (by
                refine ⟨Nat.le_of_ble_eq_true rfl, ⟨_, _, rfl⟩, ?_⟩
                refine RA.steps 1 rfl ?_
                refine RA.if1T rfl (decide_eq_true h11) ?_
                refine RA.steps 1 rfl ?_
                exact RA.ret rfl rfl) ?_
              refine RA.steps 6 rfl ?_
              exact RA.ret rfl rfl, by
              refine ⟨Nat.le_of_ble_eq_true rfl, ⟨_, _, rfl⟩, ?_⟩
              refine RA.steps 1 rfl ?_
              refine RA.call0 rfl rfl rfl (Run.ex 4000 (Nat.le_of_ble_eq_true rfl) ⟨_, _, rfl⟩ rfl) ?_
              refine RA.steps 2 rfl ?_
              refine RA.call0 rfl rfl rfl (by
                refine ⟨Nat.le_of_ble_eq_true rfl, ⟨_, _, rfl⟩, ?_⟩
                refine RA.steps 4 rfl ?_
                refine RA.call0 rfl rfl rfl (isIn_f (v := c) (lo := 0) (hi := 3) (fun q => absurd h11 (Int32.not_lt.mpr q.1))) ?_
                exact RA.ret rfl rfl) ?_
              refine RA.steps 2 rfl ?_
              exact RA.ret rfl rfl⟩
        · by_cases h12 : c < 4
          · rcases cases_0_3 (in_lt_4 h11 h12) with rfl | rfl | rfl | rfl
            · exact ⟨_, _, _, by
                  exact Run.ex 4000 (Nat.le_of_ble_eq_true rfl) ⟨_, _, rfl⟩ rfl, by
                  exact Run.ex 4000 (Nat.le_of_ble_eq_true rfl) ⟨_, _, rfl⟩ rfl⟩
            · exact ⟨_, _, _, by
                  exact Run.ex 4000 (Nat.le_of_ble_eq_true rfl) ⟨_, _, rfl⟩ rfl, by
                  exact Run.ex 4000 (Nat.le_of_ble_eq_true rfl) ⟨_, _, rfl⟩ rfl⟩
            · exact ⟨_, _, _, by
                  exact Run.ex 4000 (Nat.le_of_ble_eq_true rfl) ⟨_, _, rfl⟩ rfl, by
                  exact Run.ex 4000 (Nat.le_of_ble_eq_true rfl) ⟨_, _, rfl⟩ rfl⟩
            · exact ⟨_, _, _, by
                  exact Run.ex 4000 (Nat.le_of_ble_eq_true rfl) ⟨_, _, rfl⟩ rfl, by
                  exact Run.ex 4000 (Nat.le_of_ble_eq_true rfl) ⟨_, _, rfl⟩ rfl⟩
          · exact ⟨_, _, _, by
                refine ⟨Nat.le_of_ble_eq_true rfl, ⟨_, _, rfl⟩, ?_⟩
                refine RA.steps 2 rfl ?_
                refine RA.call0 rfl rfl rfl (Run.ex 4000 (Nat.le_of_ble_eq_true rfl) ⟨_, _, rfl⟩ rfl) ?_
                refine RA.steps 3 rfl ?_
                refine RA.call0 rfl rfl rfl (by
                  refine ⟨Nat.le_of_ble_eq_true rfl, ⟨_, _, rfl⟩, ?_⟩
                  refine RA.steps 1 rfl ?_
                  refine RA.if1F rfl (decide_eq_false h11) ?_
                  refine RA.steps 4 rfl ?_
                  refine RA.if2T rfl (decide_eq_true (Int32.not_lt.mp h12)) ?_
                  refine RA.steps 1 rfl ?_
                  exact RA.ret rfl rfl) ?_
                refine RA.steps 6 rfl ?_
                exact RA.ret rfl rfl, by
                refine ⟨Nat.le_of_ble_eq_true rfl, ⟨_, _, rfl⟩, ?_⟩
                refine RA.steps 1 rfl ?_
                refine RA.call0 rfl rfl rfl (Run.ex 4000 (Nat.le_of_ble_eq_true rfl) ⟨_, _, rfl⟩ rfl) ?_
                refine RA.steps 2 rfl ?_
                refine RA.call0 rfl rfl rfl (by
                  refine ⟨Nat.le_of_ble_eq_true rfl, ⟨_, _, rfl⟩, ?_⟩
                  refine RA.steps 4 rfl ?_
                  refine RA.call0 rfl rfl rfl (isIn_f (v := c) (lo := 0) (hi := 3) (fun q => h12 (le_lt_4 q.2))) ?_
                  exact RA.ret rfl rfl) ?_
                refine RA.steps 2 rfl ?_
                exact RA.ret rfl rfl⟩
    · by_cases h13 : c < 0
      · exact ⟨_, _, _, by
            refine ⟨Nat.le_of_ble_eq_true rfl, ⟨_, _, rfl⟩, ?_⟩
            refine RA.steps 2 rfl ?_
            refine RA.call0 rfl rfl rfl (by
              refine ⟨Nat.le_of_ble_eq_true rfl, ⟨_, _, rfl⟩, ?_⟩
              refine RA.steps 1 rfl ?_
              refine RA.if1F rfl (decide_eq_false h1) ?_
              refine RA.steps 4 rfl ?_
              refine RA.if2T rfl (decide_eq_true (Int32.not_lt.mp h4)) ?_
              refine RA.steps 1 rfl ?_
              exact RA.ret rfl rfl) ?_
            refine RA.steps 3 rfl ?_
            refine RA.call0 rfl rfl rfl (by
              refine ⟨Nat.le_of_ble_eq_true rfl, ⟨_, _, rfl⟩, ?_⟩
              refine RA.steps 1 rfl ?_
              refine RA.if1T rfl (decide_eq_true h13) ?_
              refine RA.steps 1 rfl ?_
              exact RA.ret rfl rfl) ?_
            refine RA.steps 4 rfl ?_
            exact RA.ret rfl rfl, by
            refine ⟨Nat.le_of_ble_eq_true rfl, ⟨_, _, rfl⟩, ?_⟩
            refine RA.steps 1 rfl ?_
            refine RA.call0 rfl rfl rfl (by
              refine ⟨Nat.le_of_ble_eq_true rfl, ⟨_, _, rfl⟩, ?_⟩
              refine RA.steps 4 rfl ?_
              refine RA.call0 rfl rfl rfl (isIn_f (v := a) (lo := 0) (hi := 3) (fun q => h4 (le_lt_4 q.2))) ?_
              exact RA.ret rfl rfl) ?_
            refine RA.steps 2 rfl ?_
            exact RA.ret rfl rfl⟩
      · by_cases h14 : c < 4
        · rcases cases_0_3 (in_lt_4 h13 h14) with rfl | rfl | rfl | rfl
          · exact ⟨_, _, _, by
                refine ⟨Nat.le_of_ble_eq_true rfl, ⟨_, _, rfl⟩, ?_⟩
                refine RA.steps 2 rfl ?_
                refine RA.call0 rfl rfl rfl (by
                  refine ⟨Nat.le_of_ble_eq_true rfl, ⟨_, _, rfl⟩, ?_⟩
                  refine RA.steps 1 rfl ?_
                  refine RA.if1F rfl (decide_eq_false h1) ?_
                  refine RA.steps 4 rfl ?_
                  refine RA.if2T rfl (decide_eq_true (Int32.not_lt.mp h4)) ?_
                  refine RA.steps 1 rfl ?_
                  exact RA.ret rfl rfl) ?_
                refine RA.steps 3 rfl ?_
                refine RA.call0 rfl rfl rfl (Run.ex 4000 (Nat.le_of_ble_eq_true rfl) ⟨_, _, rfl⟩ rfl) ?_
                refine RA.steps 4 rfl ?_
                exact RA.ret rfl rfl, by
                refine ⟨Nat.le_of_ble_eq_true rfl, ⟨_, _, rfl⟩, ?_⟩
                refine RA.steps 1 rfl ?_
                refine RA.call0 rfl rfl rfl (by
                  refine ⟨Nat.le_of_ble_eq_true rfl, ⟨_, _, rfl⟩, ?_⟩
                  refine RA.steps 4 rfl ?_
                  refine RA.call0 rfl rfl rfl (isIn_f (v := a) (lo := 0) (hi := 3) (fun q => h4 (le_lt_4 q.2))) ?_
                  exact RA.ret rfl rfl) ?_
                refine RA.steps 2 rfl ?_
                exact RA.ret rfl rfl⟩
          · exact ⟨_, _, _, by
                refine ⟨Nat.le_of_ble_eq_true rfl, ⟨_, _, rfl⟩, ?_⟩
                refine RA.steps 2 rfl ?_
                refine RA.call0 rfl rfl rfl (by
                  refine ⟨Nat.le_of_ble_eq_true rfl, ⟨_, _, rfl⟩, ?_⟩
                  refine RA.steps 1 rfl ?_
                  refine RA.if1F rfl (decide_eq_false h1) ?_
                  refine RA.steps 4 rfl ?_
                  refine RA.if2T rfl (decide_eq_true (Int32.not_lt.mp h4)) ?_
                  refine RA.steps 1 rfl ?_
                  exact RA.ret rfl rfl) ?_
                refine RA.steps 3 rfl ?_
                refine RA.call0 rfl rfl rfl (Run.ex 4000 (Nat.le_of_ble_eq_true rfl) ⟨_, _, rfl⟩ rfl) ?_
                refine RA.steps 4 rfl ?_
                exact RA.ret rfl rfl, by
                refine ⟨Nat.le_of_ble_eq_true rfl, ⟨_, _, rfl⟩, ?_⟩
                refine RA.steps 1 rfl ?_
                refine RA.call0 rfl rfl rfl (by
                  refine ⟨Nat.le_of_ble_eq_true rfl, ⟨_, _, rfl⟩, ?_⟩
                  refine RA.steps 4 rfl ?_
                  refine RA.call0 rfl rfl rfl (isIn_f (v := a) (lo := 0) (hi := 3) (fun q => h4 (le_lt_4 q.2))) ?_
                  exact RA.ret rfl rfl) ?_
                refine RA.steps 2 rfl ?_
                exact RA.ret rfl rfl⟩
          · exact ⟨_, _, _, by
                refine ⟨Nat.le_of_ble_eq_true rfl, ⟨_, _, rfl⟩, ?_⟩
                refine RA.steps 2 rfl ?_
                refine RA.call0 rfl rfl rfl (by
                  refine ⟨Nat.le_of_ble_eq_true rfl, ⟨_, _, rfl⟩, ?_⟩
                  refine RA.steps 1 rfl ?_
                  refine RA.if1F rfl (decide_eq_false h1) ?_
                  refine RA.steps 4 rfl ?_
                  refine RA.if2T rfl (decide_eq_true (Int32.not_lt.mp h4)) ?_
                  refine RA.steps 1 rfl ?_
                  exact RA.ret rfl rfl) ?_
                refine RA.steps 3 rfl ?_
                refine RA.call0 rfl rfl rfl (Run.ex 4000 (Nat.le_of_ble_eq_true rfl) ⟨_, _, rfl⟩ rfl) ?_
                refine RA.steps 4 rfl ?_
                exact RA.ret rfl rfl, by
                refine ⟨Nat.le_of_ble_eq_true rfl, ⟨_, _, rfl⟩, ?_⟩
                refine RA.steps 1 rfl ?_
                refine RA.call0 rfl rfl rfl (by
                  refine ⟨Nat.le_of_ble_eq_true rfl, ⟨_, _, rfl⟩, ?_⟩
                  refine RA.steps 4 rfl ?_
                  refine RA.call0 rfl rfl rfl (isIn_f (v := a) (lo := 0) (hi := 3) (fun q => h4 (le_lt_4 q.2))) ?_
                  exact RA.ret rfl rfl) ?_
                refine RA.steps 2 rfl ?_
                exact RA.ret rfl rfl⟩
          · exact ⟨_, _, _, by
                refine ⟨Nat.le_of_ble_eq_true rfl, ⟨_, _, rfl⟩, ?_⟩
                refine RA.steps 2 rfl ?_
                refine RA.call0 rfl rfl rfl (by
                  refine ⟨Nat.le_of_ble_eq_true rfl, ⟨_, _, rfl⟩, ?_⟩
                  refine RA.steps 1 rfl ?_
                  refine RA.if1F rfl (decide_eq_false h1) ?_
                  refine RA.steps 4 rfl ?_
                  refine RA.if2T rfl (decide_eq_true (Int32.not_lt.mp h4)) ?_
                  refine RA.steps 1 rfl ?_
                  exact RA.ret rfl rfl) ?_
                refine RA.steps 3 rfl ?_
                refine RA.call0 rfl rfl rfl (Run.ex 4000 (Nat.le_of_ble_eq_true rfl) ⟨_, _, rfl⟩ rfl) ?_
                refine RA.steps 4 rfl ?_
                exact RA.ret rfl rfl, by
                refine ⟨Nat.le_of_ble_eq_true rfl, ⟨_, _, rfl⟩, ?_⟩
                refine RA.steps 1 rfl ?_
                refine RA.call0 rfl rfl rfl (by
                  refine ⟨Nat.le_of_ble_eq_true rfl, ⟨_, _, rfl⟩, ?_⟩
                  refine RA.steps 4 rfl ?_
                  refine RA.call0 rfl rfl rfl (isIn_f (v := a) (lo := 0) (hi := 3) (fun q => h4 (le_lt_4 q.2))) ?_
                  exact RA.ret rfl rfl) ?_
                refine RA.steps 2 rfl ?_
                exact RA.ret rfl rfl⟩
        · exact ⟨_, _, _, by
              refine ⟨Nat.le_of_ble_eq_true rfl, ⟨_, _, rfl⟩, ?_⟩
              refine RA.steps 2 rfl ?_
              refine RA.call0 rfl rfl rfl (by
                refine ⟨Nat.le_of_ble_eq_true rfl, ⟨_, _, rfl⟩, ?_⟩
                refine RA.steps 1 rfl ?_
                refine RA.if1F rfl (decide_eq_false h1) ?_
                refine RA.steps 4 rfl ?_
                refine RA.if2T rfl (decide_eq_true (Int32.not_lt.mp h4)) ?_
                refine RA.steps 1 rfl ?_
                exact RA.ret rfl rfl) ?_
              refine RA.steps 3 rfl ?_
              refine RA.call0 rfl rfl rfl (by
                refine ⟨Nat.le_of_ble_eq_true rfl, ⟨_, _, rfl⟩, ?_⟩
                refine RA.steps 1 rfl ?_
                refine RA.if1F rfl (decide_eq_false h13) ?_
                refine RA.steps 4 rfl ?_
                refine RA.if2T rfl (decide_eq_true (Int32.not_lt.mp h14)) ?_
                refine RA.steps 1 rfl ?_
                exact RA.ret rfl rfl) ?_
              refine RA.steps 4 rfl ?_
              exact RA.ret rfl rfl, by
              refine ⟨Nat.le_of_ble_eq_true rfl, ⟨_, _, rfl⟩, ?_⟩
              refine RA.steps 1 rfl ?_
              refine RA.call0 rfl rfl rfl (by
                refine ⟨Nat.le_of_ble_eq_true rfl, ⟨_, _, rfl⟩, ?_⟩
                refine RA.steps 4 rfl ?_
                refine RA.call0 rfl rfl rfl (isIn_f (v := a) (lo := 0) (hi := 3) (fun q => h4 (le_lt_4 q.2))) ?_
                exact RA.ret rfl rfl) ?_
              refine RA.steps 2 rfl ?_
              exact RA.ret rfl rfl⟩
