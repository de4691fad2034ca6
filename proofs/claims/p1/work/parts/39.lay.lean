set_option maxRecDepth 100000 in
set_option maxHeartbeats 60000000 in
theorem q_lay (E : pX) (a b c : Int32) : ∃ (r : Int32) (h1 h2 : List pC), Run prog E pV0 40 mX7_lay [.ref 0, .int a, .int b, .int c] h0 (some (.int r), h1, 0, 0) ∧ Run prog E pV0 40 mX8_lay [.ref 110, .int a, .int b, .int c] h1 (some (.int r), h2, 0, 0) := by
  by_cases h1 : a < 0
  · by_cases h2 : b = 0
    · subst h2
      exact ⟨_, _, _, by
          refine ⟨Nat.le_of_ble_eq_true rfl, ⟨_, _, rfl⟩, ?_⟩
          refine RA.steps 2 rfl ?_
          refine RA.call0 rfl rfl rfl (by
            refine ⟨Nat.le_of_ble_eq_true rfl, ⟨_, _, rfl⟩, ?_⟩
            refine RA.steps 1 rfl ?_
            refine RA.if1T rfl (decide_eq_true h1) ?_
            refine RA.steps 1 rfl ?_
            exact RA.ret rfl rfl) ?_
          refine RA.steps 4 rfl ?_
          exact RA.ret rfl rfl, by
          refine ⟨Nat.le_of_ble_eq_true rfl, ⟨_, _, rfl⟩, ?_⟩
          refine RA.steps 6 rfl ?_
          refine RA.call0 rfl rfl rfl (by
            refine ⟨Nat.le_of_ble_eq_true rfl, ⟨_, _, rfl⟩, ?_⟩
            refine RA.steps 4 rfl ?_
            refine RA.call0 rfl rfl rfl (isIn_f (v := a) (lo := 0) (hi := 4) (fun q => absurd h1 (Int32.not_lt.mpr q.1))) ?_
            exact RA.ret rfl rfl) ?_
          refine RA.steps 2 rfl ?_
          exact RA.ret rfl rfl⟩
    · by_cases h3 : b = 3
      · subst h3
        exact ⟨_, _, _, by
            refine ⟨Nat.le_of_ble_eq_true rfl, ⟨_, _, rfl⟩, ?_⟩
            refine RA.steps 2 rfl ?_
            refine RA.call0 rfl rfl rfl (by
              refine ⟨Nat.le_of_ble_eq_true rfl, ⟨_, _, rfl⟩, ?_⟩
              refine RA.steps 1 rfl ?_
              refine RA.if1T rfl (decide_eq_true h1) ?_
              refine RA.steps 1 rfl ?_
              exact RA.ret rfl rfl) ?_
            refine RA.steps 4 rfl ?_
            exact RA.ret rfl rfl, by
            refine ⟨Nat.le_of_ble_eq_true rfl, ⟨_, _, rfl⟩, ?_⟩
            refine RA.steps 9 rfl ?_
            refine RA.call0 rfl rfl rfl (by
              refine ⟨Nat.le_of_ble_eq_true rfl, ⟨_, _, rfl⟩, ?_⟩
              refine RA.steps 4 rfl ?_
              refine RA.call0 rfl rfl rfl (isIn_f (v := a) (lo := 0) (hi := 4) (fun q => absurd h1 (Int32.not_lt.mpr q.1))) ?_
              exact RA.ret rfl rfl) ?_
            refine RA.steps 2 rfl ?_
            exact RA.ret rfl rfl⟩
      · by_cases h4 : b = 1
        · subst h4
          exact ⟨_, _, _, by
              refine ⟨Nat.le_of_ble_eq_true rfl, ⟨_, _, rfl⟩, ?_⟩
              refine RA.steps 2 rfl ?_
              refine RA.call0 rfl rfl rfl (by
                refine ⟨Nat.le_of_ble_eq_true rfl, ⟨_, _, rfl⟩, ?_⟩
                refine RA.steps 1 rfl ?_
                refine RA.if1T rfl (decide_eq_true h1) ?_
                refine RA.steps 1 rfl ?_
                exact RA.ret rfl rfl) ?_
              refine RA.steps 4 rfl ?_
              exact RA.ret rfl rfl, by
              refine ⟨Nat.le_of_ble_eq_true rfl, ⟨_, _, rfl⟩, ?_⟩
              refine RA.steps 10 rfl ?_
              refine RA.call0 rfl rfl rfl (by
                refine ⟨Nat.le_of_ble_eq_true rfl, ⟨_, _, rfl⟩, ?_⟩
                refine RA.steps 10 rfl ?_
                refine RA.call0 rfl rfl rfl (isIn_f (v := c) (lo := 0) (hi := (-1)) (in_no (by decide))) ?_
                exact RA.ret rfl rfl) ?_
              refine RA.steps 7 rfl ?_
              refine RA.call0 rfl rfl rfl (by
                refine ⟨Nat.le_of_ble_eq_true rfl, ⟨_, _, rfl⟩, ?_⟩
                refine RA.steps 4 rfl ?_
                refine RA.call0 rfl rfl rfl (isIn_f (v := a) (lo := 0) (hi := 4) (fun q => absurd h1 (Int32.not_lt.mpr q.1))) ?_
                exact RA.ret rfl rfl) ?_
              refine RA.steps 2 rfl ?_
              exact RA.ret rfl rfl⟩
        · by_cases h5 : b = 2
          · subst h5
            by_cases h6 : 0 ≤ c ∧ c ≤ 3
            · exact ⟨_, _, _, by
                  refine ⟨Nat.le_of_ble_eq_true rfl, ⟨_, _, rfl⟩, ?_⟩
                  refine RA.steps 2 rfl ?_
                  refine RA.call0 rfl rfl rfl (by
                    refine ⟨Nat.le_of_ble_eq_true rfl, ⟨_, _, rfl⟩, ?_⟩
                    refine RA.steps 1 rfl ?_
                    refine RA.if1T rfl (decide_eq_true h1) ?_
                    refine RA.steps 1 rfl ?_
                    exact RA.ret rfl rfl) ?_
                  refine RA.steps 4 rfl ?_
                  exact RA.ret rfl rfl, by
                  refine ⟨Nat.le_of_ble_eq_true rfl, ⟨_, _, rfl⟩, ?_⟩
                  refine RA.steps 12 rfl ?_
                  refine RA.call0 rfl rfl rfl (by
                    refine ⟨Nat.le_of_ble_eq_true rfl, ⟨_, _, rfl⟩, ?_⟩
                    refine RA.steps 4 rfl ?_
                    refine RA.call0 rfl rfl rfl (isIn_t (v := c) (lo := 0) (hi := 3) h6) ?_
                    exact RA.ret rfl rfl) ?_
                  refine RA.steps 5 rfl ?_
                  refine RA.call0 rfl rfl rfl (by
                    refine ⟨Nat.le_of_ble_eq_true rfl, ⟨_, _, rfl⟩, ?_⟩
                    refine RA.steps 4 rfl ?_
                    refine RA.call0 rfl rfl rfl (isIn_f (v := a) (lo := 0) (hi := 4) (fun q => absurd h1 (Int32.not_lt.mpr q.1))) ?_
                    exact RA.ret rfl rfl) ?_
                  refine RA.steps 2 rfl ?_
                  exact RA.ret rfl rfl⟩
            · exact ⟨_, _, _, by
                  refine ⟨Nat.le_of_ble_eq_true rfl, ⟨_, _, rfl⟩, ?_⟩
                  refine RA.steps 2 rfl ?_
                  refine RA.call0 rfl rfl rfl (by
                    refine ⟨Nat.le_of_ble_eq_true rfl, ⟨_, _, rfl⟩, ?_⟩
                    refine RA.steps 1 rfl ?_
                    refine RA.if1T rfl (decide_eq_true h1) ?_
                    refine RA.steps 1 rfl ?_
                    exact RA.ret rfl rfl) ?_
                  refine RA.steps 4 rfl ?_
                  exact RA.ret rfl rfl, by
                  refine ⟨Nat.le_of_ble_eq_true rfl, ⟨_, _, rfl⟩, ?_⟩
                  refine RA.steps 12 rfl ?_
                  refine RA.call0 rfl rfl rfl (by
                    refine ⟨Nat.le_of_ble_eq_true rfl, ⟨_, _, rfl⟩, ?_⟩
                    refine RA.steps 4 rfl ?_
                    refine RA.call0 rfl rfl rfl (isIn_f (v := c) (lo := 0) (hi := 3) h6) ?_
                    exact RA.ret rfl rfl) ?_
                  refine RA.steps 4 rfl ?_
                  refine RA.call0 rfl rfl rfl (by
                    refine ⟨Nat.le_of_ble_eq_true rfl, ⟨_, _, rfl⟩, ?_⟩
                    refine RA.steps 4 rfl ?_
                    refine RA.call0 rfl rfl rfl (isIn_f (v := a) (lo := 0) (hi := 4) (fun q => absurd h1 (Int32.not_lt.mpr q.1))) ?_
                    exact RA.ret rfl rfl) ?_
                  refine RA.steps 2 rfl ?_
                  exact RA.ret rfl rfl⟩
          · exact ⟨_, _, _, by
                refine ⟨Nat.le_of_ble_eq_true rfl, ⟨_, _, rfl⟩, ?_⟩
                refine RA.steps 2 rfl ?_
                refine RA.call0 rfl rfl rfl (by
                  refine ⟨Nat.le_of_ble_eq_true rfl, ⟨_, _, rfl⟩, ?_⟩
                  refine RA.steps 1 rfl ?_
                  refine RA.if1T rfl (decide_eq_true h1) ?_
                  refine RA.steps 1 rfl ?_
                  exact RA.ret rfl rfl) ?_
                refine RA.steps 4 rfl ?_
                exact RA.ret rfl rfl, by
                refine ⟨Nat.le_of_ble_eq_true rfl, ⟨_, _, rfl⟩, ?_⟩
                refine RA.steps 1 rfl ?_
                refine RA.if1F rfl (decide_eq_false h2) ?_
                refine RA.steps 2 rfl ?_
                refine RA.if2F rfl (decide_eq_false h3) ?_
                refine RA.steps 2 rfl ?_
                refine RA.if2T rfl (decide_eq_true h4) ?_
                refine RA.steps 2 rfl ?_
                refine RA.if2T rfl (decide_eq_true h5) ?_
                refine RA.steps 3 rfl ?_
                refine RA.call0 rfl rfl rfl (by
                  refine ⟨Nat.le_of_ble_eq_true rfl, ⟨_, _, rfl⟩, ?_⟩
                  refine RA.steps 4 rfl ?_
                  refine RA.call0 rfl rfl rfl (isIn_f (v := a) (lo := 0) (hi := 4) (fun q => absurd h1 (Int32.not_lt.mpr q.1))) ?_
                  exact RA.ret rfl rfl) ?_
                refine RA.steps 2 rfl ?_
                exact RA.ret rfl rfl⟩
  · by_cases h7 : a < 5
    · rcases cases_0_4 (in_lt_5 h1 h7) with rfl | rfl | rfl | rfl | rfl
      · exact q_lay0 E b c
      · exact q_lay1 E b c
      · exact q_lay2 E b c
      · exact q_lay3 E b c
      · exact q_lay4 E b c
    · by_cases h83 : b = 0
      · subst h83
        exact ⟨_, _, _, by
            refine ⟨Nat.le_of_ble_eq_true rfl, ⟨_, _, rfl⟩, ?_⟩
            refine RA.steps 2 rfl ?_
            refine RA.call0 rfl rfl rfl (by
              refine ⟨Nat.le_of_ble_eq_true rfl, ⟨_, _, rfl⟩, ?_⟩
              refine RA.steps 1 rfl ?_
              refine RA.if1F rfl (decide_eq_false h1) ?_
              refine RA.steps 4 rfl ?_
              refine RA.if2T rfl (decide_eq_true (Int32.not_lt.mp h7)) ?_
              refine RA.steps 1 rfl ?_
              exact RA.ret rfl rfl) ?_
            refine RA.steps 4 rfl ?_
            exact RA.ret rfl rfl, by
            refine ⟨Nat.le_of_ble_eq_true rfl, ⟨_, _, rfl⟩, ?_⟩
            refine RA.steps 6 rfl ?_
            refine RA.call0 rfl rfl rfl (by
              refine ⟨Nat.le_of_ble_eq_true rfl, ⟨_, _, rfl⟩, ?_⟩
              refine RA.steps 4 rfl ?_
              refine RA.call0 rfl rfl rfl (isIn_f (v := a) (lo := 0) (hi := 4) (fun q => h7 (le_lt_5 q.2))) ?_
              exact RA.ret rfl rfl) ?_
            refine RA.steps 2 rfl ?_
            exact RA.ret rfl rfl⟩
      · by_cases h84 : b = 3
        · subst h84
          exact ⟨_, _, _, by
              refine ⟨Nat.le_of_ble_eq_true rfl, ⟨_, _, rfl⟩, ?_⟩
              refine RA.steps 2 rfl ?_
              refine RA.call0 rfl rfl rfl (by
                refine ⟨Nat.le_of_ble_eq_true rfl, ⟨_, _, rfl⟩, ?_⟩
                refine RA.steps 1 rfl ?_
                refine RA.if1F rfl (decide_eq_false h1) ?_
                refine RA.steps 4 rfl ?_
                refine RA.if2T rfl (decide_eq_true (Int32.not_lt.mp h7)) ?_
                refine RA.steps 1 rfl ?_
                exact RA.ret rfl rfl) ?_
              refine RA.steps 4 rfl ?_
              exact RA.ret rfl rfl, by
              refine ⟨Nat.le_of_ble_eq_true rfl, ⟨_, _, rfl⟩, ?_⟩
              refine RA.steps 9 rfl ?_
              refine RA.call0 rfl rfl rfl (by
                refine ⟨Nat.le_of_ble_eq_true rfl, ⟨_, _, rfl⟩, ?_⟩
                refine RA.steps 4 rfl ?_
                refine RA.call0 rfl rfl rfl (isIn_f (v := a) (lo := 0) (hi := 4) (fun q => h7 (le_lt_5 q.2))) ?_
                exact RA.ret rfl rfl) ?_
              refine RA.steps 2 rfl ?_
              exact RA.ret rfl rfl⟩
        · by_cases h85 : b = 1
          · subst h85
            exact ⟨_, _, _, by
                refine ⟨Nat.le_of_ble_eq_true rfl, ⟨_, _, rfl⟩, ?_⟩
                refine RA.steps 2 rfl ?_
                refine RA.call0 rfl rfl rfl (by
                  refine ⟨Nat.le_of_ble_eq_true rfl, ⟨_, _, rfl⟩, ?_⟩
                  refine RA.steps 1 rfl ?_
                  refine RA.if1F rfl (decide_eq_false h1) ?_
                  refine RA.steps 4 rfl ?_
                  refine RA.if2T rfl (decide_eq_true (Int32.not_lt.mp h7)) ?_
                  refine RA.steps 1 rfl ?_
                  exact RA.ret rfl rfl) ?_
                refine RA.steps 4 rfl ?_
                exact RA.ret rfl rfl, by
                refine ⟨Nat.le_of_ble_eq_true rfl, ⟨_, _, rfl⟩, ?_⟩
                refine RA.steps 10 rfl ?_
                refine RA.call0 rfl rfl rfl (by
                  refine ⟨Nat.le_of_ble_eq_true rfl, ⟨_, _, rfl⟩, ?_⟩
                  refine RA.steps 10 rfl ?_
                  refine RA.call0 rfl rfl rfl (isIn_f (v := c) (lo := 0) (hi := (-1)) (in_no (by decide))) ?_
                  exact RA.ret rfl rfl) ?_
                refine RA.steps 7 rfl ?_
                refine RA.call0 rfl rfl rfl (by
                  refine ⟨Nat.le_of_ble_eq_true rfl, ⟨_, _, rfl⟩, ?_⟩
                  refine RA.steps 4 rfl ?_
                  refine RA.call0 rfl rfl rfl (isIn_f (v := a) (lo := 0) (hi := 4) (fun q => h7 (le_lt_5 q.2))) ?_
                  exact RA.ret rfl rfl) ?_
                refine RA.steps 2 rfl ?_
                exact RA.ret rfl rfl⟩
          · by_cases h86 : b = 2
            · subst h86
              by_cases h87 : 0 ≤ c ∧ c ≤ 3
              · exact ⟨_, _, _, by
                    refine ⟨Nat.le_of_ble_eq_true rfl, ⟨_, _, rfl⟩, ?_⟩
                    refine RA.steps 2 rfl ?_
                    refine RA.call0 rfl rfl rfl (by
                      refine ⟨Nat.le_of_ble_eq_true rfl, ⟨_, _, rfl⟩, ?_⟩
                      refine RA.steps 1 rfl ?_
                      refine RA.if1F rfl (decide_eq_false h1) ?_
                      refine RA.steps 4 rfl ?_
                      refine RA.if2T rfl (decide_eq_true (Int32.not_lt.mp h7)) ?_
                      refine RA.steps 1 rfl ?_
                      exact RA.ret rfl rfl) ?_
                    refine RA.steps 4 rfl ?_
                    exact RA.ret rfl rfl, by
                    refine ⟨Nat.le_of_ble_eq_true rfl, ⟨_, _, rfl⟩, ?_⟩
                    refine RA.steps 12 rfl ?_
                    refine RA.call0 rfl rfl rfl (by
                      refine ⟨Nat.le_of_ble_eq_true rfl, ⟨_, _, rfl⟩, ?_⟩
                      refine RA.steps 4 rfl ?_
                      refine RA.call0 rfl rfl rfl (isIn_t (v := c) (lo := 0) (hi := 3) h87) ?_
                      exact RA.ret rfl rfl) ?_
                    refine RA.steps 5 rfl ?_
                    refine RA.call0 rfl rfl rfl (by
                      refine ⟨Nat.le_of_ble_eq_true rfl, ⟨_, _, rfl⟩, ?_⟩
                      refine RA.steps 4 rfl ?_
                      refine RA.call0 rfl rfl rfl (isIn_f (v := a) (lo := 0) (hi := 4) (fun q => h7 (le_lt_5 q.2))) ?_
                      exact RA.ret rfl rfl) ?_
                    refine RA.steps 2 rfl ?_
                    exact RA.ret rfl rfl⟩
              · exact ⟨_, _, _, by
                    refine ⟨Nat.le_of_ble_eq_true rfl, ⟨_, _, rfl⟩, ?_⟩
                    refine RA.steps 2 rfl ?_
                    refine RA.call0 rfl rfl rfl (by
                      refine ⟨Nat.le_of_ble_eq_true rfl, ⟨_, _, rfl⟩, ?_⟩
                      refine RA.steps 1 rfl ?_
                      refine RA.if1F rfl (decide_eq_false h1) ?_
                      refine RA.steps 4 rfl ?_
                      refine RA.if2T rfl (decide_eq_true (Int32.not_lt.mp h7)) ?_
                      refine RA.steps 1 rfl ?_
                      exact RA.ret rfl rfl) ?_
                    refine RA.steps 4 rfl ?_
                    exact RA.ret rfl rfl, by
                    refine ⟨Nat.le_of_ble_eq_true rfl, ⟨_, _, rfl⟩, ?_⟩
                    refine RA.steps 12 rfl ?_
                    refine RA.call0 rfl rfl rfl (by
                      refine ⟨Nat.le_of_ble_eq_true rfl, ⟨_, _, rfl⟩, ?_⟩
                      refine RA.steps 4 rfl ?_
                      refine RA.call0 rfl rfl rfl (isIn_f (v := c) (lo := 0) (hi := 3) h87) ?_
                      exact RA.ret rfl rfl) ?_
                    refine RA.steps 4 rfl ?_
                    refine RA.call0 rfl rfl rfl (by
                      refine ⟨Nat.le_of_ble_eq_true rfl, ⟨_, _, rfl⟩, ?_⟩
                      refine RA.steps 4 rfl ?_
                      refine RA.call0 rfl rfl rfl (isIn_f (v := a) (lo := 0) (hi := 4) (fun q => h7 (le_lt_5 q.2))) ?_
                      exact RA.ret rfl rfl) ?_
                    refine RA.steps 2 rfl ?_
                    exact RA.ret rfl rfl⟩
            · exact ⟨_, _, _, by
                  refine ⟨Nat.le_of_ble_eq_true rfl, ⟨_, _, rfl⟩, ?_⟩
                  refine RA.steps 2 rfl ?_
                  refine RA.call0 rfl rfl rfl (by
                    refine ⟨Nat.le_of_ble_eq_true rfl, ⟨_, _, rfl⟩, ?_⟩
                    refine RA.steps 1 rfl ?_
                    refine RA.if1F rfl (decide_eq_false h1) ?_
                    refine RA.steps 4 rfl ?_
                    refine RA.if2T rfl (decide_eq_true (Int32.not_lt.mp h7)) ?_
                    refine RA.steps 1 rfl ?_
                    exact RA.ret rfl rfl) ?_
                  refine RA.steps 4 rfl ?_
                  exact RA.ret rfl rfl, by
                  refine ⟨Nat.le_of_ble_eq_true rfl, ⟨_, _, rfl⟩, ?_⟩
                  refine RA.steps 1 rfl ?_
                  refine RA.if1F rfl (decide_eq_false h83) ?_
                  refine RA.steps 2 rfl ?_
                  refine RA.if2F rfl (decide_eq_false h84) ?_
                  refine RA.steps 2 rfl ?_
                  refine RA.if2T rfl (decide_eq_true h85) ?_
                  refine RA.steps 2 rfl ?_
                  refine RA.if2T rfl (decide_eq_true h86) ?_
                  refine RA.steps 3 rfl ?_
                  refine RA.call0 rfl rfl rfl (by
                    refine ⟨Nat.le_of_ble_eq_true rfl, ⟨_, _, rfl⟩, ?_⟩
                    refine RA.steps 4 rfl ?_
                    refine RA.call0 rfl rfl rfl (isIn_f (v := a) (lo := 0) (hi := 4) (fun q => h7 (le_lt_5 q.2))) ?_
                    exact RA.ret rfl rfl) ?_
                  refine RA.steps 2 rfl ?_
                  exact RA.ret rfl rfl⟩
