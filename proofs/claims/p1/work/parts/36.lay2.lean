set_option maxRecDepth 100000 in
set_option maxHeartbeats 60000000 in
theorem q_lay2 (E : pX) (b c : Int32) : ∃ (r : Int32) (h1 h2 : List pC), Run prog E pV0 40 mX7_lay [.ref 0, .int 2, .int b, .int c] h0 (some (.int r), h1, 0, 0) ∧ Run prog E pV0 40 mX8_lay [.ref 110, .int 2, .int b, .int c] h1 (some (.int r), h2, 0, 0) := by
        by_cases h38 : 0 ≤ b ∧ b ≤ 3
        · by_cases h39 : c < 0
          · rcases cases_0_3 h38 with rfl | rfl | rfl | rfl
            · exact ⟨_, _, _, by
                  refine ⟨Nat.le_of_ble_eq_true rfl, ⟨_, _, rfl⟩, ?_⟩
                  refine RA.steps 2 rfl ?_
                  refine RA.call0 rfl rfl rfl (Run.ex 4000 (Nat.le_of_ble_eq_true rfl) ⟨_, _, rfl⟩ rfl) ?_
                  refine RA.steps 6 rfl ?_
                  refine RA.call0 rfl rfl rfl (Run.ex 4000 (Nat.le_of_ble_eq_true rfl) ⟨_, _, rfl⟩ rfl) ?_
                  refine RA.steps 4 rfl ?_
                  refine RA.call0 rfl rfl rfl (one_no c rfl) ?_
                  refine RA.steps 3 rfl ?_
                  refine RA.call0 rfl rfl rfl (by
                    refine ⟨Nat.le_of_ble_eq_true rfl, ⟨_, _, rfl⟩, ?_⟩
                    refine RA.steps 1 rfl ?_
                    refine RA.if1T rfl (decide_eq_true h39) ?_
                    refine RA.steps 1 rfl ?_
                    exact RA.ret rfl rfl) ?_
                  refine RA.steps 26 rfl ?_
                  exact RA.ret rfl rfl, by
                  exact Run.ex 4000 (Nat.le_of_ble_eq_true rfl) ⟨_, _, rfl⟩ rfl⟩
            · exact ⟨_, _, _, by
                  refine ⟨Nat.le_of_ble_eq_true rfl, ⟨_, _, rfl⟩, ?_⟩
                  refine RA.steps 2 rfl ?_
                  refine RA.call0 rfl rfl rfl (Run.ex 4000 (Nat.le_of_ble_eq_true rfl) ⟨_, _, rfl⟩ rfl) ?_
                  refine RA.steps 6 rfl ?_
                  refine RA.call0 rfl rfl rfl (Run.ex 4000 (Nat.le_of_ble_eq_true rfl) ⟨_, _, rfl⟩ rfl) ?_
                  refine RA.steps 4 rfl ?_
                  refine RA.call0 rfl rfl rfl (one_no c rfl) ?_
                  refine RA.steps 3 rfl ?_
                  refine RA.call0 rfl rfl rfl (by
                    refine ⟨Nat.le_of_ble_eq_true rfl, ⟨_, _, rfl⟩, ?_⟩
                    refine RA.steps 1 rfl ?_
                    refine RA.if1T rfl (decide_eq_true h39) ?_
                    refine RA.steps 1 rfl ?_
                    exact RA.ret rfl rfl) ?_
                  refine RA.steps 7 rfl ?_
                  exact RA.ret rfl rfl, by
                  refine ⟨Nat.le_of_ble_eq_true rfl, ⟨_, _, rfl⟩, ?_⟩
                  refine RA.steps 10 rfl ?_
                  refine RA.call0 rfl rfl rfl (by
                    refine ⟨Nat.le_of_ble_eq_true rfl, ⟨_, _, rfl⟩, ?_⟩
                    refine RA.steps 10 rfl ?_
                    refine RA.call0 rfl rfl rfl (isIn_f (v := c) (lo := 0) (hi := (-1)) (in_no (by decide))) ?_
                    exact RA.ret rfl rfl) ?_
                  refine RA.steps 7 rfl ?_
                  refine RA.call0 rfl rfl rfl (Run.ex 4000 (Nat.le_of_ble_eq_true rfl) ⟨_, _, rfl⟩ rfl) ?_
                  refine RA.steps 4 rfl ?_
                  exact RA.ret rfl rfl⟩
            · exact ⟨_, _, _, by
                  refine ⟨Nat.le_of_ble_eq_true rfl, ⟨_, _, rfl⟩, ?_⟩
                  refine RA.steps 2 rfl ?_
                  refine RA.call0 rfl rfl rfl (Run.ex 4000 (Nat.le_of_ble_eq_true rfl) ⟨_, _, rfl⟩ rfl) ?_
                  refine RA.steps 6 rfl ?_
                  refine RA.call0 rfl rfl rfl (Run.ex 4000 (Nat.le_of_ble_eq_true rfl) ⟨_, _, rfl⟩ rfl) ?_
                  refine RA.steps 4 rfl ?_
                  refine RA.call0 rfl rfl rfl (one_no c rfl) ?_
                  refine RA.steps 3 rfl ?_
                  refine RA.call0 rfl rfl rfl (by
                    refine ⟨Nat.le_of_ble_eq_true rfl, ⟨_, _, rfl⟩, ?_⟩
                    refine RA.steps 1 rfl ?_
                    refine RA.if1T rfl (decide_eq_true h39) ?_
                    refine RA.steps 1 rfl ?_
                    exact RA.ret rfl rfl) ?_
                  refine RA.steps 10 rfl ?_
                  exact RA.ret rfl rfl, by
                  refine ⟨Nat.le_of_ble_eq_true rfl, ⟨_, _, rfl⟩, ?_⟩
                  refine RA.steps 12 rfl ?_
                  refine RA.call0 rfl rfl rfl (by
                    refine ⟨Nat.le_of_ble_eq_true rfl, ⟨_, _, rfl⟩, ?_⟩
                    refine RA.steps 4 rfl ?_
                    refine RA.call0 rfl rfl rfl (isIn_f (v := c) (lo := 0) (hi := 3) (fun q => absurd h39 (Int32.not_lt.mpr q.1))) ?_
                    exact RA.ret rfl rfl) ?_
                  refine RA.steps 4 rfl ?_
                  refine RA.call0 rfl rfl rfl (Run.ex 4000 (Nat.le_of_ble_eq_true rfl) ⟨_, _, rfl⟩ rfl) ?_
                  refine RA.steps 4 rfl ?_
                  exact RA.ret rfl rfl⟩
            · exact ⟨_, _, _, by
                  refine ⟨Nat.le_of_ble_eq_true rfl, ⟨_, _, rfl⟩, ?_⟩
                  refine RA.steps 2 rfl ?_
                  refine RA.call0 rfl rfl rfl (Run.ex 4000 (Nat.le_of_ble_eq_true rfl) ⟨_, _, rfl⟩ rfl) ?_
                  refine RA.steps 6 rfl ?_
                  refine RA.call0 rfl rfl rfl (Run.ex 4000 (Nat.le_of_ble_eq_true rfl) ⟨_, _, rfl⟩ rfl) ?_
                  refine RA.steps 4 rfl ?_
                  refine RA.call0 rfl rfl rfl (one_no c rfl) ?_
                  refine RA.steps 3 rfl ?_
                  refine RA.call0 rfl rfl rfl (by
                    refine ⟨Nat.le_of_ble_eq_true rfl, ⟨_, _, rfl⟩, ?_⟩
                    refine RA.steps 1 rfl ?_
                    refine RA.if1T rfl (decide_eq_true h39) ?_
                    refine RA.steps 1 rfl ?_
                    exact RA.ret rfl rfl) ?_
                  refine RA.steps 29 rfl ?_
                  exact RA.ret rfl rfl, by
                  exact Run.ex 4000 (Nat.le_of_ble_eq_true rfl) ⟨_, _, rfl⟩ rfl⟩
          · by_cases h40 : c < 4
            · rcases cases_0_3 (in_lt_4 h39 h40) with rfl | rfl | rfl | rfl
              · rcases cases_0_3 h38 with rfl | rfl | rfl | rfl
                · exact ⟨_, _, _, by
                      exact Run.ex 4000 (Nat.le_of_ble_eq_true rfl) ⟨_, _, rfl⟩ rfl, by
                      exact Run.ex 4000 (Nat.le_of_ble_eq_true rfl) ⟨_, _, rfl⟩ rfl⟩
                · exact ⟨_, _, _, by
                      exact Run.ex 4000 (Nat.le_of_ble_eq_true rfl) ⟨_, _, rfl⟩ rfl, by
                      exact Run.ex 4000 (Nat.le_of_ble_eq_true rfl) ⟨_, _, rfl⟩ rfl⟩
                · exact ⟨_, _, _, by
                      exact Run.ex 4000 (Nat.le_of_ble_eq_true rfl) ⟨_, _, rfl⟩ rfl, by
                      exact Run.ex 4000 (Nat.le_of_ble_eq_true rfl) ⟨_, _, rfl⟩ rfl⟩
                · exact ⟨_, _, _, by
                      exact Run.ex 4000 (Nat.le_of_ble_eq_true rfl) ⟨_, _, rfl⟩ rfl, by
                      exact Run.ex 4000 (Nat.le_of_ble_eq_true rfl) ⟨_, _, rfl⟩ rfl⟩
              · rcases cases_0_3 h38 with rfl | rfl | rfl | rfl
                · exact ⟨_, _, _, by
                      exact Run.ex 4000 (Nat.le_of_ble_eq_true rfl) ⟨_, _, rfl⟩ rfl, by
                      exact Run.ex 4000 (Nat.le_of_ble_eq_true rfl) ⟨_, _, rfl⟩ rfl⟩
                · exact ⟨_, _, _, by
                      exact Run.ex 4000 (Nat.le_of_ble_eq_true rfl) ⟨_, _, rfl⟩ rfl, by
                      exact Run.ex 4000 (Nat.le_of_ble_eq_true rfl) ⟨_, _, rfl⟩ rfl⟩
                · exact ⟨_, _, _, by
                      exact Run.ex 4000 (Nat.le_of_ble_eq_true rfl) ⟨_, _, rfl⟩ rfl, by
                      exact Run.ex 4000 (Nat.le_of_ble_eq_true rfl) ⟨_, _, rfl⟩ rfl⟩
                · exact ⟨_, _, _, by
                      exact Run.ex 4000 (Nat.le_of_ble_eq_true rfl) ⟨_, _, rfl⟩ rfl, by
                      exact Run.ex 4000 (Nat.le_of_ble_eq_true rfl) ⟨_, _, rfl⟩ rfl⟩
              · rcases cases_0_3 h38 with rfl | rfl | rfl | rfl
                · exact ⟨_, _, _, by
                      exact Run.ex 4000 (Nat.le_of_ble_eq_true rfl) ⟨_, _, rfl⟩ rfl, by
                      exact Run.ex 4000 (Nat.le_of_ble_eq_true rfl) ⟨_, _, rfl⟩ rfl⟩
                · exact ⟨_, _, _, by
                      exact Run.ex 4000 (Nat.le_of_ble_eq_true rfl) ⟨_, _, rfl⟩ rfl, by
                      exact Run.ex 4000 (Nat.le_of_ble_eq_true rfl) ⟨_, _, rfl⟩ rfl⟩
                · exact ⟨_, _, _, by
                      exact Run.ex 4000 (Nat.le_of_ble_eq_true rfl) ⟨_, _, rfl⟩ rfl, by
                      exact Run.ex 4000 (Nat.le_of_ble_eq_true rfl) ⟨_, _, rfl⟩ rfl⟩
                · exact ⟨_, _, _, by
                      exact Run.ex 4000 (Nat.le_of_ble_eq_true rfl) ⟨_, _, rfl⟩ rfl, by
                      exact Run.ex 4000 (Nat.le_of_ble_eq_true rfl) ⟨_, _, rfl⟩ rfl⟩
              · rcases cases_0_3 h38 with rfl | rfl | rfl | rfl
                · exact ⟨_, _, _, by
                      exact Run.ex 4000 (Nat.le_of_ble_eq_true rfl) ⟨_, _, rfl⟩ rfl, by
                      exact Run.ex 4000 (Nat.le_of_ble_eq_true rfl) ⟨_, _, rfl⟩ rfl⟩
                · exact ⟨_, _, _, by
                      exact Run.ex 4000 (Nat.le_of_ble_eq_true rfl) ⟨_, _, rfl⟩ rfl, by
                      exact Run.ex 4000 (Nat.le_of_ble_eq_true rfl) ⟨_, _, rfl⟩ rfl⟩
                · exact ⟨_, _, _, by
                      exact Run.ex 4000 (Nat.le_of_ble_eq_true rfl) ⟨_, _, rfl⟩ rfl, by
                      exact Run.ex 4000 (Nat.le_of_ble_eq_true rfl) ⟨_, _, rfl⟩ rfl⟩
                · exact ⟨_, _, _, by
                      exact Run.ex 4000 (Nat.le_of_ble_eq_true rfl) ⟨_, _, rfl⟩ rfl, by
                      exact Run.ex 4000 (Nat.le_of_ble_eq_true rfl) ⟨_, _, rfl⟩ rfl⟩
            · rcases cases_0_3 h38 with rfl | rfl | rfl | rfl
              · exact ⟨_, _, _, by
                    refine ⟨Nat.le_of_ble_eq_true rfl, ⟨_, _, rfl⟩, ?_⟩
                    refine RA.steps 2 rfl ?_
                    refine RA.call0 rfl rfl rfl (Run.ex 4000 (Nat.le_of_ble_eq_true rfl) ⟨_, _, rfl⟩ rfl) ?_
                    refine RA.steps 6 rfl ?_
                    refine RA.call0 rfl rfl rfl (Run.ex 4000 (Nat.le_of_ble_eq_true rfl) ⟨_, _, rfl⟩ rfl) ?_
                    refine RA.steps 4 rfl ?_
                    refine RA.call0 rfl rfl rfl (one_no c rfl) ?_
                    refine RA.steps 3 rfl ?_
                    refine RA.call0 rfl rfl rfl (by
                      refine ⟨Nat.le_of_ble_eq_true rfl, ⟨_, _, rfl⟩, ?_⟩
                      refine RA.steps 1 rfl ?_
                      refine RA.if1F rfl (decide_eq_false h39) ?_
                      refine RA.steps 4 rfl ?_
                      refine RA.if2T rfl (decide_eq_true (Int32.not_lt.mp h40)) ?_
                      refine RA.steps 1 rfl ?_
                      exact RA.ret rfl rfl) ?_
                    refine RA.steps 26 rfl ?_
                    exact RA.ret rfl rfl, by
                    exact Run.ex 4000 (Nat.le_of_ble_eq_true rfl) ⟨_, _, rfl⟩ rfl⟩
              · exact ⟨_, _, _, by
                    refine ⟨Nat.le_of_ble_eq_true rfl, ⟨_, _, rfl⟩, ?_⟩
                    refine RA.steps 2 rfl ?_
                    refine RA.call0 rfl rfl rfl (Run.ex 4000 (Nat.le_of_ble_eq_true rfl) ⟨_, _, rfl⟩ rfl) ?_
                    refine RA.steps 6 rfl ?_
                    refine RA.call0 rfl rfl rfl (Run.ex 4000 (Nat.le_of_ble_eq_true rfl) ⟨_, _, rfl⟩ rfl) ?_
                    refine RA.steps 4 rfl ?_
                    refine RA.call0 rfl rfl rfl (one_no c rfl) ?_
                    refine RA.steps 3 rfl ?_
                    refine RA.call0 rfl rfl rfl (by
                      refine ⟨Nat.le_of_ble_eq_true rfl, ⟨_, _, rfl⟩, ?_⟩
                      refine RA.steps 1 rfl ?_
                      refine RA.if1F rfl (decide_eq_false h39) ?_
                      refine RA.steps 4 rfl ?_
                      refine RA.if2T rfl (decide_eq_true (Int32.not_lt.mp h40)) ?_
                      refine RA.steps 1 rfl ?_
                      exact RA.ret rfl rfl) ?_
                    refine RA.steps 7 rfl ?_
                    exact RA.ret rfl rfl, by
                    refine ⟨Nat.le_of_ble_eq_true rfl, ⟨_, _, rfl⟩, ?_⟩
                    refine RA.steps 10 rfl ?_
                    refine RA.call0 rfl rfl rfl (by
                      refine ⟨Nat.le_of_ble_eq_true rfl, ⟨_, _, rfl⟩, ?_⟩
                      refine RA.steps 10 rfl ?_
                      refine RA.call0 rfl rfl rfl (isIn_f (v := c) (lo := 0) (hi := (-1)) (in_no (by decide))) ?_
                      exact RA.ret rfl rfl) ?_
                    refine RA.steps 7 rfl ?_
                    refine RA.call0 rfl rfl rfl (Run.ex 4000 (Nat.le_of_ble_eq_true rfl) ⟨_, _, rfl⟩ rfl) ?_
                    refine RA.steps 4 rfl ?_
                    exact RA.ret rfl rfl⟩
              · exact ⟨_, _, _, by
                    refine ⟨Nat.le_of_ble_eq_true rfl, ⟨_, _, rfl⟩, ?_⟩
                    refine RA.steps 2 rfl ?_
                    refine RA.call0 rfl rfl rfl (Run.ex 4000 (Nat.le_of_ble_eq_true rfl) ⟨_, _, rfl⟩ rfl) ?_
                    refine RA.steps 6 rfl ?_
                    refine RA.call0 rfl rfl rfl (Run.ex 4000 (Nat.le_of_ble_eq_true rfl) ⟨_, _, rfl⟩ rfl) ?_
                    refine RA.steps 4 rfl ?_
                    refine RA.call0 rfl rfl rfl (one_no c rfl) ?_
                    refine RA.steps 3 rfl ?_
                    refine RA.call0 rfl rfl rfl (by
                      refine ⟨Nat.le_of_ble_eq_true rfl, ⟨_, _, rfl⟩, ?_⟩
                      refine RA.steps 1 rfl ?_
                      refine RA.if1F rfl (decide_eq_false h39) ?_
                      refine RA.steps 4 rfl ?_
                      refine RA.if2T rfl (decide_eq_true (Int32.not_lt.mp h40)) ?_
                      refine RA.steps 1 rfl ?_
                      exact RA.ret rfl rfl) ?_
                    refine RA.steps 10 rfl ?_
                    exact RA.ret rfl rfl, by
                    refine ⟨Nat.le_of_ble_eq_true rfl, ⟨_, _, rfl⟩, ?_⟩
                    refine RA.steps 12 rfl ?_
                    refine RA.call0 rfl rfl rfl (by
                      refine ⟨Nat.le_of_ble_eq_true rfl, ⟨_, _, rfl⟩, ?_⟩
                      refine RA.steps 4 rfl ?_
                      refine RA.call0 rfl rfl rfl (isIn_f (v := c) (lo := 0) (hi := 3) (fun q => h40 (le_lt_4 q.2))) ?_
                      exact RA.ret rfl rfl) ?_
                    refine RA.steps 4 rfl ?_
                    refine RA.call0 rfl rfl rfl (Run.ex 4000 (Nat.le_of_ble_eq_true rfl) ⟨_, _, rfl⟩ rfl) ?_
                    refine RA.steps 4 rfl ?_
                    exact RA.ret rfl rfl⟩
              · exact ⟨_, _, _, by
                    refine ⟨Nat.le_of_ble_eq_true rfl, ⟨_, _, rfl⟩, ?_⟩
                    refine RA.steps 2 rfl ?_
                    refine RA.call0 rfl rfl rfl (Run.ex 4000 (Nat.le_of_ble_eq_true rfl) ⟨_, _, rfl⟩ rfl) ?_
                    refine RA.steps 6 rfl ?_
                    refine RA.call0 rfl rfl rfl (Run.ex 4000 (Nat.le_of_ble_eq_true rfl) ⟨_, _, rfl⟩ rfl) ?_
                    refine RA.steps 4 rfl ?_
                    refine RA.call0 rfl rfl rfl (one_no c rfl) ?_
                    refine RA.steps 3 rfl ?_
                    refine RA.call0 rfl rfl rfl (by
                      refine ⟨Nat.le_of_ble_eq_true rfl, ⟨_, _, rfl⟩, ?_⟩
                      refine RA.steps 1 rfl ?_
                      refine RA.if1F rfl (decide_eq_false h39) ?_
                      refine RA.steps 4 rfl ?_
                      refine RA.if2T rfl (decide_eq_true (Int32.not_lt.mp h40)) ?_
                      refine RA.steps 1 rfl ?_
                      exact RA.ret rfl rfl) ?_
                    refine RA.steps 29 rfl ?_
                    exact RA.ret rfl rfl, by
                    exact Run.ex 4000 (Nat.le_of_ble_eq_true rfl) ⟨_, _, rfl⟩ rfl⟩
        · by_cases h41 : b = 0
          · subst h41
            by_cases h42 : c < 0
            · exact ⟨_, _, _, by
                  refine ⟨Nat.le_of_ble_eq_true rfl, ⟨_, _, rfl⟩, ?_⟩
                  refine RA.steps 2 rfl ?_
                  refine RA.call0 rfl rfl rfl (Run.ex 4000 (Nat.le_of_ble_eq_true rfl) ⟨_, _, rfl⟩ rfl) ?_
                  refine RA.steps 6 rfl ?_
                  refine RA.call0 rfl rfl rfl (Run.ex 4000 (Nat.le_of_ble_eq_true rfl) ⟨_, _, rfl⟩ rfl) ?_
                  refine RA.steps 4 rfl ?_
                  refine RA.call0 rfl rfl rfl (one_no c rfl) ?_
                  refine RA.steps 3 rfl ?_
                  refine RA.call0 rfl rfl rfl (by
                    refine ⟨Nat.le_of_ble_eq_true rfl, ⟨_, _, rfl⟩, ?_⟩
                    refine RA.steps 1 rfl ?_
                    refine RA.if1T rfl (decide_eq_true h42) ?_
                    refine RA.steps 1 rfl ?_
                    exact RA.ret rfl rfl) ?_
                  refine RA.steps 26 rfl ?_
                  exact RA.ret rfl rfl, by
                  exact Run.ex 4000 (Nat.le_of_ble_eq_true rfl) ⟨_, _, rfl⟩ rfl⟩
            · by_cases h43 : c < 4
              · rcases cases_0_3 (in_lt_4 h42 h43) with rfl | rfl | rfl | rfl
                · exact ⟨_, _, _, by
                      exact Run.ex 4000 (Nat.le_of_ble_eq_true rfl) ⟨_, _, rfl⟩ rfl, by
                      exact Run.ex 4000 (Nat.le_of_ble_eq_true rfl) ⟨_, _, rfl⟩ rfl⟩
                · exact ⟨_, _, _, by
                      exact Run.ex 4000 (Nat.le_of_ble_eq_true rfl) ⟨_, _, rfl⟩ rfl, by
                      exact Run.ex 4000 (Nat.le_of_ble_eq_true rfl) ⟨_, _, rfl⟩ rfl⟩
                · exact ⟨_, _, _, by
                      exact Run.ex 4000 (Nat.le_of_ble_eq_true rfl) ⟨_, _, rfl⟩ rfl, by
                      exact Run.ex 4000 (Nat.le_of_ble_eq_true rfl) ⟨_, _, rfl⟩ rfl⟩
                · exact ⟨_, _, _, by
                      exact Run.ex 4000 (Nat.le_of_ble_eq_true rfl) ⟨_, _, rfl⟩ rfl, by
                      exact Run.ex 4000 (Nat.le_of_ble_eq_true rfl) ⟨_, _, rfl⟩ rfl⟩
              · exact ⟨_, _, _, by
                    refine ⟨Nat.le_of_ble_eq_true rfl, ⟨_, _, rfl⟩, ?_⟩
                    refine RA.steps 2 rfl ?_
                    refine RA.call0 rfl rfl rfl (Run.ex 4000 (Nat.le_of_ble_eq_true rfl) ⟨_, _, rfl⟩ rfl) ?_
                    refine RA.steps 6 rfl ?_
                    refine RA.call0 rfl rfl rfl (Run.ex 4000 (Nat.le_of_ble_eq_true rfl) ⟨_, _, rfl⟩ rfl) ?_
                    refine RA.steps 4 rfl ?_
                    refine RA.call0 rfl rfl rfl (one_no c rfl) ?_
                    refine RA.steps 3 rfl ?_
                    refine RA.call0 rfl rfl rfl (by
                      refine ⟨Nat.le_of_ble_eq_true rfl, ⟨_, _, rfl⟩, ?_⟩
                      refine RA.steps 1 rfl ?_
                      refine RA.if1F rfl (decide_eq_false h42) ?_
                      refine RA.steps 4 rfl ?_
                      refine RA.if2T rfl (decide_eq_true (Int32.not_lt.mp h43)) ?_
                      refine RA.steps 1 rfl ?_
                      exact RA.ret rfl rfl) ?_
                    refine RA.steps 26 rfl ?_
                    exact RA.ret rfl rfl, by
                    exact Run.ex 4000 (Nat.le_of_ble_eq_true rfl) ⟨_, _, rfl⟩ rfl⟩
          · by_cases h44 : b = 3
            · subst h44
              by_cases h45 : c < 0
              · exact ⟨_, _, _, by
                    refine ⟨Nat.le_of_ble_eq_true rfl, ⟨_, _, rfl⟩, ?_⟩
                    refine RA.steps 2 rfl ?_
                    refine RA.call0 rfl rfl rfl (Run.ex 4000 (Nat.le_of_ble_eq_true rfl) ⟨_, _, rfl⟩ rfl) ?_
                    refine RA.steps 6 rfl ?_
                    refine RA.call0 rfl rfl rfl (Run.ex 4000 (Nat.le_of_ble_eq_true rfl) ⟨_, _, rfl⟩ rfl) ?_
                    refine RA.steps 4 rfl ?_
                    refine RA.call0 rfl rfl rfl (one_no c rfl) ?_
                    refine RA.steps 3 rfl ?_
                    refine RA.call0 rfl rfl rfl (by
                      refine ⟨Nat.le_of_ble_eq_true rfl, ⟨_, _, rfl⟩, ?_⟩
                      refine RA.steps 1 rfl ?_
                      refine RA.if1T rfl (decide_eq_true h45) ?_
                      refine RA.steps 1 rfl ?_
                      exact RA.ret rfl rfl) ?_
                    refine RA.steps 29 rfl ?_
                    exact RA.ret rfl rfl, by
                    exact Run.ex 4000 (Nat.le_of_ble_eq_true rfl) ⟨_, _, rfl⟩ rfl⟩
              · by_cases h46 : c < 4
                · rcases cases_0_3 (in_lt_4 h45 h46) with rfl | rfl | rfl | rfl
                  · exact ⟨_, _, _, by
                        exact Run.ex 4000 (Nat.le_of_ble_eq_true rfl) ⟨_, _, rfl⟩ rfl, by
                        exact Run.ex 4000 (Nat.le_of_ble_eq_true rfl) ⟨_, _, rfl⟩ rfl⟩
                  · exact ⟨_, _, _, by
                        exact Run.ex 4000 (Nat.le_of_ble_eq_true rfl) ⟨_, _, rfl⟩ rfl, by
                        exact Run.ex 4000 (Nat.le_of_ble_eq_true rfl) ⟨_, _, rfl⟩ rfl⟩
                  · exact ⟨_, _, _, by
                        exact Run.ex 4000 (Nat.le_of_ble_eq_true rfl) ⟨_, _, rfl⟩ rfl, by
                        exact Run.ex 4000 (Nat.le_of_ble_eq_true rfl) ⟨_, _, rfl⟩ rfl⟩
                  · exact ⟨_, _, _, by
                        exact Run.ex 4000 (Nat.le_of_ble_eq_true rfl) ⟨_, _, rfl⟩ rfl, by
                        exact Run.ex 4000 (Nat.le_of_ble_eq_true rfl) ⟨_, _, rfl⟩ rfl⟩
                · exact ⟨_, _, _, by
                      refine ⟨Nat.le_of_ble_eq_true rfl, ⟨_, _, rfl⟩, ?_⟩
                      refine RA.steps 2 rfl ?_
                      refine RA.call0 rfl rfl rfl (Run.ex 4000 (Nat.le_of_ble_eq_true rfl) ⟨_, _, rfl⟩ rfl) ?_
                      refine RA.steps 6 rfl ?_
                      refine RA.call0 rfl rfl rfl (Run.ex 4000 (Nat.le_of_ble_eq_true rfl) ⟨_, _, rfl⟩ rfl) ?_
                      refine RA.steps 4 rfl ?_
                      refine RA.call0 rfl rfl rfl (one_no c rfl) ?_
                      refine RA.steps 3 rfl ?_
                      refine RA.call0 rfl rfl rfl (by
                        refine ⟨Nat.le_of_ble_eq_true rfl, ⟨_, _, rfl⟩, ?_⟩
                        refine RA.steps 1 rfl ?_
                        refine RA.if1F rfl (decide_eq_false h45) ?_
                        refine RA.steps 4 rfl ?_
                        refine RA.if2T rfl (decide_eq_true (Int32.not_lt.mp h46)) ?_
                        refine RA.steps 1 rfl ?_
                        exact RA.ret rfl rfl) ?_
                      refine RA.steps 29 rfl ?_
                      exact RA.ret rfl rfl, by
                      exact Run.ex 4000 (Nat.le_of_ble_eq_true rfl) ⟨_, _, rfl⟩ rfl⟩
            · by_cases h47 : b = 1
              · subst h47
                by_cases h48 : c < 0
                · exact ⟨_, _, _, by
                      refine ⟨Nat.le_of_ble_eq_true rfl, ⟨_, _, rfl⟩, ?_⟩
                      refine RA.steps 2 rfl ?_
                      refine RA.call0 rfl rfl rfl (Run.ex 4000 (Nat.le_of_ble_eq_true rfl) ⟨_, _, rfl⟩ rfl) ?_
                      refine RA.steps 6 rfl ?_
                      refine RA.call0 rfl rfl rfl (Run.ex 4000 (Nat.le_of_ble_eq_true rfl) ⟨_, _, rfl⟩ rfl) ?_
                      refine RA.steps 4 rfl ?_
                      refine RA.call0 rfl rfl rfl (one_no c rfl) ?_
                      refine RA.steps 3 rfl ?_
                      refine RA.call0 rfl rfl rfl (by
                        refine ⟨Nat.le_of_ble_eq_true rfl, ⟨_, _, rfl⟩, ?_⟩
                        refine RA.steps 1 rfl ?_
                        refine RA.if1T rfl (decide_eq_true h48) ?_
                        refine RA.steps 1 rfl ?_
                        exact RA.ret rfl rfl) ?_
                      refine RA.steps 7 rfl ?_
                      exact RA.ret rfl rfl, by
                      refine ⟨Nat.le_of_ble_eq_true rfl, ⟨_, _, rfl⟩, ?_⟩
                      refine RA.steps 10 rfl ?_
                      refine RA.call0 rfl rfl rfl (by
                        refine ⟨Nat.le_of_ble_eq_true rfl, ⟨_, _, rfl⟩, ?_⟩
                        refine RA.steps 10 rfl ?_
                        refine RA.call0 rfl rfl rfl (isIn_f (v := c) (lo := 0) (hi := (-1)) (in_no (by decide))) ?_
                        exact RA.ret rfl rfl) ?_
                      refine RA.steps 7 rfl ?_
                      refine RA.call0 rfl rfl rfl (Run.ex 4000 (Nat.le_of_ble_eq_true rfl) ⟨_, _, rfl⟩ rfl) ?_
                      refine RA.steps 4 rfl ?_
                      exact RA.ret rfl rfl⟩
                · by_cases h49 : c < 4
                  · rcases cases_0_3 (in_lt_4 h48 h49) with rfl | rfl | rfl | rfl
                    · exact ⟨_, _, _, by
                          exact Run.ex 4000 (Nat.le_of_ble_eq_true rfl) ⟨_, _, rfl⟩ rfl, by
                          exact Run.ex 4000 (Nat.le_of_ble_eq_true rfl) ⟨_, _, rfl⟩ rfl⟩
                    · exact ⟨_, _, _, by
                          exact Run.ex 4000 (Nat.le_of_ble_eq_true rfl) ⟨_, _, rfl⟩ rfl, by
                          exact Run.ex 4000 (Nat.le_of_ble_eq_true rfl) ⟨_, _, rfl⟩ rfl⟩
                    · exact ⟨_, _, _, by
                          exact Run.ex 4000 (Nat.le_of_ble_eq_true rfl) ⟨_, _, rfl⟩ rfl, by
                          exact Run.ex 4000 (Nat.le_of_ble_eq_true rfl) ⟨_, _, rfl⟩ rfl⟩
                    · exact ⟨_, _, _, by
                          exact Run.ex 4000 (Nat.le_of_ble_eq_true rfl) ⟨_, _, rfl⟩ rfl, by
                          exact Run.ex 4000 (Nat.le_of_ble_eq_true rfl) ⟨_, _, rfl⟩ rfl⟩
                  · exact ⟨_, _, _, by
                        refine ⟨Nat.le_of_ble_eq_true rfl, ⟨_, _, rfl⟩, ?_⟩
                        refine RA.steps 2 rfl ?_
                        refine RA.call0 rfl rfl rfl (Run.ex 4000 (Nat.le_of_ble_eq_true rfl) ⟨_, _, rfl⟩ rfl) ?_
                        refine RA.steps 6 rfl ?_
                        refine RA.call0 rfl rfl rfl (Run.ex 4000 (Nat.le_of_ble_eq_true rfl) ⟨_, _, rfl⟩ rfl) ?_
                        refine RA.steps 4 rfl ?_
                        refine RA.call0 rfl rfl rfl (one_no c rfl) ?_
                        refine RA.steps 3 rfl ?_
                        refine RA.call0 rfl rfl rfl (by
                          refine ⟨Nat.le_of_ble_eq_true rfl, ⟨_, _, rfl⟩, ?_⟩
                          refine RA.steps 1 rfl ?_
                          refine RA.if1F rfl (decide_eq_false h48) ?_
                          refine RA.steps 4 rfl ?_
                          refine RA.if2T rfl (decide_eq_true (Int32.not_lt.mp h49)) ?_
                          refine RA.steps 1 rfl ?_
                          exact RA.ret rfl rfl) ?_
                        refine RA.steps 7 rfl ?_
                        exact RA.ret rfl rfl, by
                        refine ⟨Nat.le_of_ble_eq_true rfl, ⟨_, _, rfl⟩, ?_⟩
                        refine RA.steps 10 rfl ?_
                        refine RA.call0 rfl rfl rfl (by
                          refine ⟨Nat.le_of_ble_eq_true rfl, ⟨_, _, rfl⟩, ?_⟩
                          refine RA.steps 10 rfl ?_
                          refine RA.call0 rfl rfl rfl (isIn_f (v := c) (lo := 0) (hi := (-1)) (in_no (by decide))) ?_
                          exact RA.ret rfl rfl) ?_
                        refine RA.steps 7 rfl ?_
                        refine RA.call0 rfl rfl rfl (Run.ex 4000 (Nat.le_of_ble_eq_true rfl) ⟨_, _, rfl⟩ rfl) ?_
                        refine RA.steps 4 rfl ?_
                        exact RA.ret rfl rfl⟩
              · by_cases h50 : b = 2
                · subst h50
                  by_cases h51 : c < 0
                  · exact ⟨_, _, _, by
                        refine ⟨Nat.le_of_ble_eq_true rfl, ⟨_, _, rfl⟩, ?_⟩
                        refine RA.steps 2 rfl ?_
                        refine RA.call0 rfl rfl rfl (Run.ex 4000 (Nat.le_of_ble_eq_true rfl) ⟨_, _, rfl⟩ rfl) ?_
                        refine RA.steps 6 rfl ?_
                        refine RA.call0 rfl rfl rfl (Run.ex 4000 (Nat.le_of_ble_eq_true rfl) ⟨_, _, rfl⟩ rfl) ?_
                        refine RA.steps 4 rfl ?_
                        refine RA.call0 rfl rfl rfl (one_no c rfl) ?_
                        refine RA.steps 3 rfl ?_
                        refine RA.call0 rfl rfl rfl (by
                          refine ⟨Nat.le_of_ble_eq_true rfl, ⟨_, _, rfl⟩, ?_⟩
                          refine RA.steps 1 rfl ?_
                          refine RA.if1T rfl (decide_eq_true h51) ?_
                          refine RA.steps 1 rfl ?_
                          exact RA.ret rfl rfl) ?_
                        refine RA.steps 10 rfl ?_
                        exact RA.ret rfl rfl, by
                        refine ⟨Nat.le_of_ble_eq_true rfl, ⟨_, _, rfl⟩, ?_⟩
                        refine RA.steps 12 rfl ?_
                        refine RA.call0 rfl rfl rfl (by
                          refine ⟨Nat.le_of_ble_eq_true rfl, ⟨_, _, rfl⟩, ?_⟩
                          refine RA.steps 4 rfl ?_
                          refine RA.call0 rfl rfl rfl (isIn_f (v := c) (lo := 0) (hi := 3) (fun q => absurd h51 (Int32.not_lt.mpr q.1))) ?_
                          exact RA.ret rfl rfl) ?_
                        refine RA.steps 4 rfl ?_
                        refine RA.call0 rfl rfl rfl (Run.ex 4000 (Nat.le_of_ble_eq_true rfl) ⟨_, _, rfl⟩ rfl) ?_
                        refine RA.steps 4 rfl ?_
                        exact RA.ret rfl rfl⟩
                  · by_cases h52 : c < 4
                    · rcases cases_0_3 (in_lt_4 h51 h52) with rfl | rfl | rfl | rfl
                      · exact ⟨_, _, _, by
                            exact Run.ex 4000 (Nat.le_of_ble_eq_true rfl) ⟨_, _, rfl⟩ rfl, by
                            exact Run.ex 4000 (Nat.le_of_ble_eq_true rfl) ⟨_, _, rfl⟩ rfl⟩
                      · exact ⟨_, _, _, by
                            exact Run.ex 4000 (Nat.le_of_ble_eq_true rfl) ⟨_, _, rfl⟩ rfl, by
                            exact Run.ex 4000 (Nat.le_of_ble_eq_true rfl) ⟨_, _, rfl⟩ rfl⟩
                      · exact ⟨_, _, _, by
                            exact Run.ex 4000 (Nat.le_of_ble_eq_true rfl) ⟨_, _, rfl⟩ rfl, by
                            exact Run.ex 4000 (Nat.le_of_ble_eq_true rfl) ⟨_, _, rfl⟩ rfl⟩
                      · exact ⟨_, _, _, by
                            exact Run.ex 4000 (Nat.le_of_ble_eq_true rfl) ⟨_, _, rfl⟩ rfl, by
                            exact Run.ex 4000 (Nat.le_of_ble_eq_true rfl) ⟨_, _, rfl⟩ rfl⟩
                    · exact ⟨_, _, _, by
                          refine ⟨Nat.le_of_ble_eq_true rfl, ⟨_, _, rfl⟩, ?_⟩
                          refine RA.steps 2 rfl ?_
                          refine RA.call0 rfl rfl rfl (Run.ex 4000 (Nat.le_of_ble_eq_true rfl) ⟨_, _, rfl⟩ rfl) ?_
                          refine RA.steps 6 rfl ?_
                          refine RA.call0 rfl rfl rfl (Run.ex 4000 (Nat.le_of_ble_eq_true rfl) ⟨_, _, rfl⟩ rfl) ?_
                          refine RA.steps 4 rfl ?_
                          refine RA.call0 rfl rfl rfl (one_no c rfl) ?_
                          refine RA.steps 3 rfl ?_
                          refine RA.call0 rfl rfl rfl (by
                            refine ⟨Nat.le_of_ble_eq_true rfl, ⟨_, _, rfl⟩, ?_⟩
                            refine RA.steps 1 rfl ?_
                            refine RA.if1F rfl (decide_eq_false h51) ?_
                            refine RA.steps 4 rfl ?_
                            refine RA.if2T rfl (decide_eq_true (Int32.not_lt.mp h52)) ?_
                            refine RA.steps 1 rfl ?_
                            exact RA.ret rfl rfl) ?_
                          refine RA.steps 10 rfl ?_
                          exact RA.ret rfl rfl, by
                          refine ⟨Nat.le_of_ble_eq_true rfl, ⟨_, _, rfl⟩, ?_⟩
                          refine RA.steps 12 rfl ?_
                          refine RA.call0 rfl rfl rfl (by
                            refine ⟨Nat.le_of_ble_eq_true rfl, ⟨_, _, rfl⟩, ?_⟩
                            refine RA.steps 4 rfl ?_
                            refine RA.call0 rfl rfl rfl (isIn_f (v := c) (lo := 0) (hi := 3) (fun q => h52 (le_lt_4 q.2))) ?_
                            exact RA.ret rfl rfl) ?_
                          refine RA.steps 4 rfl ?_
                          refine RA.call0 rfl rfl rfl (Run.ex 4000 (Nat.le_of_ble_eq_true rfl) ⟨_, _, rfl⟩ rfl) ?_
                          refine RA.steps 4 rfl ?_
                          exact RA.ret rfl rfl⟩
                · exact ⟨_, _, _, by
                      refine ⟨Nat.le_of_ble_eq_true rfl, ⟨_, _, rfl⟩, ?_⟩
                      refine RA.steps 2 rfl ?_
                      refine RA.call0 rfl rfl rfl (Run.ex 4000 (Nat.le_of_ble_eq_true rfl) ⟨_, _, rfl⟩ rfl) ?_
                      refine RA.steps 6 rfl ?_
                      refine RA.call0 rfl rfl rfl (within_f (v := b) (lo := 0) (hi := 3) h38) ?_
                      refine RA.steps 2 rfl ?_
                      exact RA.ret rfl rfl, by
                      refine ⟨Nat.le_of_ble_eq_true rfl, ⟨_, _, rfl⟩, ?_⟩
                      refine RA.steps 1 rfl ?_
                      refine RA.if1F rfl (decide_eq_false h41) ?_
                      refine RA.steps 2 rfl ?_
                      refine RA.if2F rfl (decide_eq_false h44) ?_
                      refine RA.steps 2 rfl ?_
                      refine RA.if2T rfl (decide_eq_true h47) ?_
                      refine RA.steps 2 rfl ?_
                      refine RA.if2T rfl (decide_eq_true h50) ?_
                      refine RA.steps 3 rfl ?_
                      refine RA.call0 rfl rfl rfl (Run.ex 4000 (Nat.le_of_ble_eq_true rfl) ⟨_, _, rfl⟩ rfl) ?_
                      refine RA.steps 4 rfl ?_
                      exact RA.ret rfl rfl⟩
