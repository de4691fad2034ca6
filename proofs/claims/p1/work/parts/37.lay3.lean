set_option maxRecDepth 100000 in
set_option maxHeartbeats 60000000 in
theorem q_lay3 (E : pX) (b c : Int32) : ∃ (r : Int32) (h1 h2 : List pC), Run prog E pV0 40 mX7_lay [.ref 0, .int 3, .int b, .int c] h0 (some (.int r), h1, 0, 0) ∧ Run prog E pV0 40 mX8_lay [.ref 110, .int 3, .int b, .int c] h1 (some (.int r), h2, 0, 0) := by
        by_cases h53 : 0 ≤ b ∧ b ≤ 3
        · by_cases h54 : c < 0
          · rcases cases_0_3 h53 with rfl | rfl | rfl | rfl
            · exact ⟨_, _, _, by
                  refine ⟨Nat.le_of_ble_eq_true rfl, ⟨_, _, rfl⟩, ?_⟩
                  refine RA.steps 2 rfl ?_
                  refine RA.call0 rfl rfl rfl (Run.ex 4000 (Nat.le_of_ble_eq_true rfl) ⟨_, _, rfl⟩ rfl) ?_
                  refine RA.steps 6 rfl ?_
                  refine RA.call0 rfl rfl rfl (Run.ex 4000 (Nat.le_of_ble_eq_true rfl) ⟨_, _, rfl⟩ rfl) ?_
                  refine RA.steps 4 rfl ?_
                  refine RA.call0 rfl rfl rfl (one_no c rfl) ?_
                  refine RA.steps 3 rfl ?_
                  refine RA.call0 rfl rfl rfl (by
                    refine ⟨Nat.le_of_ble_eq_true rfl, ⟨_, _, rfl⟩, ?_⟩
                    refine RA.steps 1 rfl ?_
                    refine RA.if1T rfl (decide_eq_true h54) ?_
                    refine RA.steps 1 rfl ?_
                    exact RA.ret rfl rfl) ?_
                  refine RA.steps 26 rfl ?_
                  exact RA.ret rfl rfl, by
                  exact Run.ex 4000 (Nat.le_of_ble_eq_true rfl) ⟨_, _, rfl⟩ rfl⟩
            · exact ⟨_, _, _, by
                  refine ⟨Nat.le_of_ble_eq_true rfl, ⟨_, _, rfl⟩, ?_⟩
                  refine RA.steps 2 rfl ?_
                  refine RA.call0 rfl rfl rfl (Run.ex 4000 (Nat.le_of_ble_eq_true rfl) ⟨_, _, rfl⟩ rfl) ?_
                  refine RA.steps 6 rfl ?_
                  refine RA.call0 rfl rfl rfl (Run.ex 4000 (Nat.le_of_ble_eq_true rfl) ⟨_, _, rfl⟩ rfl) ?_
                  refine RA.steps 4 rfl ?_
                  refine RA.call0 rfl rfl rfl (one_no c rfl) ?_
                  refine RA.steps 3 rfl ?_
                  refine RA.call0 rfl rfl rfl (by
                    refine ⟨Nat.le_of_ble_eq_true rfl, ⟨_, _, rfl⟩, ?_⟩
                    refine RA.steps 1 rfl ?_
                    refine RA.if1T rfl (decide_eq_true h54) ?_
                    refine RA.steps 1 rfl ?_
                    exact RA.ret rfl rfl) ?_
                  refine RA.steps 7 rfl ?_
                  exact RA.ret rfl rfl, by
                  refine ⟨Nat.le_of_ble_eq_true rfl, ⟨_, _, rfl⟩, ?_⟩
                  refine RA.steps 10 rfl ?_
                  refine RA.call0 rfl rfl rfl (by
                    refine ⟨Nat.le_of_ble_eq_true rfl, ⟨_, _, rfl⟩, ?_⟩
                    refine RA.steps 10 rfl ?_
                    refine RA.call0 rfl rfl rfl (isIn_f (v := c) (lo := 0) (hi := (-1)) (in_no (by decide))) ?_
                    exact RA.ret rfl rfl) ?_
                  refine RA.steps 7 rfl ?_
                  refine RA.call0 rfl rfl rfl (Run.ex 4000 (Nat.le_of_ble_eq_true rfl) ⟨_, _, rfl⟩ rfl) ?_
                  refine RA.steps 4 rfl ?_
                  exact RA.ret rfl rfl⟩
            · exact ⟨_, _, _, by
                  refine ⟨Nat.le_of_ble_eq_true rfl, ⟨_, _, rfl⟩, ?_⟩
                  refine RA.steps 2 rfl ?_
                  refine RA.call0 rfl rfl rfl (Run.ex 4000 (Nat.le_of_ble_eq_true rfl) ⟨_, _, rfl⟩ rfl) ?_
                  refine RA.steps 6 rfl ?_
                  refine RA.call0 rfl rfl rfl (Run.ex 4000 (Nat.le_of_ble_eq_true rfl) ⟨_, _, rfl⟩ rfl) ?_
                  refine RA.steps 4 rfl ?_
                  refine RA.call0 rfl rfl rfl (one_no c rfl) ?_
                  refine RA.steps 3 rfl ?_
                  refine RA.call0 rfl rfl rfl (by
                    refine ⟨Nat.le_of_ble_eq_true rfl, ⟨_, _, rfl⟩, ?_⟩
                    refine RA.steps 1 rfl ?_
                    refine RA.if1T rfl (decide_eq_true h54) ?_
                    refine RA.steps 1 rfl ?_
                    exact RA.ret rfl rfl) ?_
                  refine RA.steps 10 rfl ?_
                  exact RA.ret rfl rfl, by
                  refine ⟨Nat.le_of_ble_eq_true rfl, ⟨_, _, rfl⟩, ?_⟩
                  refine RA.steps 12 rfl ?_
                  refine RA.call0 rfl rfl rfl (by
                    refine ⟨Nat.le_of_ble_eq_true rfl, ⟨_, _, rfl⟩, ?_⟩
                    refine RA.steps 4 rfl ?_
                    refine RA.call0 rfl rfl rfl (isIn_f (v := c) (lo := 0) (hi := 3) (fun q => absurd h54 (Int32.not_lt.mpr q.1))) ?_
                    exact RA.ret rfl rfl) ?_
                  refine RA.steps 4 rfl ?_
                  refine RA.call0 rfl rfl rfl (Run.ex 4000 (Nat.le_of_ble_eq_true rfl) ⟨_, _, rfl⟩ rfl) ?_
                  refine RA.steps 4 rfl ?_
                  exact RA.ret rfl rfl⟩
            · exact ⟨_, _, _, by
                  refine ⟨Nat.le_of_ble_eq_true rfl, ⟨_, _, rfl⟩, ?_⟩
                  refine RA.steps 2 rfl ?_
                  refine RA.call0 rfl rfl rfl (Run.ex 4000 (Nat.le_of_ble_eq_true rfl) ⟨_, _, rfl⟩ rfl) ?_
                  refine RA.steps 6 rfl ?_
                  refine RA.call0 rfl rfl rfl (Run.ex 4000 (Nat.le_of_ble_eq_true rfl) ⟨_, _, rfl⟩ rfl) ?_
                  refine RA.steps 4 rfl ?_
                  refine RA.call0 rfl rfl rfl (one_no c rfl) ?_
                  refine RA.steps 3 rfl ?_
                  refine RA.call0 rfl rfl rfl (by
                    refine ⟨Nat.le_of_ble_eq_true rfl, ⟨_, _, rfl⟩, ?_⟩
                    refine RA.steps 1 rfl ?_
                    refine RA.if1T rfl (decide_eq_true h54) ?_
                    refine RA.steps 1 rfl ?_
                    exact RA.ret rfl rfl) ?_
                  refine RA.steps 29 rfl ?_
                  exact RA.ret rfl rfl, by
                  exact Run.ex 4000 (Nat.le_of_ble_eq_true rfl) ⟨_, _, rfl⟩ rfl⟩
          · by_cases h55 : c < 4
            · rcases cases_0_3 (in_lt_4 h54 h55) with rfl | rfl | rfl | rfl
              · rcases cases_0_3 h53 with rfl | rfl | rfl | rfl
                · exact ⟨_, _, _, by
                      exact Run.ex 4000 (Nat.le_of_ble_eq_true rfl) ⟨_, _, rfl⟩ rfl, by
                      exact Run.ex 4000 (Nat.le_of_ble_eq_true rfl) ⟨_, _, rfl⟩ rfl⟩
                · exact ⟨_, _, _, by
                      exact Run.ex 4000 (Nat.le_of_ble_eq_true rfl) ⟨_, _, rfl⟩ rfl, by
                      exact Run.ex 4000 (Nat.le_of_ble_eq_true rfl) ⟨_, _, rfl⟩ rfl⟩
                · exact ⟨_, _, _, by
                      exact Run.ex 4000 (Nat.le_of_ble_eq_true rfl) ⟨_, _, rfl⟩ rfl, by
                      exact Run.ex 4000 (Nat.le_of_ble_eq_true rfl) ⟨_, _, rfl⟩ rfl⟩
                · exact ⟨_, _, _, by
                      exact Run.ex 4000 (Nat.le_of_ble_eq_true rfl) ⟨_, _, rfl⟩ rfl, by
                      exact Run.ex 4000 (Nat.le_of_ble_eq_true rfl) ⟨_, _, rfl⟩ rfl⟩
              · rcases cases_0_3 h53 with rfl | rfl | rfl | rfl
                · exact ⟨_, _, _, by
                      exact Run.ex 4000 (Nat.le_of_ble_eq_true rfl) ⟨_, _, rfl⟩ rfl, by
                      exact Run.ex 4000 (Nat.le_of_ble_eq_true rfl) ⟨_, _, rfl⟩ rfl⟩
                · exact ⟨_, _, _, by
                      exact Run.ex 4000 (Nat.le_of_ble_eq_true rfl) ⟨_, _, rfl⟩ rfl, by
                      exact Run.ex 4000 (Nat.le_of_ble_eq_true rfl) ⟨_, _, rfl⟩ rfl⟩
                · exact ⟨_, _, _, by
                      exact Run.ex 4000 (Nat.le_of_ble_eq_true rfl) ⟨_, _, rfl⟩ rfl, by
                      exact Run.ex 4000 (Nat.le_of_ble_eq_true rfl) ⟨_, _, rfl⟩ rfl⟩
                · exact ⟨_, _, _, by
                      exact Run.ex 4000 (Nat.le_of_ble_eq_true rfl) ⟨_, _, rfl⟩ rfl, by
                      exact Run.ex 4000 (Nat.le_of_ble_eq_true rfl) ⟨_, _, rfl⟩ rfl⟩
              · rcases cases_0_3 h53 with rfl | rfl | rfl | rfl
                · exact ⟨_, _, _, by
                      exact Run.ex 4000 (Nat.le_of_ble_eq_true rfl) ⟨_, _, rfl⟩ rfl, by
                      exact Run.ex 4000 (Nat.le_of_ble_eq_true rfl) ⟨_, _, rfl⟩ rfl⟩
                · exact ⟨_, _, _, by
                      exact Run.ex 4000 (Nat.le_of_ble_eq_true rfl) ⟨_, _, rfl⟩ rfl, by
                      exact Run.ex 4000 (Nat.le_of_ble_eq_true rfl) ⟨_, _, rfl⟩ rfl⟩
                · exact ⟨_, _, _, by
                      exact Run.ex 4000 (Nat.le_of_ble_eq_true rfl) ⟨_, _, rfl⟩ rfl, by
                      exact Run.ex 4000 (Nat.le_of_ble_eq_true rfl) ⟨_, _, rfl⟩ rfl⟩
                · exact ⟨_, _, _, by
                      exact Run.ex 4000 (Nat.le_of_ble_eq_true rfl) ⟨_, _, rfl⟩ rfl, by
                      exact Run.ex 4000 (Nat.le_of_ble_eq_true rfl) ⟨_, _, rfl⟩ rfl⟩
              · rcases cases_0_3 h53 with rfl | rfl | rfl | rfl
                · exact ⟨_, _, _, by
                      exact Run.ex 4000 (Nat.le_of_ble_eq_true rfl) ⟨_, _, rfl⟩ rfl, by
                      exact Run.ex 4000 (Nat.le_of_ble_eq_true rfl) ⟨_, _, rfl⟩ rfl⟩
                · exact ⟨_, _, _, by
                      exact Run.ex 4000 (Nat.le_of_ble_eq_true rfl) ⟨_, _, rfl⟩ rfl, by
                      exact Run.ex 4000 (Nat.le_of_ble_eq_true rfl) ⟨_, _, rfl⟩ rfl⟩
                · exact ⟨_, _, _, by
                      exact Run.ex 4000 (Nat.le_of_ble_eq_true rfl) ⟨_, _, rfl⟩ rfl, by
                      exact Run.ex 4000 (Nat.le_of_ble_eq_true rfl) ⟨_, _, rfl⟩ rfl⟩
                · exact ⟨_, _, _, by
                      exact Run.ex 4000 (Nat.le_of_ble_eq_true rfl) ⟨_, _, rfl⟩ rfl, by
                      exact Run.ex 4000 (Nat.le_of_ble_eq_true rfl) ⟨_, _, rfl⟩ rfl⟩
            · rcases cases_0_3 h53 with rfl | rfl | rfl | rfl
              · exact ⟨_, _, _, by
                    refine ⟨Nat.le_of_ble_eq_true rfl, ⟨_, _, rfl⟩, ?_⟩
                    refine RA.steps 2 rfl ?_
                    refine RA.call0 rfl rfl rfl (Run.ex 4000 (Nat.le_of_ble_eq_true rfl) ⟨_, _, rfl⟩ rfl) ?_
                    refine RA.steps 6 rfl ?_
                    refine RA.call0 rfl rfl rfl (Run.ex 4000 (Nat.le_of_ble_eq_true rfl) ⟨_, _, rfl⟩ rfl) ?_
                    refine RA.steps 4 rfl ?_
                    refine RA.call0 rfl rfl rfl (one_no c rfl) ?_
                    refine RA.steps 3 rfl ?_
                    refine RA.call0 rfl rfl rfl (by
                      refine ⟨Nat.le_of_ble_eq_true rfl, ⟨_, _, rfl⟩, ?_⟩
                      refine RA.steps 1 rfl ?_
                      refine RA.if1F rfl (decide_eq_false h54) ?_
                      refine RA.steps 4 rfl ?_
                      refine RA.if2T rfl (decide_eq_true (Int32.not_lt.mp h55)) ?_
                      refine RA.steps 1 rfl ?_
                      exact RA.ret rfl rfl) ?_
                    refine RA.steps 26 rfl ?_
                    exact RA.ret rfl rfl, by
                    exact Run.ex 4000 (Nat.le_of_ble_eq_true rfl) ⟨_, _, rfl⟩ rfl⟩
              · exact ⟨_, _, _, by
                    refine ⟨Nat.le_of_ble_eq_true rfl, ⟨_, _, rfl⟩, ?_⟩
                    refine RA.steps 2 rfl ?_
                    refine RA.call0 rfl rfl rfl (Run.ex 4000 (Nat.le_of_ble_eq_true rfl) ⟨_, _, rfl⟩ rfl) ?_
                    refine RA.steps 6 rfl ?_
                    refine RA.call0 rfl rfl rfl (Run.ex 4000 (Nat.le_of_ble_eq_true rfl) ⟨_, _, rfl⟩ rfl) ?_
                    refine RA.steps 4 rfl ?_
                    refine RA.call0 rfl rfl rfl (one_no c rfl) ?_
                    refine RA.steps 3 rfl ?_
                    refine RA.call0 rfl rfl rfl (by
                      refine ⟨Nat.le_of_ble_eq_true rfl, ⟨_, _, rfl⟩, ?_⟩
                      refine RA.steps 1 rfl ?_
                      refine RA.if1F rfl (decide_eq_false h54) ?_
                      refine RA.steps 4 rfl ?_
                      refine RA.if2T rfl (decide_eq_true (Int32.not_lt.mp h55)) ?_
                      refine RA.steps 1 rfl ?_
                      exact RA.ret rfl rfl) ?_
                    refine RA.steps 7 rfl ?_
                    exact RA.ret rfl rfl, by
                    refine ⟨Nat.le_of_ble_eq_true rfl, ⟨_, _, rfl⟩, ?_⟩
                    refine RA.steps 10 rfl ?_
                    refine RA.call0 rfl rfl rfl (by
                      refine ⟨Nat.le_of_ble_eq_true rfl, ⟨_, _, rfl⟩, ?_⟩
                      refine RA.steps 10 rfl ?_
                      refine RA.call0 rfl rfl rfl (isIn_f (v := c) (lo := 0) (hi := (-1)) (in_no (by decide))) ?_
                      exact RA.ret rfl rfl) ?_
                    refine RA.steps 7 rfl ?_
                    refine RA.call0 rfl rfl rfl (Run.ex 4000 (Nat.le_of_ble_eq_true rfl) ⟨_, _, rfl⟩ rfl) ?_
                    refine RA.steps 4 rfl ?_
                    exact RA.ret rfl rfl⟩
              · exact ⟨_, _, _, by
                    refine ⟨Nat.le_of_ble_eq_true rfl, ⟨_, _, rfl⟩, ?_⟩
                    refine RA.steps 2 rfl ?_
                    refine RA.call0 rfl rfl rfl (Run.ex 4000 (Nat.le_of_ble_eq_true rfl) ⟨_, _, rfl⟩ rfl) ?_
                    refine RA.steps 6 rfl ?_
                    refine RA.call0 rfl rfl rfl (Run.ex 4000 (Nat.le_of_ble_eq_true rfl) ⟨_, _, rfl⟩ rfl) ?_
                    refine RA.steps 4 rfl ?_
                    refine RA.call0 rfl rfl rfl (one_no c rfl) ?_
                    refine RA.steps 3 rfl ?_
                    refine RA.call0 rfl rfl rfl (by
                      refine ⟨Nat.le_of_ble_eq_true rfl, ⟨_, _, rfl⟩, ?_⟩
                      refine RA.steps 1 rfl ?_
                      refine RA.if1F rfl (decide_eq_false h54) ?_
                      refine RA.steps 4 rfl ?_
                      refine RA.if2T rfl (decide_eq_true (Int32.not_lt.mp h55)) ?_
                      refine RA.steps 1 rfl ?_
                      exact RA.ret rfl rfl) ?_
                    refine RA.steps 10 rfl ?_
                    exact RA.ret rfl rfl, by
                    refine ⟨Nat.le_of_ble_eq_true rfl, ⟨_, _, rfl⟩, ?_⟩
                    refine RA.steps 12 rfl ?_
                    refine RA.call0 rfl rfl rfl (by
                      refine ⟨Nat.le_of_ble_eq_true rfl, ⟨_, _, rfl⟩, ?_⟩
                      refine RA.steps 4 rfl ?_
                      refine RA.call0 rfl rfl rfl (isIn_f (v := c) (lo := 0) (hi := 3) (fun q => h55 (le_lt_4 q.2))) ?_
                      exact RA.ret rfl rfl) ?_
                    refine RA.steps 4 rfl ?_
                    refine RA.call0 rfl rfl rfl (Run.ex 4000 (Nat.le_of_ble_eq_true rfl) ⟨_, _, rfl⟩ rfl) ?_
                    refine RA.steps 4 rfl ?_
                    exact RA.ret rfl rfl⟩
              · exact ⟨_, _, _, by
                    refine ⟨Nat.le_of_ble_eq_true rfl, ⟨_, _, rfl⟩, ?_⟩
                    refine RA.steps 2 rfl ?_
                    refine RA.call0 rfl rfl rfl (Run.ex 4000 (Nat.le_of_ble_eq_true rfl) ⟨_, _, rfl⟩ rfl) ?_
                    refine RA.steps 6 rfl ?_
                    refine RA.call0 rfl rfl rfl (Run.ex 4000 (Nat.le_of_ble_eq_true rfl) ⟨_, _, rfl⟩ rfl) ?_
                    refine RA.steps 4 rfl ?_
                    refine RA.call0 rfl rfl rfl (one_no c rfl) ?_
                    refine RA.steps 3 rfl ?_
                    refine RA.call0 rfl rfl rfl (by
                      refine ⟨Nat.le_of_ble_eq_true rfl, ⟨_, _, rfl⟩, ?_⟩
                      refine RA.steps 1 rfl ?_
                      refine RA.if1F rfl (decide_eq_false h54) ?_
                      refine RA.steps 4 rfl ?_
                      refine RA.if2T rfl (decide_eq_true (Int32.not_lt.mp h55)) ?_
                      refine RA.steps 1 rfl ?_
                      exact RA.ret rfl rfl) ?_
                    refine RA.steps 29 rfl ?_
                    exact RA.ret rfl rfl, by
                    exact Run.ex 4000 (Nat.le_of_ble_eq_true rfl) ⟨_, _, rfl⟩ rfl⟩
        · by_cases h56 : b = 0
          · subst h56
            by_cases h57 : c < 0
            · exact ⟨_, _, _, by
                  refine ⟨Nat.le_of_ble_eq_true rfl, ⟨_, _, rfl⟩, ?_⟩
                  refine RA.steps 2 rfl ?_
                  refine RA.call0 rfl rfl rfl (Run.ex 4000 (Nat.le_of_ble_eq_true rfl) ⟨_, _, rfl⟩ rfl) ?_
                  refine RA.steps 6 rfl ?_
                  refine RA.call0 rfl rfl rfl (Run.ex 4000 (Nat.le_of_ble_eq_true rfl) ⟨_, _, rfl⟩ rfl) ?_
                  refine RA.steps 4 rfl ?_
                  refine RA.call0 rfl rfl rfl (one_no c rfl) ?_
                  refine RA.steps 3 rfl ?_
                  refine RA.call0 rfl rfl rfl (by
                    refine ⟨Nat.le_of_ble_eq_true rfl, ⟨_, _, rfl⟩, ?_⟩
                    refine RA.steps 1 rfl ?_
                    refine RA.if1T rfl (decide_eq_true h57) ?_
                    refine RA.steps 1 rfl ?_
                    exact RA.ret rfl rfl) ?_
                  refine RA.steps 26 rfl ?_
                  exact RA.ret rfl rfl, by
                  exact Run.ex 4000 (Nat.le_of_ble_eq_true rfl) ⟨_, _, rfl⟩ rfl⟩
            · by_cases h58 : c < 4
              · rcases cases_0_3 (in_lt_4 h57 h58) with rfl | rfl | rfl | rfl
                · exact ⟨_, _, _, by
                      exact Run.ex 4000 (Nat.le_of_ble_eq_true rfl) ⟨_, _, rfl⟩ rfl, by
                      exact Run.ex 4000 (Nat.le_of_ble_eq_true rfl) ⟨_, _, rfl⟩ rfl⟩
                · exact ⟨_, _, _, by
                      exact Run.ex 4000 (Nat.le_of_ble_eq_true rfl) ⟨_, _, rfl⟩ rfl, by
                      exact Run.ex 4000 (Nat.le_of_ble_eq_true rfl) ⟨_, _, rfl⟩ rfl⟩
                · exact ⟨_, _, _, by
                      exact Run.ex 4000 (Nat.le_of_ble_eq_true rfl) ⟨_, _, rfl⟩ rfl, by
                      exact Run.ex 4000 (Nat.le_of_ble_eq_true rfl) ⟨_, _, rfl⟩ rfl⟩
                · exact ⟨_, _, _, by
                      exact Run.ex 4000 (Nat.le_of_ble_eq_true rfl) ⟨_, _, rfl⟩ rfl, by
                      exact Run.ex 4000 (Nat.le_of_ble_eq_true rfl) ⟨_, _, rfl⟩ rfl⟩
              · exact ⟨_, _, _, by
                    refine ⟨Nat.le_of_ble_eq_true rfl, ⟨_, _, rfl⟩, ?_⟩
                    refine RA.steps 2 rfl ?_
                    refine RA.call0 rfl rfl rfl (Run.ex 4000 (Nat.le_of_ble_eq_true rfl) ⟨_, _, rfl⟩ rfl) ?_
                    refine RA.steps 6 rfl ?_
                    refine RA.call0 rfl rfl rfl (Run.ex 4000 (Nat.le_of_ble_eq_true rfl) ⟨_, _, rfl⟩ rfl) ?_
                    refine RA.steps 4 rfl ?_
                    refine RA.call0 rfl rfl rfl (one_no c rfl) ?_
                    refine RA.steps 3 rfl ?_
                    refine RA.call0 rfl rfl rfl (by
                      refine ⟨Nat.le_of_ble_eq_true rfl, ⟨_, _, rfl⟩, ?_⟩
                      refine RA.steps 1 rfl ?_
                      refine RA.if1F rfl (decide_eq_false h57) ?_
                      refine RA.steps 4 rfl ?_
                      refine RA.if2T rfl (decide_eq_true (Int32.not_lt.mp h58)) ?_
                      refine RA.steps 1 rfl ?_
                      exact RA.ret rfl rfl) ?_
                    refine RA.steps 26 rfl ?_
                    exact RA.ret rfl rfl, by
                    exact Run.ex 4000 (Nat.le_of_ble_eq_true rfl) ⟨_, _, rfl⟩ rfl⟩
          · by_cases h59 : b = 3
            · subst h59
              by_cases h60 : c < 0
              · exact ⟨_, _, _, by
                    refine ⟨Nat.le_of_ble_eq_true rfl, ⟨_, _, rfl⟩, ?_⟩
                    refine RA.steps 2 rfl ?_
                    refine RA.call0 rfl rfl rfl (Run.ex 4000 (Nat.le_of_ble_eq_true rfl) ⟨_, _, rfl⟩ rfl) ?_
                    refine RA.steps 6 rfl ?_
                    refine RA.call0 rfl rfl rfl (Run.ex 4000 (Nat.le_of_ble_eq_true rfl) ⟨_, _, rfl⟩ rfl) ?_
                    refine RA.steps 4 rfl ?_
                    refine RA.call0 rfl rfl rfl (one_no c rfl) ?_
                    refine RA.steps 3 rfl ?_
                    refine RA.call0 rfl rfl rfl (by
                      refine ⟨Nat.le_of_ble_eq_true rfl, ⟨_, _, rfl⟩, ?_⟩
                      refine RA.steps 1 rfl ?_
                      refine RA.if1T rfl (decide_eq_true h60) ?_
                      refine RA.steps 1 rfl ?_
                      exact RA.ret rfl rfl) ?_
                    refine RA.steps 29 rfl ?_
                    exact RA.ret rfl rfl, by
                    exact Run.ex 4000 (Nat.le_of_ble_eq_true rfl) ⟨_, _, rfl⟩ rfl⟩
              · by_cases h61 : c < 4
                · rcases cases_0_3 (in_lt_4 h60 h61) with rfl | rfl | rfl | rfl
                  · exact ⟨_, _, _, by
                        exact Run.ex 4000 (Nat.le_of_ble_eq_true rfl) ⟨_, _, rfl⟩ rfl, by
                        exact Run.ex 4000 (Nat.le_of_ble_eq_true rfl) ⟨_, _, rfl⟩ rfl⟩
                  · exact ⟨_, _, _, by
                        exact Run.ex 4000 (Nat.le_of_ble_eq_true rfl) ⟨_, _, rfl⟩ rfl, by
                        exact Run.ex 4000 (Nat.le_of_ble_eq_true rfl) ⟨_, _, rfl⟩ rfl⟩
                  · exact ⟨_, _, _, by
                        exact Run.ex 4000 (Nat.le_of_ble_eq_true rfl) ⟨_, _, rfl⟩ rfl, by
                        exact Run.ex 4000 (Nat.le_of_ble_eq_true rfl) ⟨_, _, rfl⟩ rfl⟩
                  · exact ⟨_, _, _, by
                        exact Run.ex 4000 (Nat.le_of_ble_eq_true rfl) ⟨_, _, rfl⟩ rfl, by
                        exact Run.ex 4000 (Nat.le_of_ble_eq_true rfl) ⟨_, _, rfl⟩ rfl⟩
                · exact ⟨_, _, _, by
                      refine ⟨Nat.le_of_ble_eq_true rfl, ⟨_, _, rfl⟩, ?_⟩
                      refine RA.steps 2 rfl ?_
                      refine RA.call0 rfl rfl rfl (Run.ex 4000 (Nat.le_of_ble_eq_true rfl) ⟨_, _, rfl⟩ rfl) ?_
                      refine RA.steps 6 rfl ?_
                      refine RA.call0 rfl rfl rfl (Run.ex 4000 (Nat.le_of_ble_eq_true rfl) ⟨_, _, rfl⟩ rfl) ?_
                      refine RA.steps 4 rfl ?_
                      refine RA.call0 rfl rfl rfl (one_no c rfl) ?_
                      refine RA.steps 3 rfl ?_
                      refine RA.call0 rfl rfl rfl (by
                        refine ⟨Nat.le_of_ble_eq_true rfl, ⟨_, _, rfl⟩, ?_⟩
                        refine RA.steps 1 rfl ?_
                        refine RA.if1F rfl (decide_eq_false h60) ?_
                        refine RA.steps 4 rfl ?_
                        refine RA.if2T rfl (decide_eq_true (Int32.not_lt.mp h61)) ?_
                        refine RA.steps 1 rfl ?_
                        exact RA.ret rfl rfl) ?_
                      refine RA.steps 29 rfl ?_
                      exact RA.ret rfl rfl, by
                      exact Run.ex 4000 (Nat.le_of_ble_eq_true rfl) ⟨_, _, rfl⟩ rfl⟩
            · by_cases h62 : b = 1
              · subst h62
                by_cases h63 : c < 0
                · exact ⟨_, _, _, by
                      refine ⟨Nat.le_of_ble_eq_true rfl, ⟨_, _, rfl⟩, ?_⟩
                      refine RA.steps 2 rfl ?_
                      refine RA.call0 rfl rfl rfl (Run.ex 4000 (Nat.le_of_ble_eq_true rfl) ⟨_, _, rfl⟩ rfl) ?_
                      refine RA.steps 6 rfl ?_
                      refine RA.call0 rfl rfl rfl (Run.ex 4000 (Nat.le_of_ble_eq_true rfl) ⟨_, _, rfl⟩ rfl) ?_
                      refine RA.steps 4 rfl ?_
                      refine RA.call0 rfl rfl rfl (one_no c rfl) ?_
                      refine RA.steps 3 rfl ?_
                      refine RA.call0 rfl rfl rfl (by
                        refine ⟨Nat.le_of_ble_eq_true rfl, ⟨_, _, rfl⟩, ?_⟩
                        refine RA.steps 1 rfl ?_
                        refine RA.if1T rfl (decide_eq_true h63) ?_
                        refine RA.steps 1 rfl ?_
                        exact RA.ret rfl rfl) ?_
                      refine RA.steps 7 rfl ?_
                      exact RA.ret rfl rfl, by
                      refine ⟨Nat.le_of_ble_eq_true rfl, ⟨_, _, rfl⟩, ?_⟩
                      refine RA.steps 10 rfl ?_
                      refine RA.call0 rfl rfl rfl (by
                        refine ⟨Nat.le_of_ble_eq_true rfl, ⟨_, _, rfl⟩, ?_⟩
                        refine RA.steps 10 rfl ?_
                        refine RA.call0 rfl rfl rfl (isIn_f (v := c) (lo := 0) (hi := (-1)) (in_no (by decide))) ?_
                        exact RA.ret rfl rfl) ?_
                      refine RA.steps 7 rfl ?_
                      refine RA.call0 rfl rfl rfl (Run.ex 4000 (Nat.le_of_ble_eq_true rfl) ⟨_, _, rfl⟩ rfl) ?_
                      refine RA.steps 4 rfl ?_
                      exact RA.ret rfl rfl⟩
                · by_cases h64 : c < 4
                  · rcases cases_0_3 (in_lt_4 h63 h64) with rfl | rfl | rfl | rfl
                    · exact ⟨_, _, _, by
                          exact Run.ex 4000 (Nat.le_of_ble_eq_true rfl) ⟨_, _, rfl⟩ rfl, by
                          exact Run.ex 4000 (Nat.le_of_ble_eq_true rfl) ⟨_, _, rfl⟩ rfl⟩
                    · exact ⟨_, _, _, by
                          exact Run.ex 4000 (Nat.le_of_ble_eq_true rfl) ⟨_, _, rfl⟩ rfl, by
                          exact Run.ex 4000 (Nat.le_of_ble_eq_true rfl) ⟨_, _, rfl⟩ rfl⟩
                    · exact ⟨_, _, _, by
                          exact Run.ex 4000 (Nat.le_of_ble_eq_true rfl) ⟨_, _, rfl⟩ rfl, by
                          exact Run.ex 4000 (Nat.le_of_ble_eq_true rfl) ⟨_, _, rfl⟩ rfl⟩
                    · exact ⟨_, _, _, by
                          exact Run.ex 4000 (Nat.le_of_ble_eq_true rfl) ⟨_, _, rfl⟩ rfl, by
                          exact Run.ex 4000 (Nat.le_of_ble_eq_true rfl) ⟨_, _, rfl⟩ rfl⟩
                  · exact ⟨_, _, _, by
                        refine ⟨Nat.le_of_ble_eq_true rfl, ⟨_, _, rfl⟩, ?_⟩
                        refine RA.steps 2 rfl ?_
                        refine RA.call0 rfl rfl rfl (Run.ex 4000 (Nat.le_of_ble_eq_true rfl) ⟨_, _, rfl⟩ rfl) ?_
                        refine RA.steps 6 rfl ?_
                        refine RA.call0 rfl rfl rfl (Run.ex 4000 (Nat.le_of_ble_eq_true rfl) ⟨_, _, rfl⟩ rfl) ?_
                        refine RA.steps 4 rfl ?_
                        refine RA.call0 rfl rfl rfl (one_no c rfl) ?_
                        refine RA.steps 3 rfl ?_
                        refine RA.call0 rfl rfl rfl (by
                          refine ⟨Nat.le_of_ble_eq_true rfl, ⟨_, _, rfl⟩, ?_⟩
                          refine RA.steps 1 rfl ?_
                          refine RA.if1F rfl (decide_eq_false h63) ?_
                          refine RA.steps 4 rfl ?_
                          refine RA.if2T rfl (decide_eq_true (Int32.not_lt.mp h64)) ?_
                          refine RA.steps 1 rfl ?_
                          exact RA.ret rfl rfl) ?_
                        refine RA.steps 7 rfl ?_
                        exact RA.ret rfl rfl, by
                        refine ⟨Nat.le_of_ble_eq_true rfl, ⟨_, _, rfl⟩, ?_⟩
                        refine RA.steps 10 rfl ?_
                        refine RA.call0 rfl rfl rfl (by
                          refine ⟨Nat.le_of_ble_eq_true rfl, ⟨_, _, rfl⟩, ?_⟩
                          refine RA.steps 10 rfl ?_
                          refine RA.call0 rfl rfl rfl (isIn_f (v := c) (lo := 0) (hi := (-1)) (in_no (by decide))) ?_
                          exact RA.ret rfl rfl) ?_
                        refine RA.steps 7 rfl ?_
                        refine RA.call0 rfl rfl rfl (Run.ex 4000 (Nat.le_of_ble_eq_true rfl) ⟨_, _, rfl⟩ rfl) ?_
                        refine RA.steps 4 rfl ?_
                        exact RA.ret rfl rfl⟩
              · by_cases h65 : b = 2
                · subst h65
                  by_cases h66 : c < 0
                  · exact ⟨_, _, _, by
                        refine ⟨Nat.le_of_ble_eq_true rfl, ⟨_, _, rfl⟩, ?_⟩
                        refine RA.steps 2 rfl ?_
                        refine RA.call0 rfl rfl rfl (Run.ex 4000 (Nat.le_of_ble_eq_true rfl) ⟨_, _, rfl⟩ rfl) ?_
                        refine RA.steps 6 rfl ?_
                        refine RA.call0 rfl rfl rfl (Run.ex 4000 (Nat.le_of_ble_eq_true rfl) ⟨_, _, rfl⟩ rfl) ?_
                        refine RA.steps 4 rfl ?_
                        refine RA.call0 rfl rfl rfl (one_no c rfl) ?_
                        refine RA.steps 3 rfl ?_
                        refine RA.call0 rfl rfl rfl (by
                          refine ⟨Nat.le_of_ble_eq_true rfl, ⟨_, _, rfl⟩, ?_⟩
                          refine RA.steps 1 rfl ?_
                          refine RA.if1T rfl (decide_eq_true h66) ?_
                          refine RA.steps 1 rfl ?_
                          exact RA.ret rfl rfl) ?_
                        refine RA.steps 10 rfl ?_
                        exact RA.ret rfl rfl, by
                        refine ⟨Nat.le_of_ble_eq_true rfl, ⟨_, _, rfl⟩, ?_⟩
                        refine RA.steps 12 rfl ?_
                        refine RA.call0 rfl rfl rfl (by
                          refine ⟨Nat.le_of_ble_eq_true rfl, ⟨_, _, rfl⟩, ?_⟩
                          refine RA.steps 4 rfl ?_
                          refine RA.call0 rfl rfl rfl (isIn_f (v := c) (lo := 0) (hi := 3) (fun q => absurd h66 (Int32.not_lt.mpr q.1))) ?_
                          exact RA.ret rfl rfl) ?_
                        refine RA.steps 4 rfl ?_
                        refine RA.call0 rfl rfl rfl (Run.ex 4000 (Nat.le_of_ble_eq_true rfl) ⟨_, _, rfl⟩ rfl) ?_
                        refine RA.steps 4 rfl ?_
                        exact RA.ret rfl rfl⟩
                  · by_cases h67 : c < 4
                    · rcases cases_0_3 (in_lt_4 h66 h67) with rfl | rfl | rfl | rfl
                      · exact ⟨_, _, _, by
                            exact Run.ex 4000 (Nat.le_of_ble_eq_true rfl) ⟨_, _, rfl⟩ rfl, by
                            exact Run.ex 4000 (Nat.le_of_ble_eq_true rfl) ⟨_, _, rfl⟩ rfl⟩
                      · exact ⟨_, _, _, by
                            exact Run.ex 4000 (Nat.le_of_ble_eq_true rfl) ⟨_, _, rfl⟩ rfl, by
                            exact Run.ex 4000 (Nat.le_of_ble_eq_true rfl) ⟨_, _, rfl⟩ rfl⟩
                      · exact ⟨_, _, _, by
                            exact Run.ex 4000 (Nat.le_of_ble_eq_true rfl) ⟨_, _, rfl⟩ rfl, by
                            exact Run.ex 4000 (Nat.le_of_ble_eq_true rfl) ⟨_, _, rfl⟩ rfl⟩
                      · exact ⟨_, _, _, by
                            exact Run.ex 4000 (Nat.le_of_ble_eq_true rfl) ⟨_, _, rfl⟩ rfl, by
                            exact Run.ex 4000 (Nat.le_of_ble_eq_true rfl) ⟨_, _, rfl⟩ rfl⟩
                    · exact ⟨_, _, _, by
                          refine ⟨Nat.le_of_ble_eq_true rfl, ⟨_, _, rfl⟩, ?_⟩
                          refine RA.steps 2 rfl ?_
                          refine RA.call0 rfl rfl rfl (Run.ex 4000 (Nat.le_of_ble_eq_true rfl) ⟨_, _, rfl⟩ rfl) ?_
                          refine RA.steps 6 rfl ?_
                          refine RA.call0 rfl rfl rfl (Run.ex 4000 (Nat.le_of_ble_eq_true rfl) ⟨_, _, rfl⟩ rfl) ?_
                          refine RA.steps 4 rfl ?_
                          refine RA.call0 rfl rfl rfl (one_no c rfl) ?_
                          refine RA.steps 3 rfl ?_
                          refine RA.call0 rfl rfl rfl (by
                            refine ⟨Nat.le_of_ble_eq_true rfl, ⟨_, _, rfl⟩, ?_⟩
                            refine RA.steps 1 rfl ?_
                            refine RA.if1F rfl (decide_eq_false h66) ?_
                            refine RA.steps 4 rfl ?_
                            refine RA.if2T rfl (decide_eq_true (Int32.not_lt.mp h67)) ?_
                            refine RA.steps 1 rfl ?_
                            exact RA.ret rfl rfl) ?_
                          refine RA.steps 10 rfl ?_
                          exact RA.ret rfl rfl, by
                          refine ⟨Nat.le_of_ble_eq_true rfl, ⟨_, _, rfl⟩, ?_⟩
                          refine RA.steps 12 rfl ?_
                          refine RA.call0 rfl rfl rfl (by
                            refine ⟨Nat.le_of_ble_eq_true rfl, ⟨_, _, rfl⟩, ?_⟩
                            refine RA.steps 4 rfl ?_
                            refine RA.call0 rfl rfl rfl (isIn_f (v := c) (lo := 0) (hi := 3) (fun q => h67 (le_lt_4 q.2))) ?_
                            exact RA.ret rfl rfl) ?_
                          refine RA.steps 4 rfl ?_
                          refine RA.call0 rfl rfl rfl (Run.ex 4000 (Nat.le_of_ble_eq_true rfl) ⟨_, _, rfl⟩ rfl) ?_
                          refine RA.steps 4 rfl ?_
                          exact RA.ret rfl rfl⟩
                · exact ⟨_, _, _, by
                      refine ⟨Nat.le_of_ble_eq_true rfl, ⟨_, _, rfl⟩, ?_⟩
                      refine RA.steps 2 rfl ?_
                      refine RA.call0 rfl rfl rfl (Run.ex 4000 (Nat.le_of_ble_eq_true rfl) ⟨_, _, rfl⟩ rfl) ?_
                      refine RA.steps 6 rfl ?_
                      refine RA.call0 rfl rfl rfl (within_f (v := b) (lo := 0) (hi := 3) h53) ?_
                      refine RA.steps 2 rfl ?_
                      exact RA.ret rfl rfl, by
                      refine ⟨Nat.le_of_ble_eq_true rfl, ⟨_, _, rfl⟩, ?_⟩
                      refine RA.steps 1 rfl ?_
                      refine RA.if1F rfl (decide_eq_false h56) ?_
                      refine RA.steps 2 rfl ?_
                      refine RA.if2F rfl (decide_eq_false h59) ?_
                      refine RA.steps 2 rfl ?_
                      refine RA.if2T rfl (decide_eq_true h62) ?_
                      refine RA.steps 2 rfl ?_
                      refine RA.if2T rfl (decide_eq_true h65) ?_
                      refine RA.steps 3 rfl ?_
                      refine RA.call0 rfl rfl rfl (Run.ex 4000 (Nat.le_of_ble_eq_true rfl) ⟨_, _, rfl⟩ rfl) ?_
                      refine RA.steps 4 rfl ?_
                      exact RA.ret rfl rfl⟩
