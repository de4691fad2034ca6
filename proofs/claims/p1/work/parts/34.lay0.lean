set_option maxRecDepth 100000 in
set_option maxHeartbeats 60000000 in
theorem q_lay0 (E : pX) (b c : Int32) : ∃ (r : Int32) (h1 h2 : List pC), Run prog E pV0 40 mX7_lay [.ref 0, .int 0, .int b, .int c] h0 (some (.int r), h1, 0, 0) ∧ Run prog E pV0 40 mX8_lay [.ref 110, .int 0, .int b, .int c] h1 (some (.int r), h2, 0, 0) := by
        by_cases h8 : 0 ≤ b ∧ b ≤ 3
        · by_cases h9 : c < 0
          · rcases cases_0_3 h8 with rfl | rfl | rfl | rfl
            · exact ⟨_, _, _, by
                  refine ⟨Nat.le_of_ble_eq_true rfl, ⟨_, _, rfl⟩, ?_⟩
                  refine RA.steps 2 rfl ?_
                  refine RA.call0 rfl rfl rfl (Run.ex 4000 (Nat.le_of_ble_eq_true rfl) ⟨_, _, rfl⟩ rfl) ?_
                  refine RA.steps 6 rfl ?_
                  refine RA.call0 rfl rfl rfl (Run.ex 4000 (Nat.le_of_ble_eq_true rfl) ⟨_, _, rfl⟩ rfl) ?_
                  refine RA.steps 4 rfl ?_
                  refine RA.call0 rfl rfl rfl (one_no c rfl) ?_
                  refine RA.steps 3 rfl ?_
                  refine RA.call0 rfl rfl rfl (by
                    refine ⟨Nat.le_of_ble_eq_true rfl, ⟨_, _, rfl⟩, ?_⟩
                    refine RA.steps 1 rfl ?_
                    refine RA.if1T rfl (decide_eq_true h9) ?_
                    refine RA.steps 1 rfl ?_
                    exact RA.ret rfl rfl) ?_
                  refine RA.steps 26 rfl ?_
                  exact RA.ret rfl rfl, by
                  exact Run.ex 4000 (Nat.le_of_ble_eq_true rfl) ⟨_, _, rfl⟩ rfl⟩
            · exact ⟨_, _, _, by
                  refine ⟨Nat.le_of_ble_eq_true rfl, ⟨_, _, rfl⟩, ?_⟩
                  refine RA.steps 2 rfl ?_
                  refine RA.call0 rfl rfl rfl (Run.ex 4000 (Nat.le_of_ble_eq_true rfl) ⟨_, _, rfl⟩ rfl) ?_
                  refine RA.steps 6 rfl ?_
                  refine RA.call0 rfl rfl rfl (Run.ex 4000 (Nat.le_of_ble_eq_true rfl) ⟨_, _, rfl⟩ rfl) ?_
                  refine RA.steps 4 rfl ?_
                  refine RA.call0 rfl rfl rfl (one_no c rfl) ?_
                  refine RA.steps 3 rfl ?_
                  refine RA.call0 rfl rfl rfl (by
                    refine ⟨Nat.le_of_ble_eq_true rfl, ⟨_, _, rfl⟩, ?_⟩
                    refine RA.steps 1 rfl ?_
                    refine RA.if1T rfl (decide_eq_true h9) ?_
                    refine RA.steps 1 rfl ?_
                    exact RA.ret rfl rfl) ?_
                  refine RA.steps 7 rfl ?_
                  exact RA.ret rfl rfl, by
                  refine ⟨Nat.le_of_ble_eq_true rfl, ⟨_, _, rfl⟩, ?_⟩
                  refine RA.steps 10 rfl ?_
                  refine RA.call0 rfl rfl rfl (by
                    refine ⟨Nat.le_of_ble_eq_true rfl, ⟨_, _, rfl⟩, ?_⟩
                    refine RA.steps 10 rfl ?_
                    refine RA.call0 rfl rfl rfl (isIn_f (v := c) (lo := 0) (hi := (-1)) (in_no (by decide))) ?_
                    exact RA.ret rfl rfl) ?_
                  refine RA.steps 7 rfl ?_
                  refine RA.call0 rfl rfl rfl (Run.ex 4000 (Nat.le_of_ble_eq_true rfl) ⟨_, _, rfl⟩ rfl) ?_
                  refine RA.steps 4 rfl ?_
                  exact RA.ret rfl rfl⟩
            · exact ⟨_, _, _, by
                  refine ⟨Nat.le_of_ble_eq_true rfl, ⟨_, _, rfl⟩, ?_⟩
                  refine RA.steps 2 rfl ?_
                  refine RA.call0 rfl rfl rfl (Run.ex 4000 (Nat.le_of_ble_eq_true rfl) ⟨_, _, rfl⟩ rfl) ?_
                  refine RA.steps 6 rfl ?_
                  refine RA.call0 rfl rfl rfl (Run.ex 4000 (Nat.le_of_ble_eq_true rfl) ⟨_, _, rfl⟩ rfl) ?_
                  refine RA.steps 4 rfl ?_
                  refine RA.call0 rfl rfl rfl (one_no c rfl) ?_
                  refine RA.steps 3 rfl ?_
                  refine RA.call0 rfl rfl rfl (by
                    refine ⟨Nat.le_of_ble_eq_true rfl, ⟨_, _, rfl⟩, ?_⟩
                    refine RA.steps 1 rfl ?_
                    refine RA.if1T rfl (decide_eq_true h9) ?_
                    refine RA.steps 1 rfl ?_
                    exact RA.ret rfl rfl) ?_
                  refine RA.steps 10 rfl ?_
                  exact RA.ret rfl rfl, by
                  refine ⟨Nat.le_of_ble_eq_true rfl, ⟨_, _, rfl⟩, ?_⟩
                  refine RA.steps 12 rfl ?_
                  refine RA.call0 rfl rfl rfl (by
                    refine ⟨Nat.le_of_ble_eq_true rfl, ⟨_, _, rfl⟩, ?_⟩
                    refine RA.steps 4 rfl ?_
                    refine RA.call0 rfl rfl rfl (isIn_f (v := c) (lo := 0) (hi := 3) (fun q => absurd h9 (Int32.not_lt.mpr q.1))) ?_
                    exact RA.ret rfl rfl) ?_
                  refine RA.steps 4 rfl ?_
                  refine RA.call0 rfl rfl rfl (Run.ex 4000 (Nat.le_of_ble_eq_true rfl) ⟨_, _, rfl⟩ rfl) ?_
                  refine RA.steps 4 rfl ?_
                  exact RA.ret rfl rfl⟩
            · exact ⟨_, _, _, by
                  refine ⟨Nat.le_of_ble_eq_true rfl, ⟨_, _, rfl⟩, ?_⟩
                  refine RA.steps 2 rfl ?_
                  refine RA.call0 rfl rfl rfl (Run.ex 4000 (Nat.le_of_ble_eq_true rfl) ⟨_, _, rfl⟩ rfl) ?_
                  refine RA.steps 6 rfl ?_
                  refine RA.call0 rfl rfl rfl (Run.ex 4000 (Nat.le_of_ble_eq_true rfl) ⟨_, _, rfl⟩ rfl) ?_
                  refine RA.steps 4 rfl ?_
                  refine RA.call0 rfl rfl rfl (one_no c rfl) ?_
                  refine RA.steps 3 rfl ?_
                  refine RA.call0 rfl rfl rfl (by
                    refine ⟨Nat.le_of_ble_eq_true rfl, ⟨_, _, rfl⟩, ?_⟩
                    refine RA.steps 1 rfl ?_
                    refine RA.if1T rfl (decide_eq_true h9) ?_
                    refine RA.steps 1 rfl ?_
                    exact RA.ret rfl rfl) ?_
                  refine RA.steps 29 rfl ?_
                  exact RA.ret rfl rfl, by
                  exact Run.ex 4000 (Nat.le_of_ble_eq_true rfl) ⟨_, _, rfl⟩ rfl⟩
          · by_cases h10 : c < 4
            · rcases cases_0_3 (in_lt_4 h9 h10) with rfl | rfl | rfl | rfl
              · rcases cases_0_3 h8 with rfl | rfl | rfl | rfl
                · exact ⟨_, _, _, by
                      exact Run.ex 4000 (Nat.le_of_ble_eq_true rfl) ⟨_, _, rfl⟩ rfl, by
                      exact Run.ex 4000 (Nat.le_of_ble_eq_true rfl) ⟨_, _, rfl⟩ rfl⟩
                · exact ⟨_, _, _, by
                      exact Run.ex 4000 (Nat.le_of_ble_eq_true rfl) ⟨_, _, rfl⟩ rfl, by
                      exact Run.ex 4000 (Nat.le_of_ble_eq_true rfl) ⟨_, _, rfl⟩ rfl⟩
                · exact ⟨_, _, _, by
                      exact Run.ex 4000 (Nat.le_of_ble_eq_true rfl) ⟨_, _, rfl⟩ rfl, by
                      exact Run.ex 4000 (Nat.le_of_ble_eq_true rfl) ⟨_, _, rfl⟩ rfl⟩
                · exact ⟨_, _, _, by
                      exact Run.ex 4000 (Nat.le_of_ble_eq_true rfl) ⟨_, _, rfl⟩ rfl, by
                      exact Run.ex 4000 (Nat.le_of_ble_eq_true rfl) ⟨_, _, rfl⟩ rfl⟩
              · rcases cases_0_3 h8 with rfl | rfl | rfl | rfl
                · exact ⟨_, _, _, by
                      exact Run.ex 4000 (Nat.le_of_ble_eq_true rfl) ⟨_, _, rfl⟩ rfl, by
                      exact Run.ex 4000 (Nat.le_of_ble_eq_true rfl) ⟨_, _, rfl⟩ rfl⟩
                · exact ⟨_, _, _, by
                      exact Run.ex 4000 (Nat.le_of_ble_eq_true rfl) ⟨_, _, rfl⟩ rfl, by
                      exact Run.ex 4000 (Nat.le_of_ble_eq_true rfl) ⟨_, _, rfl⟩ rfl⟩
                · exact ⟨_, _, _, by
                      exact Run.ex 4000 (Nat.le_of_ble_eq_true rfl) ⟨_, _, rfl⟩ rfl, by
                      exact Run.ex 4000 (Nat.le_of_ble_eq_true rfl) ⟨_, _, rfl⟩ rfl⟩
                · exact ⟨_, _, _, by
                      exact Run.ex 4000 (Nat.le_of_ble_eq_true rfl) ⟨_, _, rfl⟩ rfl, by
                      exact Run.ex 4000 (Nat.le_of_ble_eq_true rfl) ⟨_, _, rfl⟩ rfl⟩
              · rcases cases_0_3 h8 with rfl | rfl | rfl | rfl
                · exact ⟨_, _, _, by
                      exact Run.ex 4000 (Nat.le_of_ble_eq_true rfl) ⟨_, _, rfl⟩ rfl, by
                      exact Run.ex 4000 (Nat.le_of_ble_eq_true rfl) ⟨_, _, rfl⟩ rfl⟩
                · exact ⟨_, _, _, by
                      exact Run.ex 4000 (Nat.le_of_ble_eq_true rfl) ⟨_, _, rfl⟩ rfl, by
                      exact Run.ex 4000 (Nat.le_of_ble_eq_true rfl) ⟨_, _, rfl⟩ rfl⟩
                · exact ⟨_, _, _, by
                      exact Run.ex 4000 (Nat.le_of_ble_eq_true rfl) ⟨_, _, rfl⟩ rfl, by
                      exact Run.ex 4000 (Nat.le_of_ble_eq_true rfl) ⟨_, _, rfl⟩ rfl⟩
                · exact ⟨_, _, _, by
                      exact Run.ex 4000 (Nat.le_of_ble_eq_true rfl) ⟨_, _, rfl⟩ rfl, by
                      exact Run.ex 4000 (Nat.le_of_ble_eq_true rfl) ⟨_, _, rfl⟩ rfl⟩
              · rcases cases_0_3 h8 with rfl | rfl | rfl | rfl
                · exact ⟨_, _, _, by
                      exact Run.ex 4000 (Nat.le_of_ble_eq_true rfl) ⟨_, _, rfl⟩ rfl, by
                      exact Run.ex 4000 (Nat.le_of_ble_eq_true rfl) ⟨_, _, rfl⟩ rfl⟩
                · exact ⟨_, _, _, by
                      exact Run.ex 4000 (Nat.le_of_ble_eq_true rfl) ⟨_, _, rfl⟩ rfl, by
                      exact Run.ex 4000 (Nat.le_of_ble_eq_true rfl) ⟨_, _, rfl⟩ rfl⟩
                · exact ⟨_, _, _, by
                      exact Run.ex 4000 (Nat.le_of_ble_eq_true rfl) ⟨_, _, rfl⟩ rfl, by
                      exact Run.ex 4000 (Nat.le_of_ble_eq_true rfl) ⟨_, _, rfl⟩ rfl⟩
                · exact ⟨_, _, _, by
                      exact Run.ex 4000 (Nat.le_of_ble_eq_true rfl) ⟨_, _, rfl⟩ rfl, by
                      exact Run.ex 4000 (Nat.le_of_ble_eq_true rfl) ⟨_, _, rfl⟩ rfl⟩
            · rcases cases_0_3 h8 with rfl | rfl | rfl | rfl
              · exact ⟨_, _, _, by
                    refine ⟨Nat.le_of_ble_eq_true rfl, ⟨_, _, rfl⟩, ?_⟩
                    refine RA.steps 2 rfl ?_
                    refine RA.call0 rfl rfl rfl (Run.ex 4000 (Nat.le_of_ble_eq_true rfl) ⟨_, _, rfl⟩ rfl) ?_
                    refine RA.steps 6 rfl ?_
                    refine RA.call0 rfl rfl rfl (Run.ex 4000 (Nat.le_of_ble_eq_true rfl) ⟨_, _, rfl⟩ rfl) ?_
                    refine RA.steps 4 rfl ?_
                    refine RA.call0 rfl rfl rfl (one_no c rfl) ?_
                    refine RA.steps 3 rfl ?_
                    refine RA.call0 rfl rfl rfl (by
                      refine ⟨Nat.le_of_ble_eq_true rfl, ⟨_, _, rfl⟩, ?_⟩
                      refine RA.steps 1 rfl ?_
                      refine RA.if1F rfl (decide_eq_false h9) ?_
                      refine RA.steps 4 rfl ?_
                      refine RA.if2T rfl (decide_eq_true (Int32.not_lt.mp h10)) ?_
                      refine RA.steps 1 rfl ?_
                      exact RA.ret rfl rfl) ?_
                    refine RA.steps 26 rfl ?_
                    exact RA.ret rfl rfl, by
                    exact Run.ex 4000 (Nat.le_of_ble_eq_true rfl) ⟨_, _, rfl⟩ rfl⟩
              · exact ⟨_, _, _, by
                    refine ⟨Nat.le_of_ble_eq_true rfl, ⟨_, _, rfl⟩, ?_⟩
                    refine RA.steps 2 rfl ?_
                    refine RA.call0 rfl rfl rfl (Run.ex 4000 (Nat.le_of_ble_eq_true rfl) ⟨_, _, rfl⟩ rfl) ?_
                    refine RA.steps 6 rfl ?_
                    refine RA.call0 rfl rfl rfl (Run.ex 4000 (Nat.le_of_ble_eq_true rfl) ⟨_, _, rfl⟩ rfl) ?_
                    refine RA.steps 4 rfl ?_
                    refine RA.call0 rfl rfl rfl (one_no c rfl) ?_
                    refine RA.steps 3 rfl ?_
                    refine RA.call0 rfl rfl rfl (by
                      refine ⟨Nat.le_of_ble_eq_true rfl, ⟨_, _, rfl⟩, ?_⟩
                      refine RA.steps 1 rfl ?_
                      refine RA.if1F rfl (decide_eq_false h9) ?_
                      refine RA.steps 4 rfl ?_
                      refine RA.if2T rfl (decide_eq_true (Int32.not_lt.mp h10)) ?_
                      refine RA.steps 1 rfl ?_
                      exact RA.ret rfl rfl) ?_
                    refine RA.steps 7 rfl ?_
                    exact RA.ret rfl rfl, by
                    refine ⟨Nat.le_of_ble_eq_true rfl, ⟨_, _, rfl⟩, ?_⟩
                    refine RA.steps 10 rfl ?_
                    refine RA.call0 rfl rfl rfl (by
                      refine ⟨Nat.le_of_ble_eq_true rfl, ⟨_, _, rfl⟩, ?_⟩
                      refine RA.steps 10 rfl ?_
                      refine RA.call0 rfl rfl rfl (isIn_f (v := c) (lo := 0) (hi := (-1)) (in_no (by decide))) ?_
                      exact RA.ret rfl rfl) ?_
                    refine RA.steps 7 rfl ?_
                    refine RA.call0 rfl rfl rfl (Run.ex 4000 (Nat.le_of_ble_eq_true rfl) ⟨_, _, rfl⟩ rfl) ?_
                    refine RA.steps 4 rfl ?_
                    exact RA.ret rfl rfl⟩
              · exact ⟨_, _, _, by
                    refine ⟨Nat.le_of_ble_eq_true rfl, ⟨_, _, rfl⟩, ?_⟩
                    refine RA.steps 2 rfl ?_
                    refine RA.call0 rfl rfl rfl (Run.ex 4000 (Nat.le_of_ble_eq_true rfl) ⟨_, _, rfl⟩ rfl) ?_
                    refine RA.steps 6 rfl ?_
                    refine RA.call0 rfl rfl rfl (Run.ex 4000 (Nat.le_of_ble_eq_true rfl) ⟨_, _, rfl⟩ rfl) ?_
                    refine RA.steps 4 rfl ?_
                    refine RA.call0 rfl rfl rfl (one_no c rfl) ?_
                    refine RA.steps 3 rfl ?_
                    refine RA.call0 rfl rfl rfl (by
                      refine ⟨Nat.le_of_ble_eq_true rfl, ⟨_, _, rfl⟩, ?_⟩
                      refine RA.steps 1 rfl ?_
                      refine RA.if1F rfl (decide_eq_false h9) ?_
                      refine RA.steps 4 rfl ?_
                      refine RA.if2T rfl (decide_eq_true (Int32.not_lt.mp h10)) ?_
                      refine RA.steps 1 rfl ?_
                      exact RA.ret rfl rfl) ?_
                    refine RA.steps 10 rfl ?_
                    exact RA.ret rfl rfl, by
                    refine ⟨Nat.le_of_ble_eq_true rfl, ⟨_, _, rfl⟩, ?_⟩
                    refine RA.steps 12 rfl ?_
                    refine RA.call0 rfl rfl rfl (by
                      refine ⟨Nat.le_of_ble_eq_true rfl, ⟨_, _, rfl⟩, ?_⟩
                      refine RA.steps 4 rfl ?_
                      refine RA.call0 rfl rfl rfl (isIn_f (v := c) (lo := 0) (hi := 3) (fun q => h10 (le_lt_4 q.2))) ?_
                      exact RA.ret rfl rfl) ?_
                    refine RA.steps 4 rfl ?_
                    refine RA.call0 rfl rfl rfl (Run.ex 4000 (Nat.le_of_ble_eq_true rfl) ⟨_, _, rfl⟩ rfl) ?_
                    refine RA.steps 4 rfl ?_
                    exact RA.ret rfl rfl⟩
              · exact ⟨_, _, _, by
                    refine ⟨Nat.le_of_ble_eq_true rfl, ⟨_, _, rfl⟩, ?_⟩
                    refine RA.steps 2 rfl ?_
                    refine RA.call0 rfl rfl rfl (Run.ex 4000 (Nat.le_of_ble_eq_true rfl) ⟨_, _, rfl⟩ rfl) ?_
                    refine RA.steps 6 rfl ?_
                    refine RA.call0 rfl rfl rfl (Run.ex 4000 (Nat.le_of_ble_eq_true rfl) ⟨_, _, rfl⟩ rfl) ?_
                    refine RA.steps 4 rfl ?_
                    refine RA.call0 rfl rfl rfl (one_no c rfl) ?_
                    refine RA.steps 3 rfl ?_
                    refine RA.call0 rfl rfl rfl (by
                      refine ⟨Nat.le_of_ble_eq_true rfl, ⟨_, _, rfl⟩, ?_⟩
                      refine RA.steps 1 rfl ?_
                      refine RA.if1F rfl (decide_eq_false h9) ?_
                      refine RA.steps 4 rfl ?_
                      refine RA.if2T rfl (decide_eq_true (Int32.not_lt.mp h10)) ?_
                      refine RA.steps 1 rfl ?_
                      exact RA.ret rfl rfl) ?_
                    refine RA.steps 29 rfl ?_
                    exact RA.ret rfl rfl, by
                    exact Run.ex 4000 (Nat.le_of_ble_eq_true rfl) ⟨_, _, rfl⟩ rfl⟩
        · by_cases h11 : b = 0
          · subst h11
            by_cases h12 : c < 0
            · exact ⟨_, _, _, by
                  refine ⟨Nat.le_of_ble_eq_true rfl, ⟨_, _, rfl⟩, ?_⟩
                  refine RA.steps 2 rfl ?_
                  refine RA.call0 rfl rfl rfl (Run.ex 4000 (Nat.le_of_ble_eq_true rfl) ⟨_, _, rfl⟩ rfl) ?_
                  refine RA.steps 6 rfl ?_
                  refine RA.call0 rfl rfl rfl (Run.ex 4000 (Nat.le_of_ble_eq_true rfl) ⟨_, _, rfl⟩ rfl) ?_
                  refine RA.steps 4 rfl ?_
                  refine RA.call0 rfl rfl rfl (one_no c rfl) ?_
                  refine RA.steps 3 rfl ?_
                  refine RA.call0 rfl rfl rfl (by
                    refine ⟨Nat.le_of_ble_eq_true rfl, ⟨_, _, rfl⟩, ?_⟩
                    refine RA.steps 1 rfl ?_
                    refine RA.if1T rfl (decide_eq_true h12) ?_
                    refine RA.steps 1 rfl ?_
                    exact RA.ret rfl rfl) ?_
                  refine RA.steps 26 rfl ?_
                  exact RA.ret rfl rfl, by
                  exact Run.ex 4000 (Nat.le_of_ble_eq_true rfl) ⟨_, _, rfl⟩ rfl⟩
            · by_cases h13 : c < 4
              · rcases cases_0_3 (in_lt_4 h12 h13) with rfl | rfl | rfl | rfl
                · exact ⟨_, _, _, by
                      exact Run.ex 4000 (Nat.le_of_ble_eq_true rfl) ⟨_, _, rfl⟩ rfl, by
                      exact Run.ex 4000 (Nat.le_of_ble_eq_true rfl) ⟨_, _, rfl⟩ rfl⟩
                · exact ⟨_, _, _, by
                      exact Run.ex 4000 (Nat.le_of_ble_eq_true rfl) ⟨_, _, rfl⟩ rfl, by
                      exact Run.ex 4000 (Nat.le_of_ble_eq_true rfl) ⟨_, _, rfl⟩ rfl⟩
                · exact ⟨_, _, _, by
                      exact Run.ex 4000 (Nat.le_of_ble_eq_true rfl) ⟨_, _, rfl⟩ rfl, by
                      exact Run.ex 4000 (Nat.le_of_ble_eq_true rfl) ⟨_, _, rfl⟩ rfl⟩
                · exact ⟨_, _, _, by
                      exact Run.ex 4000 (Nat.le_of_ble_eq_true rfl) ⟨_, _, rfl⟩ rfl, by
                      exact Run.ex 4000 (Nat.le_of_ble_eq_true rfl) ⟨_, _, rfl⟩ rfl⟩
              · exact ⟨_, _, _, by
                    refine ⟨Nat.le_of_ble_eq_true rfl, ⟨_, _, rfl⟩, ?_⟩
                    refine RA.steps 2 rfl ?_
                    refine RA.call0 rfl rfl rfl (Run.ex 4000 (Nat.le_of_ble_eq_true rfl) ⟨_, _, rfl⟩ rfl) ?_
                    refine RA.steps 6 rfl ?_
                    refine RA.call0 rfl rfl rfl (Run.ex 4000 (Nat.le_of_ble_eq_true rfl) ⟨_, _, rfl⟩ rfl) ?_
                    refine RA.steps 4 rfl ?_
                    refine RA.call0 rfl rfl rfl (one_no c rfl) ?_
                    refine RA.steps 3 rfl ?_
                    refine RA.call0 rfl rfl rfl (by
                      refine ⟨Nat.le_of_ble_eq_true rfl, ⟨_, _, rfl⟩, ?_⟩
                      refine RA.steps 1 rfl ?_
                      refine RA.if1F rfl (decide_eq_false h12) ?_
                      refine RA.steps 4 rfl ?_
                      refine RA.if2T rfl (decide_eq_true (Int32.not_lt.mp h13)) ?_
                      refine RA.steps 1 rfl ?_
                      exact RA.ret rfl rfl) ?_
                    refine RA.steps 26 rfl ?_
                    exact RA.ret rfl rfl, by
                    exact Run.ex 4000 (Nat.le_of_ble_eq_true rfl) ⟨_, _, rfl⟩ rfl⟩
          · by_cases h14 : b = 3
            · subst h14
              by_cases h15 : c < 0
              · exact ⟨_, _, _, by
                    refine ⟨Nat.le_of_ble_eq_true rfl, ⟨_, _, rfl⟩, ?_⟩
                    refine RA.steps 2 rfl ?_
                    refine RA.call0 rfl rfl rfl (Run.ex 4000 (Nat.le_of_ble_eq_true rfl) ⟨_, _, rfl⟩ rfl) ?_
                    refine RA.steps 6 rfl ?_
                    refine RA.call0 rfl rfl rfl (Run.ex 4000 (Nat.le_of_ble_eq_true rfl) ⟨_, _, rfl⟩ rfl) ?_
                    refine RA.steps 4 rfl ?_
                    refine RA.call0 rfl rfl rfl (one_no c rfl) ?_
                    refine RA.steps 3 rfl ?_
                    refine RA.call0 rfl rfl rfl (by
                      refine ⟨Nat.le_of_ble_eq_true rfl, ⟨_, _, rfl⟩, ?_⟩
                      refine RA.steps 1 rfl ?_
                      refine RA.if1T rfl (decide_eq_true h15) ?_
                      refine RA.steps 1 rfl ?_
                      exact RA.ret rfl rfl) ?_
                    refine RA.steps 29 rfl ?_
                    exact RA.ret rfl rfl, by
                    exact Run.ex 4000 (Nat.le_of_ble_eq_true rfl) ⟨_, _, rfl⟩ rfl⟩
              · by_cases h16 : c < 4
                · rcases cases_0_3 (in_lt_4 h15 h16) with rfl | rfl | rfl | rfl
                  · exact ⟨_, _, _, by
                        exact Run.ex 4000 (Nat.le_of_ble_eq_true rfl) ⟨_, _, rfl⟩ rfl, by
                        exact Run.ex 4000 (Nat.le_of_ble_eq_true rfl) ⟨_, _, rfl⟩ rfl⟩
                  · exact ⟨_, _, _, by
                        exact Run.ex 4000 (Nat.le_of_ble_eq_true rfl) ⟨_, _, rfl⟩ rfl, by
                        exact Run.ex 4000 (Nat.le_of_ble_eq_true rfl) ⟨_, _, rfl⟩ rfl⟩
                  · exact ⟨_, _, _, by
                        exact Run.ex 4000 (Nat.le_of_ble_eq_true rfl) ⟨_, _, rfl⟩ rfl, by
                        exact Run.ex 4000 (Nat.le_of_ble_eq_true rfl) ⟨_, _, rfl⟩ rfl⟩
                  · exact ⟨_, _, _, by
                        exact Run.ex 4000 (Nat.le_of_ble_eq_true rfl) ⟨_, _, rfl⟩ rfl, by
                        exact Run.ex 4000 (Nat.le_of_ble_eq_true rfl) ⟨_, _, rfl⟩ rfl⟩
                · exact ⟨_, _, _, by
                      refine ⟨Nat.le_of_ble_eq_true rfl, ⟨_, _, rfl⟩, ?_⟩
                      refine RA.steps 2 rfl ?_
                      refine RA.call0 rfl rfl rfl (Run.ex 4000 (Nat.le_of_ble_eq_true rfl) ⟨_, _, rfl⟩ rfl) ?_
                      refine RA.steps 6 rfl ?_
                      refine RA.call0 rfl rfl rfl (Run.ex 4000 (Nat.le_of_ble_eq_true rfl) ⟨_, _, rfl⟩ rfl) ?_
                      refine RA.steps 4 rfl ?_
                      refine RA.call0 rfl rfl rfl (one_no c rfl) ?_
                      refine RA.steps 3 rfl ?_
                      refine RA.call0 rfl rfl rfl (by
                        refine ⟨Nat.le_of_ble_eq_true rfl, ⟨_, _, rfl⟩, ?_⟩
                        refine RA.steps 1 rfl ?_
                        refine RA.if1F rfl (decide_eq_false h15) ?_
                        refine RA.steps 4 rfl ?_
                        refine RA.if2T rfl (decide_eq_true (Int32.not_lt.mp h16)) ?_
                        refine RA.steps 1 rfl ?_
                        exact RA.ret rfl rfl) ?_
                      refine RA.steps 29 rfl ?_
                      exact RA.ret rfl rfl, by
                      exact Run.ex 4000 (Nat.le_of_ble_eq_true rfl) ⟨_, _, rfl⟩ rfl⟩
            · by_cases h17 : b = 1
              · subst h17
                by_cases h18 : c < 0
                · exact ⟨_, _, _, by
                      refine ⟨Nat.le_of_ble_eq_true rfl, ⟨_, _, rfl⟩, ?_⟩
                      refine RA.steps 2 rfl ?_
                      refine RA.call0 rfl rfl rfl (Run.ex 4000 (Nat.le_of_ble_eq_true rfl) ⟨_, _, rfl⟩ rfl) ?_
                      refine RA.steps 6 rfl ?_
                      refine RA.call0 rfl rfl rfl (Run.ex 4000 (Nat.le_of_ble_eq_true rfl) ⟨_, _, rfl⟩ rfl) ?_
                      refine RA.steps 4 rfl ?_
                      refine RA.call0 rfl rfl rfl (one_no c rfl) ?_
                      refine RA.steps 3 rfl ?_
                      refine RA.call0 rfl rfl rfl (by
                        refine ⟨Nat.le_of_ble_eq_true rfl, ⟨_, _, rfl⟩, ?_⟩
                        refine RA.steps 1 rfl ?_
                        refine RA.if1T rfl (decide_eq_true h18) ?_
                        refine RA.steps 1 rfl ?_
                        exact RA.ret rfl rfl) ?_
                      refine RA.steps 7 rfl ?_
                      exact RA.ret rfl rfl, by
                      refine ⟨Nat.le_of_ble_eq_true rfl, ⟨_, _, rfl⟩, ?_⟩
                      refine RA.steps 10 rfl ?_
                      refine RA.call0 rfl rfl rfl (by
                        refine ⟨Nat.le_of_ble_eq_true rfl, ⟨_, _, rfl⟩, ?_⟩
                        refine RA.steps 10 rfl ?_
                        refine RA.call0 rfl rfl rfl (isIn_f (v := c) (lo := 0) (hi := (-1)) (in_no (by decide))) ?_
                        exact RA.ret rfl rfl) ?_
                      refine RA.steps 7 rfl ?_
                      refine RA.call0 rfl rfl rfl (Run.ex 4000 (Nat.le_of_ble_eq_true rfl) ⟨_, _, rfl⟩ rfl) ?_
                      refine RA.steps 4 rfl ?_
                      exact RA.ret rfl rfl⟩
                · by_cases h19 : c < 4
                  · rcases cases_0_3 (in_lt_4 h18 h19) with rfl | rfl | rfl | rfl
                    · exact ⟨_, _, _, by
                          exact Run.ex 4000 (Nat.le_of_ble_eq_true rfl) ⟨_, _, rfl⟩ rfl, by
                          exact Run.ex 4000 (Nat.le_of_ble_eq_true rfl) ⟨_, _, rfl⟩ rfl⟩
                    · exact ⟨_, _, _, by
                          exact Run.ex 4000 (Nat.le_of_ble_eq_true rfl) ⟨_, _, rfl⟩ rfl, by
                          exact Run.ex 4000 (Nat.le_of_ble_eq_true rfl) ⟨_, _, rfl⟩ rfl⟩
                    · exact ⟨_, _, _, by
                          exact Run.ex 4000 (Nat.le_of_ble_eq_true rfl) ⟨_, _, rfl⟩ rfl, by
                          exact Run.ex 4000 (Nat.le_of_ble_eq_true rfl) ⟨_, _, rfl⟩ rfl⟩
                    · exact ⟨_, _, _, by
                          exact Run.ex 4000 (Nat.le_of_ble_eq_true rfl) ⟨_, _, rfl⟩ rfl, by
                          exact Run.ex 4000 (Nat.le_of_ble_eq_true rfl) ⟨_, _, rfl⟩ rfl⟩
                  · exact ⟨_, _, _, by
                        refine ⟨Nat.le_of_ble_eq_true rfl, ⟨_, _, rfl⟩, ?_⟩
                        refine RA.steps 2 rfl ?_
                        refine RA.call0 rfl rfl rfl (Run.ex 4000 (Nat.le_of_ble_eq_true rfl) ⟨_, _, rfl⟩ rfl) ?_
                        refine RA.steps 6 rfl ?_
                        refine RA.call0 rfl rfl rfl (Run.ex 4000 (Nat.le_of_ble_eq_true rfl) ⟨_, _, rfl⟩ rfl) ?_
                        refine RA.steps 4 rfl ?_
                        refine RA.call0 rfl rfl rfl (one_no c rfl) ?_
                        refine RA.steps 3 rfl ?_
                        refine RA.call0 rfl rfl rfl (by
                          refine ⟨Nat.le_of_ble_eq_true rfl, ⟨_, _, rfl⟩, ?_⟩
                          refine RA.steps 1 rfl ?_
                          refine RA.if1F rfl (decide_eq_false h18) ?_
                          refine RA.steps 4 rfl ?_
                          refine RA.if2T rfl (decide_eq_true (Int32.not_lt.mp h19)) ?_
                          refine RA.steps 1 rfl ?_
                          exact RA.ret rfl rfl) ?_
                        refine RA.steps 7 rfl ?_
                        exact RA.ret rfl rfl, by
                        refine ⟨Nat.le_of_ble_eq_true rfl, ⟨_, _, rfl⟩, ?_⟩
                        refine RA.steps 10 rfl ?_
                        refine RA.call0 rfl rfl rfl (by
                          refine ⟨Nat.le_of_ble_eq_true rfl, ⟨_, _, rfl⟩, ?_⟩
                          refine RA.steps 10 rfl ?_
                          refine RA.call0 rfl rfl rfl (isIn_f (v := c) (lo := 0) (hi := (-1)) (in_no (by decide))) ?_
                          exact RA.ret rfl rfl) ?_
                        refine RA.steps 7 rfl ?_
                        refine RA.call0 rfl rfl rfl (Run.ex 4000 (Nat.le_of_ble_eq_true rfl) ⟨_, _, rfl⟩ rfl) ?_
                        refine RA.steps 4 rfl ?_
                        exact RA.ret rfl rfl⟩
              · by_cases h20 : b = 2
                · subst h20
                  by_cases h21 : c < 0
                  · exact ⟨_, _, _, by
                        refine ⟨Nat.le_of_ble_eq_true rfl, ⟨_, _, rfl⟩, ?_⟩
                        refine RA.steps 2 rfl ?_
                        refine RA.call0 rfl rfl rfl (Run.ex 4000 (Nat.le_of_ble_eq_true rfl) ⟨_, _, rfl⟩ rfl) ?_
                        refine RA.steps 6 rfl ?_
                        refine RA.call0 rfl rfl rfl (Run.ex 4000 (Nat.le_of_ble_eq_true rfl) ⟨_, _, rfl⟩ rfl) ?_
                        refine RA.steps 4 rfl ?_
                        refine RA.call0 rfl rfl rfl (one_no c rfl) ?_
                        refine RA.steps 3 rfl ?_
                        refine RA.call0 rfl rfl rfl (by
                          refine ⟨Nat.le_of_ble_eq_true rfl, ⟨_, _, rfl⟩, ?_⟩
                          refine RA.steps 1 rfl ?_
                          refine RA.if1T rfl (decide_eq_true h21) ?_
                          refine RA.steps 1 rfl ?_
                          exact RA.ret rfl rfl) ?_
                        refine RA.steps 10 rfl ?_
                        exact RA.ret rfl rfl, by
                        refine ⟨Nat.le_of_ble_eq_true rfl, ⟨_, _, rfl⟩, ?_⟩
                        refine RA.steps 12 rfl ?_
                        refine RA.call0 rfl rfl rfl (by
                          refine ⟨Nat.le_of_ble_eq_true rfl, ⟨_, _, rfl⟩, ?_⟩
                          refine RA.steps 4 rfl ?_
                          refine RA.call0 rfl rfl rfl (isIn_f (v := c) (lo := 0) (hi := 3) (fun q => absurd h21 (Int32.not_lt.mpr q.1))) ?_
                          exact RA.ret rfl rfl) ?_
                        refine RA.steps 4 rfl ?_
                        refine RA.call0 rfl rfl rfl (Run.ex 4000 (Nat.le_of_ble_eq_true rfl) ⟨_, _, rfl⟩ rfl) ?_
                        refine RA.steps 4 rfl ?_
                        exact RA.ret rfl rfl⟩
                  · by_cases h22 : c < 4
                    · rcases cases_0_3 (in_lt_4 h21 h22) with rfl | rfl | rfl | rfl
                      · exact ⟨_, _, _, by
                            exact Run.ex 4000 (Nat.le_of_ble_eq_true rfl) ⟨_, _, rfl⟩ rfl, by
                            exact Run.ex 4000 (Nat.le_of_ble_eq_true rfl) ⟨_, _, rfl⟩ rfl⟩
                      · exact ⟨_, _, _, by
                            exact Run.ex 4000 (Nat.le_of_ble_eq_true rfl) ⟨_, _, rfl⟩ rfl, by
                            exact Run.ex 4000 (Nat.le_of_ble_eq_true rfl) ⟨_, _, rfl⟩ rfl⟩
                      · exact ⟨_, _, _, by
                            exact Run.ex 4000 (Nat.le_of_ble_eq_true rfl) ⟨_, _, rfl⟩ rfl, by
                            exact Run.ex 4000 (Nat.le_of_ble_eq_true rfl) ⟨_, _, rfl⟩ rfl⟩
                      · exact ⟨_, _, _, by
                            exact Run.ex 4000 (Nat.le_of_ble_eq_true rfl) ⟨_, _, rfl⟩ rfl, by
                            exact Run.ex 4000 (Nat.le_of_ble_eq_true rfl) ⟨_, _, rfl⟩ rfl⟩
                    · exact ⟨_, _, _, by
                          refine ⟨Nat.le_of_ble_eq_true rfl, ⟨_, _, rfl⟩, ?_⟩
                          refine RA.steps 2 rfl ?_
                          refine RA.call0 rfl rfl rfl (Run.ex 4000 (Nat.le_of_ble_eq_true rfl) ⟨_, _, rfl⟩ rfl) ?_
                          refine RA.steps 6 rfl ?_
                          refine RA.call0 rfl rfl rfl (Run.ex 4000 (Nat.le_of_ble_eq_true rfl) ⟨_, _, rfl⟩ rfl) ?_
                          refine RA.steps 4 rfl ?_
                          refine RA.call0 rfl rfl rfl (one_no c rfl) ?_
                          refine RA.steps 3 rfl ?_
                          refine RA.call0 rfl rfl rfl (by
                            refine ⟨Nat.le_of_ble_eq_true rfl, ⟨_, _, rfl⟩, ?_⟩
                            refine RA.steps 1 rfl ?_
                            refine RA.if1F rfl (decide_eq_false h21) ?_
                            refine RA.steps 4 rfl ?_
                            refine RA.if2T rfl (decide_eq_true (Int32.not_lt.mp h22)) ?_
                            refine RA.steps 1 rfl ?_
                            exact RA.ret rfl rfl) ?_
                          refine RA.steps 10 rfl ?_
                          exact RA.ret rfl rfl, by
                          refine ⟨Nat.le_of_ble_eq_true rfl, ⟨_, _, rfl⟩, ?_⟩
                          refine RA.steps 12 rfl ?_
                          refine RA.call0 rfl rfl rfl (by
                            refine ⟨Nat.le_of_ble_eq_true rfl, ⟨_, _, rfl⟩, ?_⟩
                            refine RA.steps 4 rfl ?_
                            refine RA.call0 rfl rfl rfl (isIn_f (v := c) (lo := 0) (hi := 3) (fun q => h22 (le_lt_4 q.2))) ?_
                            exact RA.ret rfl rfl) ?_
                          refine RA.steps 4 rfl ?_
                          refine RA.call0 rfl rfl rfl (Run.ex 4000 (Nat.le_of_ble_eq_true rfl) ⟨_, _, rfl⟩ rfl) ?_
                          refine RA.steps 4 rfl ?_
                          exact RA.ret rfl rfl⟩
                · exact ⟨_, _, _, by
                      refine ⟨Nat.le_of_ble_eq_true rfl, ⟨_, _, rfl⟩, ?_⟩
                      refine RA.steps 2 rfl ?_
                      refine RA.call0 rfl rfl rfl (Run.ex 4000 (Nat.le_of_ble_eq_true rfl) ⟨_, _, rfl⟩ rfl) ?_
                      refine RA.steps 6 rfl ?_
                      refine RA.call0 rfl rfl rfl (within_f (v := b) (lo := 0) (hi := 3) h8) ?_
                      refine RA.steps 2 rfl ?_
                      exact RA.ret rfl rfl, by
                      refine ⟨Nat.le_of_ble_eq_true rfl, ⟨_, _, rfl⟩, ?_⟩
                      refine RA.steps 1 rfl ?_
                      refine RA.if1F rfl (decide_eq_false h11) ?_
                      refine RA.steps 2 rfl ?_
                      refine RA.if2F rfl (decide_eq_false h14) ?_
                      refine RA.steps 2 rfl ?_
                      refine RA.if2T rfl (decide_eq_true h17) ?_
                      refine RA.steps 2 rfl ?_
                      refine RA.if2T rfl (decide_eq_true h20) ?_
                      refine RA.steps 3 rfl ?_
                      refine RA.call0 rfl rfl rfl (Run.ex 4000 (Nat.le_of_ble_eq_true rfl) ⟨_, _, rfl⟩ rfl) ?_
                      refine RA.steps 4 rfl ?_
                      exact RA.ret rfl rfl⟩
