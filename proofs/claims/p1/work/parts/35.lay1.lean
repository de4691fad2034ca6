set_option maxRecDepth 100000 in
set_option maxHeartbeats 60000000 in
theorem q_lay1 (E : pX) (b c : Int32) : ∃ (r : Int32) (h1 h2 : List pC), Run prog E pV0 40 mX7_lay [.ref 0, .int 1, .int b, .int c] h0 (some (.int r), h1, 0, 0) ∧ Run prog E pV0 40 mX8_lay [.ref 110, .int 1, .int b, .int c] h1 (some (.int r), h2, 0, 0) := by
        by_cases h23 : 0 ≤ b ∧ b ≤ 3
        · by_cases h24 : c < 0
          · rcases cases_0_3 h23 with rfl | rfl | rfl | rfl
            · exact ⟨_, _, _, by
                  refine ⟨Nat.le_of_ble_eq_true rfl, ⟨_, _, rfl⟩, ?_⟩
                  refine RA.steps 2 rfl ?_
                  refine RA.call0 rfl rfl rfl (Run.ex 4000 (Nat.le_of_ble_eq_true rfl) ⟨_, _, rfl⟩ rfl) ?_
                  refine RA.steps 6 rfl ?_
                  refine RA.call0 rfl rfl rfl (Run.ex 4000 (Nat.le_of_ble_eq_true rfl) ⟨_, _, rfl⟩ rfl) ?_
                  refine RA.steps 4 rfl ?_
                  refine RA.call0 rfl rfl rfl (one_no c rfl) ?_
                  refine RA.steps 3 rfl ?_
                  refine RA.call0 rfl rfl rfl (by
                    refine ⟨Nat.le_of_ble_eq_true rfl, ⟨_, _, rfl⟩, ?_⟩
                    refine RA.steps 1 rfl ?_
                    refine RA.if1T rfl (decide_eq_true h24) ?_
                    refine RA.steps 1 rfl ?_
                    exact RA.ret rfl rfl) ?_
                  refine RA.steps 26 rfl ?_
                  exact RA.ret rfl rfl, by
                  exact Run.ex 4000 (Nat.le_of_ble_eq_true rfl) ⟨_, _, rfl⟩ rfl⟩
            · exact ⟨_, _, _, by
                  refine ⟨Nat.le_of_ble_eq_true rfl, ⟨_, _, rfl⟩, ?_⟩
                  refine RA.steps 2 rfl ?_
                  refine RA.call0 rfl rfl rfl (Run.ex 4000 (Nat.le_of_ble_eq_true rfl) ⟨_, _, rfl⟩ rfl) ?_
                  refine RA.steps 6 rfl ?_
                  refine RA.call0 rfl rfl rfl (Run.ex 4000 (Nat.le_of_ble_eq_true rfl) ⟨_, _, rfl⟩ rfl) ?_
                  refine RA.steps 4 rfl ?_
                  refine RA.call0 rfl rfl rfl (one_no c rfl) ?_
                  refine RA.steps 3 rfl ?_
                  refine RA.call0 rfl rfl rfl (by
                    refine ⟨Nat.le_of_ble_eq_true rfl, ⟨_, _, rfl⟩, ?_⟩
                    refine RA.steps 1 rfl ?_
                    refine RA.if1T rfl (decide_eq_true h24) ?_
                    refine RA.steps 1 rfl ?_
                    exact RA.ret rfl rfl) ?_
                  refine RA.steps 7 rfl ?_
                  exact RA.ret rfl rfl, by
                  refine ⟨Nat.le_of_ble_eq_true rfl, ⟨_, _, rfl⟩, ?_⟩
                  refine RA.steps 10 rfl ?_
                  refine RA.call0 rfl rfl rfl (by
                    refine ⟨Nat.le_of_ble_eq_true rfl, ⟨_, _, rfl⟩, ?_⟩
                    refine RA.steps 10 rfl ?_
                    refine RA.call0 rfl rfl rfl (isIn_f (v := c) (lo := 0) (hi := (-1)) (in_no (by decide))) ?_
                    exact RA.ret rfl rfl) ?_
                  refine RA.steps 7 rfl ?_
                  refine RA.call0 rfl rfl rfl (Run.ex 4000 (Nat.le_of_ble_eq_true rfl) ⟨_, _, rfl⟩ rfl) ?_
                  refine RA.steps 4 rfl ?_
                  exact RA.ret rfl rfl⟩
            · exact ⟨_, _, _, by
                  refine ⟨Nat.le_of_ble_eq_true rfl, ⟨_, _, rfl⟩, ?_⟩
                  refine RA.steps 2 rfl ?_
                  refine RA.call0 rfl rfl rfl (Run.ex 4000 (Nat.le_of_ble_eq_true rfl) ⟨_, _, rfl⟩ rfl) ?_
                  refine RA.steps 6 rfl ?_
                  refine RA.call0 rfl rfl rfl (Run.ex 4000 (Nat.le_of_ble_eq_true rfl) ⟨_, _, rfl⟩ rfl) ?_
                  refine RA.steps 4 rfl ?_
                  refine RA.call0 rfl rfl rfl (one_no c rfl) ?_
                  refine RA.steps 3 rfl ?_
                  refine RA.call0 rfl rfl rfl (by
                    refine ⟨Nat.le_of_ble_eq_true rfl, ⟨_, _, rfl⟩, ?_⟩
                    refine RA.steps 1 rfl ?_
                    refine RA.if1T rfl (decide_eq_true h24) ?_
                    refine RA.steps 1 rfl ?_
                    exact RA.ret rfl rfl) ?_
                  refine RA.steps 10 rfl ?_
                  exact RA.ret rfl rfl, by
                  refine ⟨Nat.le_of_ble_eq_true rfl, ⟨_, _, rfl⟩, ?_⟩
                  refine RA.steps 12 rfl ?_
                  refine RA.call0 rfl rfl rfl (by
                    refine ⟨Nat.le_of_ble_eq_true rfl, ⟨_, _, rfl⟩, ?_⟩
                    refine RA.steps 4 rfl ?_
                    refine RA.call0 rfl rfl rfl (isIn_f (v := c) (lo := 0) (hi := 3) (fun q => absurd h24 (Int32.not_lt.mpr q.1))) ?_
                    exact RA.ret rfl rfl) ?_
                  refine RA.steps 4 rfl ?_
                  refine RA.call0 rfl rfl rfl (Run.ex 4000 (Nat.le_of_ble_eq_true rfl) ⟨_, _, rfl⟩ rfl) ?_
                  refine RA.steps 4 rfl ?_
                  exact RA.ret rfl rfl⟩
            · exact ⟨_, _, _, by
                  refine ⟨Nat.le_of_ble_eq_true rfl, ⟨_, _, rfl⟩, ?_⟩
                  refine RA.steps 2 rfl ?_
                  refine RA.call0 rfl rfl rfl (Run.ex 4000 (Nat.le_of_ble_eq_true rfl) ⟨_, _, rfl⟩ rfl) ?_
                  refine RA.steps 6 rfl ?_
                  refine RA.call0 rfl rfl rfl (Run.ex 4000 (Nat.le_of_ble_eq_true rfl) ⟨_, _, rfl⟩ rfl) ?_
                  refine RA.steps 4 rfl ?_
                  refine RA.call0 rfl rfl rfl (one_no c rfl) ?_
                  refine RA.steps 3 rfl ?_
                  refine RA.call0 rfl rfl rfl (by
                    refine ⟨Nat.le_of_ble_eq_true rfl, ⟨_, _, rfl⟩, ?_⟩
                    refine RA.steps 1 rfl ?_
                    refine RA.if1T rfl (decide_eq_true h24) ?_
                    refine RA.steps 1 rfl ?_
                    exact RA.ret rfl rfl) ?_
                  refine RA.steps 29 rfl ?_
                  exact RA.ret rfl rfl, by
                  exact Run.ex 4000 (Nat.le_of_ble_eq_true rfl) ⟨_, _, rfl⟩ rfl⟩
          · by_cases h25 : c < 4
            · rcases cases_0_3 (in_lt_4 h24 h25) with rfl | rfl | rfl | rfl
              · rcases cases_0_3 h23 with rfl | rfl | rfl | rfl
                · exact ⟨_, _, _, by
                      exact Run.ex 4000 (Nat.le_of_ble_eq_true rfl) ⟨_, _, rfl⟩ rfl, by
                      exact Run.ex 4000 (Nat.le_of_ble_eq_true rfl) ⟨_, _, rfl⟩ rfl⟩
                · exact ⟨_, _, _, by
                      exact Run.ex 4000 (Nat.le_of_ble_eq_true rfl) ⟨_, _, rfl⟩ rfl, by
                      exact Run.ex 4000 (Nat.le_of_ble_eq_true rfl) ⟨_, _, rfl⟩ rfl⟩
                · exact ⟨_, _, _, by
                      exact Run.ex 4000 (Nat.le_of_ble_eq_true rfl) ⟨_, _, rfl⟩ rfl, by
                      exact Run.ex 4000 (Nat.le_of_ble_eq_true rfl) ⟨_, _, rfl⟩ rfl⟩
                · exact ⟨_, _, _, by
                      exact Run.ex 4000 (Nat.le_of_ble_eq_true rfl) ⟨_, _, rfl⟩ rfl, by
                      exact Run.ex 4000 (Nat.le_of_ble_eq_true rfl) ⟨_, _, rfl⟩ rfl⟩
              · rcases cases_0_3 h23 with rfl | rfl | rfl | rfl
                · exact ⟨_, _, _, by
                      exact Run.ex 4000 (Nat.le_of_ble_eq_true rfl) ⟨_, _, rfl⟩ rfl, by
                      exact Run.ex 4000 (Nat.le_of_ble_eq_true rfl) ⟨_, _, rfl⟩ rfl⟩
                · exact ⟨_, _, _, by
                      exact Run.ex 4000 (Nat.le_of_ble_eq_true rfl) ⟨_, _, rfl⟩ rfl, by
                      exact Run.ex 4000 (Nat.le_of_ble_eq_true rfl) ⟨_, _, rfl⟩ rfl⟩
                · exact ⟨_, _, _, by
                      exact Run.ex 4000 (Nat.le_of_ble_eq_true rfl) ⟨_, _, rfl⟩ rfl, by
                      exact Run.ex 4000 (Nat.le_of_ble_eq_true rfl) ⟨_, _, rfl⟩ rfl⟩
                · exact ⟨_, _, _, by
                      exact Run.ex 4000 (Nat.le_of_ble_eq_true rfl) ⟨_, _, rfl⟩ rfl, by
                      exact Run.ex 4000 (Nat.le_of_ble_eq_true rfl) ⟨_, _, rfl⟩ rfl⟩
              · rcases cases_0_3 h23 with rfl | rfl | rfl | rfl
                · exact ⟨_, _, _, by
                      exact Run.ex 4000 (Nat.le_of_ble_eq_true rfl) ⟨_, _, rfl⟩ rfl, by
                      exact Run.ex 4000 (Nat.le_of_ble_eq_true rfl) ⟨_, _, rfl⟩ rfl⟩
                · exact ⟨_, _, _, by
                      exact Run.ex 4000 (Nat.le_of_ble_eq_true rfl) ⟨_, _, rfl⟩ rfl, by
                      exact Run.ex 4000 (Nat.le_of_ble_eq_true rfl) ⟨_, _, rfl⟩ rfl⟩
                · exact ⟨_, _, _, by
                      exact Run.ex 4000 (Nat.le_of_ble_eq_true rfl) ⟨_, _, rfl⟩ rfl, by
                      exact Run.ex 4000 (Nat.le_of_ble_eq_true rfl) ⟨_, _, rfl⟩ rfl⟩
                · exact ⟨_, _, _, by
                      exact Run.ex 4000 (Nat.le_of_ble_eq_true rfl) ⟨_, _, rfl⟩ rfl, by
                      exact Run.ex 4000 (Nat.le_of_ble_eq_true rfl) ⟨_, _, rfl⟩ rfl⟩
              · rcases cases_0_3 h23 with rfl | rfl | rfl | rfl
                · exact ⟨_, _, _, by
                      exact Run.ex 4000 (Nat.le_of_ble_eq_true rfl) ⟨_, _, rfl⟩ rfl, by
                      exact Run.ex 4000 (Nat.le_of_ble_eq_true rfl) ⟨_, _, rfl⟩ rfl⟩
                · exact ⟨_, _, _, by
                      exact Run.ex 4000 (Nat.le_of_ble_eq_true rfl) ⟨_, _, rfl⟩ rfl, by
                      exact Run.ex 4000 (Nat.le_of_ble_eq_true rfl) ⟨_, _, rfl⟩ rfl⟩
                · exact ⟨_, _, _, by
                      exact Run.ex 4000 (Nat.le_of_ble_eq_true rfl) ⟨_, _, rfl⟩ rfl, by
                      exact Run.ex 4000 (Nat.le_of_ble_eq_true rfl) ⟨_, _, rfl⟩ rfl⟩
                · exact ⟨_, _, _, by
                      exact Run.ex 4000 (Nat.le_of_ble_eq_true rfl) ⟨_, _, rfl⟩ rfl, by
                      exact Run.ex 4000 (Nat.le_of_ble_eq_true rfl) ⟨_, _, rfl⟩ rfl⟩
            · rcases cases_0_3 h23 with rfl | rfl | rfl | rfl
              · exact ⟨_, _, _, by
                    refine ⟨Nat.le_of_ble_eq_true rfl, ⟨_, _, rfl⟩, ?_⟩
                    refine RA.steps 2 rfl ?_
                    refine RA.call0 rfl rfl rfl (Run.ex 4000 (Nat.le_of_ble_eq_true rfl) ⟨_, _, rfl⟩ rfl) ?_
                    refine RA.steps 6 rfl ?_
                    refine RA.call0 rfl rfl rfl (Run.ex 4000 (Nat.le_of_ble_eq_true rfl) ⟨_, _, rfl⟩ rfl) ?_
                    refine RA.steps 4 rfl ?_
                    refine RA.call0 rfl rfl rfl (one_no c rfl) ?_
                    refine RA.steps 3 rfl ?_
                    refine RA.call0 rfl rfl rfl (by
                      refine ⟨Nat.le_of_ble_eq_true rfl, ⟨_, _, rfl⟩, ?_⟩
                      refine RA.steps 1 rfl ?_
                      refine RA.if1F rfl (decide_eq_false h24) ?_
                      refine RA.steps 4 rfl ?_
                      refine RA.if2T rfl (decide_eq_true (Int32.not_lt.mp h25)) ?_
                      refine RA.steps 1 rfl ?_
                      exact RA.ret rfl rfl) ?_
                    refine RA.steps 26 rfl ?_
                    exact RA.ret rfl rfl, by
                    exact Run.ex 4000 (Nat.le_of_ble_eq_true rfl) ⟨_, _, rfl⟩ rfl⟩
              · exact ⟨_, _, _, by
                    refine ⟨Nat.le_of_ble_eq_true rfl, ⟨_, _, rfl⟩, ?_⟩
                    refine RA.steps 2 rfl ?_
                    refine RA.call0 rfl rfl rfl (Run.ex 4000 (Nat.le_of_ble_eq_true rfl) ⟨_, _, rfl⟩ rfl) ?_
                    refine RA.steps 6 rfl ?_
                    refine RA.call0 rfl rfl rfl (Run.ex 4000 (Nat.le_of_ble_eq_true rfl) ⟨_, _, rfl⟩ rfl) ?_
                    refine RA.steps 4 rfl ?_
                    refine RA.call0 rfl rfl rfl (one_no c rfl) ?_
                    refine RA.steps 3 rfl ?_
                    refine RA.call0 rfl rfl rfl (by
                      refine ⟨Nat.le_of_ble_eq_true rfl, ⟨_, _, rfl⟩, ?_⟩
                      refine RA.steps 1 rfl ?_
                      refine RA.if1F rfl (decide_eq_false h24) ?_
                      refine RA.steps 4 rfl ?_
                      refine RA.if2T rfl (decide_eq_true (Int32.not_lt.mp h25)) ?_
                      refine RA.steps 1 rfl ?_
                      exact RA.ret rfl rfl) ?_
                    refine RA.steps 7 rfl ?_
                    exact RA.ret rfl rfl, by
                    refine ⟨Nat.le_of_ble_eq_true rfl, ⟨_, _, rfl⟩, ?_⟩
                    refine RA.steps 10 rfl ?_
                    refine RA.call0 rfl rfl rfl (by
                      refine ⟨Nat.le_of_ble_eq_true rfl, ⟨_, _, rfl⟩, ?_⟩
                      refine RA.steps 10 rfl ?_
                      refine RA.call0 rfl rfl rfl (isIn_f (v := c) (lo := 0) (hi := (-1)) (in_no (by decide))) ?_
                      exact RA.ret rfl rfl) ?_
                    refine RA.steps 7 rfl ?_
                    refine RA.call0 rfl rfl rfl (Run.ex 4000 (Nat.le_of_ble_eq_true rfl) ⟨_, _, rfl⟩ rfl) ?_
                    refine RA.steps 4 rfl ?_
                    exact RA.ret rfl rfl⟩
              · exact ⟨_, _, _, by
                    refine ⟨Nat.le_of_ble_eq_true rfl, ⟨_, _, rfl⟩, ?_⟩
                    refine RA.steps 2 rfl ?_
                    refine RA.call0 rfl rfl rfl (Run.ex 4000 (Nat.le_of_ble_eq_true rfl) ⟨_, _, rfl⟩ rfl) ?_
                    refine RA.steps 6 rfl ?_
                    refine RA.call0 rfl rfl rfl (Run.ex 4000 (Nat.le_of_ble_eq_true rfl) ⟨_, _, rfl⟩ rfl) ?_
                    refine RA.steps 4 rfl ?_
                    refine RA.call0 rfl rfl rfl (one_no c rfl) ?_
                    refine RA.steps 3 rfl ?_
                    refine RA.call0 rfl rfl rfl (by
                      refine ⟨Nat.le_of_ble_eq_true rfl, ⟨_, _, rfl⟩, ?_⟩
                      refine RA.steps 1 rfl ?_
                      refine RA.if1F rfl (decide_eq_false h24) ?_
                      refine RA.steps 4 rfl ?_
                      refine RA.if2T rfl (decide_eq_true (Int32.not_lt.mp h25)) ?_
                      refine RA.steps 1 rfl ?_
                      exact RA.ret rfl rfl) ?_
                    refine RA.steps 10 rfl ?_
                    exact RA.ret rfl rfl, by
                    refine ⟨Nat.le_of_ble_eq_true rfl, ⟨_, _, rfl⟩, ?_⟩
                    refine RA.steps 12 rfl ?_
                    refine RA.call0 rfl rfl rfl (by
                      refine ⟨Nat.le_of_ble_eq_true rfl, ⟨_, _, rfl⟩, ?_⟩
                      refine RA.steps 4 rfl ?_
                      refine RA.call0 rfl rfl rfl (isIn_f (v := c) (lo := 0) (hi := 3) (fun q => h25 (le_lt_4 q.2))) ?_
                      exact RA.ret rfl rfl) ?_
                    refine RA.steps 4 rfl ?_
                    refine RA.call0 rfl rfl rfl (Run.ex 4000 (Nat.le_of_ble_eq_true rfl) ⟨_, _, rfl⟩ rfl) ?_
                    refine RA.steps 4 rfl ?_
                    exact RA.ret rfl rfl⟩
              · exact ⟨_, _, _, by
                    refine ⟨Nat.le_of_ble_eq_true rfl, ⟨_, _, rfl⟩, ?_⟩
                    refine RA.steps 2 rfl ?_
                    refine RA.call0 rfl rfl rfl (Run.ex 4000 (Nat.le_of_ble_eq_true rfl) ⟨_, _, rfl⟩ rfl) ?_
                    refine RA.steps 6 rfl ?_
                    refine RA.call0 rfl rfl rfl (Run.ex 4000 (Nat.le_of_ble_eq_true rfl) ⟨_, _, rfl⟩ rfl) ?_
                    refine RA.steps 4 rfl ?_
                    refine RA.call0 rfl rfl rfl (one_no c rfl) ?_
                    refine RA.steps 3 rfl ?_
                    refine RA.call0 rfl rfl rfl (by
                      refine ⟨Nat.le_of_ble_eq_true rfl, ⟨_, _, rfl⟩, ?_⟩
                      refine RA.steps 1 rfl ?_
                      refine RA.if1F rfl (decide_eq_false h24) ?_
                      refine RA.steps 4 rfl ?_
                      refine RA.if2T rfl (decide_eq_true (Int32.not_lt.mp h25)) ?_
                      refine RA.steps 1 rfl ?_
                      exact RA.ret rfl rfl) ?_
                    refine RA.steps 29 rfl ?_
                    exact RA.ret rfl rfl, by
                    exact Run.ex 4000 (Nat.le_of_ble_eq_true rfl) ⟨_, _, rfl⟩ rfl⟩
        · by_cases h26 : b = 0
          · subst h26
            by_cases h27 : c < 0
            · exact ⟨_, _, _, by
                  refine ⟨Nat.le_of_ble_eq_true rfl, ⟨_, _, rfl⟩, ?_⟩
                  refine RA.steps 2 rfl ?_
                  refine RA.call0 rfl rfl rfl (Run.ex 4000 (Nat.le_of_ble_eq_true rfl) ⟨_, _, rfl⟩ rfl) ?_
                  refine RA.steps 6 rfl ?_
                  refine RA.call0 rfl rfl rfl (Run.ex 4000 (Nat.le_of_ble_eq_true rfl) ⟨_, _, rfl⟩ rfl) ?_
                  refine RA.steps 4 rfl ?_
                  refine RA.call0 rfl rfl rfl (one_no c rfl) ?_
                  refine RA.steps 3 rfl ?_
                  refine RA.call0 rfl rfl rfl (by
                    refine ⟨Nat.le_of_ble_eq_true rfl, ⟨_, _, rfl⟩, ?_⟩
                    refine RA.steps 1 rfl ?_
                    refine RA.if1T rfl (decide_eq_true h27) ?_
                    refine RA.steps 1 rfl ?_
                    exact RA.ret rfl rfl) ?_
                  refine RA.steps 26 rfl ?_
                  exact RA.ret rfl rfl, by
                  exact Run.ex 4000 (Nat.le_of_ble_eq_true rfl) ⟨_, _, rfl⟩ rfl⟩
            · by_cases h28 : c < 4
              · rcases cases_0_3 (in_lt_4 h27 h28) with rfl | rfl | rfl | rfl
                · exact ⟨_, _, _, by
                      exact Run.ex 4000 (Nat.le_of_ble_eq_true rfl) ⟨_, _, rfl⟩ rfl, by
                      exact Run.ex 4000 (Nat.le_of_ble_eq_true rfl) ⟨_, _, rfl⟩ rfl⟩
                · exact ⟨_, _, _, by
                      exact Run.ex 4000 (Nat.le_of_ble_eq_true rfl) ⟨_, _, rfl⟩ rfl, by
                      exact Run.ex 4000 (Nat.le_of_ble_eq_true rfl) ⟨_, _, rfl⟩ rfl⟩
                · exact ⟨_, _, _, by
                      exact Run.ex 4000 (Nat.le_of_ble_eq_true rfl) ⟨_, _, rfl⟩ rfl, by
                      exact Run.ex 4000 (Nat.le_of_ble_eq_true rfl) ⟨_, _, rfl⟩ rfl⟩
                · exact ⟨_, _, _, by
                      exact Run.ex 4000 (Nat.le_of_ble_eq_true rfl) ⟨_, _, rfl⟩ rfl, by
                      exact Run.ex 4000 (Nat.le_of_ble_eq_true rfl) ⟨_, _, rfl⟩ rfl⟩
              · exact ⟨_, _, _, by
                    refine ⟨Nat.le_of_ble_eq_true rfl, ⟨_, _, rfl⟩, ?_⟩
                    refine RA.steps 2 rfl ?_
                    refine RA.call0 rfl rfl rfl (Run.ex 4000 (Nat.le_of_ble_eq_true rfl) ⟨_, _, rfl⟩ rfl) ?_
                    refine RA.steps 6 rfl ?_
                    refine RA.call0 rfl rfl rfl (Run.ex 4000 (Nat.le_of_ble_eq_true rfl) ⟨_, _, rfl⟩ rfl) ?_
                    refine RA.steps 4 rfl ?_
                    refine RA.call0 rfl rfl rfl (one_no c rfl) ?_
                    refine RA.steps 3 rfl ?_
                    refine RA.call0 rfl rfl rfl (by
                      refine ⟨Nat.le_of_ble_eq_true rfl, ⟨_, _, rfl⟩, ?_⟩
                      refine RA.steps 1 rfl ?_
                      refine RA.if1F rfl (decide_eq_false h27) ?_
                      refine RA.steps 4 rfl ?_
                      refine RA.if2T rfl (decide_eq_true (Int32.not_lt.mp h28)) ?_
                      refine RA.steps 1 rfl ?_
                      exact RA.ret rfl rfl) ?_
                    refine RA.steps 26 rfl ?_
                    exact RA.ret rfl rfl, by
                    exact Run.ex 4000 (Nat.le_of_ble_eq_true rfl) ⟨_, _, rfl⟩ rfl⟩
          · by_cases h29 : b = 3
            · subst h29
              by_cases h30 : c < 0
              · exact ⟨_, _, _, by
                    refine ⟨Nat.le_of_ble_eq_true rfl, ⟨_, _, rfl⟩, ?_⟩
                    refine RA.steps 2 rfl ?_
                    refine RA.call0 rfl rfl rfl (Run.ex 4000 (Nat.le_of_ble_eq_true rfl) ⟨_, _, rfl⟩ rfl) ?_
                    refine RA.steps 6 rfl ?_
                    refine RA.call0 rfl rfl rfl (Run.ex 4000 (Nat.le_of_ble_eq_true rfl) ⟨_, _, rfl⟩ rfl) ?_
                    refine RA.steps 4 rfl ?_
                    refine RA.call0 rfl rfl rfl (one_no c rfl) ?_
                    refine RA.steps 3 rfl ?_
                    refine RA.call0 rfl rfl rfl (by
                      refine ⟨Nat.le_of_ble_eq_true rfl, ⟨_, _, rfl⟩, ?_⟩
                      refine RA.steps 1 rfl ?_
                      refine RA.if1T rfl (decide_eq_true h30) ?_
                      refine RA.steps 1 rfl ?_
                      exact RA.ret rfl rfl) ?_
                    refine RA.steps 29 rfl ?_
                    exact RA.ret rfl rfl, by
                    exact Run.ex 4000 (Nat.le_of_ble_eq_true rfl) ⟨_, _, rfl⟩ rfl⟩
              · by_cases h31 : c < 4
                · rcases cases_0_3 (in_lt_4 h30 h31) with rfl | rfl | rfl | rfl
                  · exact ⟨_, _, _, by
                        exact Run.ex 4000 (Nat.le_of_ble_eq_true rfl) ⟨_, _, rfl⟩ rfl, by
                        exact Run.ex 4000 (Nat.le_of_ble_eq_true rfl) ⟨_, _, rfl⟩ rfl⟩
                  · exact ⟨_, _, _, by
                        exact Run.ex 4000 (Nat.le_of_ble_eq_true rfl) ⟨_, _, rfl⟩ rfl, by
                        exact Run.ex 4000 (Nat.le_of_ble_eq_true rfl) ⟨_, _, rfl⟩ rfl⟩
                  · exact ⟨_, _, _, by
                        exact Run.ex 4000 (Nat.le_of_ble_eq_true rfl) ⟨_, _, rfl⟩ rfl, by
                        exact Run.ex 4000 (Nat.le_of_ble_eq_true rfl) ⟨_, _, rfl⟩ rfl⟩
                  · exact ⟨_, _, _, by
                        exact Run.ex 4000 (Nat.le_of_ble_eq_true rfl) ⟨_, _, rfl⟩ rfl, by
                        exact Run.ex 4000 (Nat.le_of_ble_eq_true rfl) ⟨_, _, rfl⟩ rfl⟩
                · exact ⟨_, _, _, by
                      refine ⟨Nat.le_of_ble_eq_true rfl, ⟨_, _, rfl⟩, ?_⟩
                      refine RA.steps 2 rfl ?_
                      refine RA.call0 rfl rfl rfl (Run.ex 4000 (Nat.le_of_ble_eq_true rfl) ⟨_, _, rfl⟩ rfl) ?_
                      refine RA.steps 6 rfl ?_
                      refine RA.call0 rfl rfl rfl (Run.ex 4000 (Nat.le_of_ble_eq_true rfl) ⟨_, _, rfl⟩ rfl) ?_
                      refine RA.steps 4 rfl ?_
                      refine RA.call0 rfl rfl rfl (one_no c rfl) ?_
                      refine RA.steps 3 rfl ?_
                      refine RA.call0 rfl rfl rfl (by
                        refine ⟨Nat.le_of_ble_eq_true rfl, ⟨_, _, rfl⟩, ?_⟩
                        refine RA.steps 1 rfl ?_
                        refine RA.if1F rfl (decide_eq_false h30) ?_
                        refine RA.steps 4 rfl ?_
                        refine RA.if2T rfl (decide_eq_true (Int32.not_lt.mp h31)) ?_
                        refine RA.steps 1 rfl ?_
                        exact RA.ret rfl rfl) ?_
                      refine RA.steps 29 rfl ?_
                      exact RA.ret rfl rfl, by
                      exact Run.ex 4000 (Nat.le_of_ble_eq_true rfl) ⟨_, _, rfl⟩ rfl⟩
            · by_cases h32 : b = 1
              · subst h32
                by_cases h33 : c < 0
                · exact ⟨_, _, _, by
                      refine ⟨Nat.le_of_ble_eq_true rfl, ⟨_, _, rfl⟩, ?_⟩
                      refine RA.steps 2 rfl ?_
                      refine RA.call0 rfl rfl rfl (Run.ex 4000 (Nat.le_of_ble_eq_true rfl) ⟨_, _, rfl⟩ rfl) ?_
                      refine RA.steps 6 rfl ?_
                      refine RA.call0 rfl rfl rfl (Run.ex 4000 (Nat.le_of_ble_eq_true rfl) ⟨_, _, rfl⟩ rfl) ?_
                      refine RA.steps 4 rfl ?_
                      refine RA.call0 rfl rfl rfl (one_no c rfl) ?_
                      refine RA.steps 3 rfl ?_
                      refine RA.call0 rfl rfl rfl (by
                        refine ⟨Nat.le_of_ble_eq_true rfl, ⟨_, _, rfl⟩, ?_⟩
                        refine RA.steps 1 rfl ?_
                        refine RA.if1T rfl (decide_eq_true h33) ?_
                        refine RA.steps 1 rfl ?_
                        exact RA.ret rfl rfl) ?_
                      refine RA.steps 7 rfl ?_
                      exact RA.ret rfl rfl, by
                      refine ⟨Nat.le_of_ble_eq_true rfl, ⟨_, _, rfl⟩, ?_⟩
                      refine RA.steps 10 rfl ?_
                      refine RA.call0 rfl rfl rfl (by
                        refine ⟨Nat.le_of_ble_eq_true rfl, ⟨_, _, rfl⟩, ?_⟩
                        refine RA.steps 10 rfl ?_
                        refine RA.call0 rfl rfl rfl (isIn_f (v := c) (lo := 0) (hi := (-1)) (in_no (by decide))) ?_
                        exact RA.ret rfl rfl) ?_
                      refine RA.steps 7 rfl ?_
                      refine RA.call0 rfl rfl rfl (Run.ex 4000 (Nat.le_of_ble_eq_true rfl) ⟨_, _, rfl⟩ rfl) ?_
                      refine RA.steps 4 rfl ?_
                      exact RA.ret rfl rfl⟩
                · by_cases h34 : c < 4
                  · rcases cases_0_3 (in_lt_4 h33 h34) with rfl | rfl | rfl | rfl
                    · exact ⟨_, _, _, by
                          exact Run.ex 4000 (Nat.le_of_ble_eq_true rfl) ⟨_, _, rfl⟩ rfl, by
                          exact Run.ex 4000 (Nat.le_of_ble_eq_true rfl) ⟨_, _, rfl⟩ rfl⟩
                    · exact ⟨_, _, _, by
                          exact Run.ex 4000 (Nat.le_of_ble_eq_true rfl) ⟨_, _, rfl⟩ rfl, by
                          exact Run.ex 4000 (Nat.le_of_ble_eq_true rfl) ⟨_, _, rfl⟩ rfl⟩
                    · exact ⟨_, _, _, by
                          exact Run.ex 4000 (Nat.le_of_ble_eq_true rfl) ⟨_, _, rfl⟩ rfl, by
                          exact Run.ex 4000 (Nat.le_of_ble_eq_true rfl) ⟨_, _, rfl⟩ rfl⟩
                    · exact ⟨_, _, _, by
                          exact Run.ex 4000 (Nat.le_of_ble_eq_true rfl) ⟨_, _, rfl⟩ rfl, by
                          exact Run.ex 4000 (Nat.le_of_ble_eq_true rfl) ⟨_, _, rfl⟩ rfl⟩
                  · exact ⟨_, _, _, by
                        refine ⟨Nat.le_of_ble_eq_true rfl, ⟨_, _, rfl⟩, ?_⟩
                        refine RA.steps 2 rfl ?_
                        refine RA.call0 rfl rfl rfl (Run.ex 4000 (Nat.le_of_ble_eq_true rfl) ⟨_, _, rfl⟩ rfl) ?_
                        refine RA.steps 6 rfl ?_
                        refine RA.call0 rfl rfl rfl (Run.ex 4000 (Nat.le_of_ble_eq_true rfl) ⟨_, _, rfl⟩ rfl) ?_
                        refine RA.steps 4 rfl ?_
                        refine RA.call0 rfl rfl rfl (one_no c rfl) ?_
                        refine RA.steps 3 rfl ?_
                        refine RA.call0 rfl rfl rfl (by
                          refine ⟨Nat.le_of_ble_eq_true rfl, ⟨_, _, rfl⟩, ?_⟩
                          refine RA.steps 1 rfl ?_
                          refine RA.if1F rfl (decide_eq_false h33) ?_
                          refine RA.steps 4 rfl ?_
                          refine RA.if2T rfl (decide_eq_true (Int32.not_lt.mp h34)) ?_
                          refine RA.steps 1 rfl ?_
                          exact RA.ret rfl rfl) ?_
                        refine RA.steps 7 rfl ?_
                        exact RA.ret rfl rfl, by
                        refine ⟨Nat.le_of_ble_eq_true rfl, ⟨_, _, rfl⟩, ?_⟩
                        refine RA.steps 10 rfl ?_
                        refine RA.call0 rfl rfl rfl (by
                          refine ⟨Nat.le_of_ble_eq_true rfl, ⟨_, _, rfl⟩, ?_⟩
                          refine RA.steps 10 rfl ?_
                          refine RA.call0 rfl rfl rfl (isIn_f (v := c) (lo := 0) (hi := (-1)) (in_no (by decide))) ?_
                          exact RA.ret rfl rfl) ?_
                        refine RA.steps 7 rfl ?_
                        refine RA.call0 rfl rfl rfl (Run.ex 4000 (Nat.le_of_ble_eq_true rfl) ⟨_, _, rfl⟩ rfl) ?_
                        refine RA.steps 4 rfl ?_
                        exact RA.ret rfl rfl⟩
              · by_cases h35 : b = 2
                · subst h35
                  by_cases h36 : c < 0
                  · exact ⟨_, _, _, by
                        refine ⟨Nat.le_of_ble_eq_true rfl, ⟨_, _, rfl⟩, ?_⟩
                        refine RA.steps 2 rfl ?_
                        refine RA.call0 rfl rfl rfl (Run.ex 4000 (Nat.le_of_ble_eq_true rfl) ⟨_, _, rfl⟩ rfl) ?_
                        refine RA.steps 6 rfl ?_
                        refine RA.call0 rfl rfl rfl (Run.ex 4000 (Nat.le_of_ble_eq_true rfl) ⟨_, _, rfl⟩ rfl) ?_
                        refine RA.steps 4 rfl ?_
                        refine RA.call0 rfl rfl rfl (one_no c rfl) ?_
                        refine RA.steps 3 rfl ?_
                        refine RA.call0 rfl rfl rfl (by
                          refine ⟨Nat.le_of_ble_eq_true rfl, ⟨_, _, rfl⟩, ?_⟩
                          refine RA.steps 1 rfl ?_
                          refine RA.if1T rfl (decide_eq_true h36) ?_
                          refine RA.steps 1 rfl ?_
                          exact RA.ret rfl rfl) ?_
                        refine RA.steps 10 rfl ?_
                        exact RA.ret rfl rfl, by
                        refine ⟨Nat.le_of_ble_eq_true rfl, ⟨_, _, rfl⟩, ?_⟩
                        refine RA.steps 12 rfl ?_
                        refine RA.call0 rfl rfl rfl (by
                          refine ⟨Nat.le_of_ble_eq_true rfl, ⟨_, _, rfl⟩, ?_⟩
                          refine RA.steps 4 rfl ?_
                          refine RA.call0 rfl rfl rfl (isIn_f (v := c) (lo := 0) (hi := 3) (fun q => absurd h36 (Int32.not_lt.mpr q.1))) ?_
                          exact RA.ret rfl rfl) ?_
                        refine RA.steps 4 rfl ?_
                        refine RA.call0 rfl rfl rfl (Run.ex 4000 (Nat.le_of_ble_eq_true rfl) ⟨_, _, rfl⟩ rfl) ?_
                        refine RA.steps 4 rfl ?_
                        exact RA.ret rfl rfl⟩
                  · by_cases h37 : c < 4
                    · rcases cases_0_3 (in_lt_4 h36 h37) with rfl | rfl | rfl | rfl
                      · exact ⟨_, _, _, by
                            exact Run.ex 4000 (Nat.le_of_ble_eq_true rfl) ⟨_, _, rfl⟩ rfl, by
                            exact Run.ex 4000 (Nat.le_of_ble_eq_true rfl) ⟨_, _, rfl⟩ rfl⟩
                      · exact ⟨_, _, _, by
                            exact Run.ex 4000 (Nat.le_of_ble_eq_true rfl) ⟨_, _, rfl⟩ rfl, by
                            exact Run.ex 4000 (Nat.le_of_ble_eq_true rfl) ⟨_, _, rfl⟩ rfl⟩
                      · exact ⟨_, _, _, by
                            exact Run.ex 4000 (Nat.le_of_ble_eq_true rfl) ⟨_, _, rfl⟩ rfl, by
                            exact Run.ex 4000 (Nat.le_of_ble_eq_true rfl) ⟨_, _, rfl⟩ rfl⟩
                      · exact ⟨_, _, _, by
                            exact Run.ex 4000 (Nat.le_of_ble_eq_true rfl) ⟨_, _, rfl⟩ rfl, by
                            exact Run.ex 4000 (Nat.le_of_ble_eq_true rfl) ⟨_, _, rfl⟩ rfl⟩
                    · exact ⟨_, _, _, by
                          refine ⟨Nat.le_of_ble_eq_true rfl, ⟨_, _, rfl⟩, ?_⟩
                          refine RA.steps 2 rfl ?_
                          refine RA.call0 rfl rfl rfl (Run.ex 4000 (Nat.le_of_ble_eq_true rfl) ⟨_, _, rfl⟩ rfl) ?_
                          refine RA.steps 6 rfl ?_
                          refine RA.call0 rfl rfl rfl (Run.ex 4000 (Nat.le_of_ble_eq_true rfl) ⟨_, _, rfl⟩ rfl) ?_
                          refine RA.steps 4 rfl ?_
                          refine RA.call0 rfl rfl rfl (one_no c rfl) ?_
                          refine RA.steps 3 rfl ?_
                          refine RA.call0 rfl rfl rfl (by
                            refine ⟨Nat.le_of_ble_eq_true rfl, ⟨_, _, rfl⟩, ?_⟩
                            refine RA.steps 1 rfl ?_
                            refine RA.if1F rfl (decide_eq_false h36) ?_
                            refine RA.steps 4 rfl ?_
                            refine RA.if2T rfl (decide_eq_true (Int32.not_lt.mp h37)) ?_
                            refine RA.steps 1 rfl ?_
                            exact RA.ret rfl rfl) ?_
                          refine RA.steps 10 rfl ?_
                          exact RA.ret rfl rfl, by
                          refine ⟨Nat.le_of_ble_eq_true rfl, ⟨_, _, rfl⟩, ?_⟩
                          refine RA.steps 12 rfl ?_
                          refine RA.call0 rfl rfl rfl (by
                            refine ⟨Nat.le_of_ble_eq_true rfl, ⟨_, _, rfl⟩, ?_⟩
                            refine RA.steps 4 rfl ?_
                            refine RA.call0 rfl rfl rfl (isIn_f (v := c) (lo := 0) (hi := 3) (fun q => h37 (le_lt_4 q.2))) ?_
                            exact RA.ret rfl rfl) ?_
                          refine RA.steps 4 rfl ?_
                          refine RA.call0 rfl rfl rfl (Run.ex 4000 (Nat.le_of_ble_eq_true rfl) ⟨_, _, rfl⟩ rfl) ?_
                          refine RA.steps 4 rfl ?_
                          exact RA.ret rfl rfl⟩
                · exact ⟨_, _, _, by
                      refine ⟨Nat.le_of_ble_eq_true rfl, ⟨_, _, rfl⟩, ?_⟩
                      refine RA.steps 2 rfl ?_
                      refine RA.call0 rfl rfl rfl (Run.ex 4000 (Nat.le_of_ble_eq_true rfl) ⟨_, _, rfl⟩ rfl) ?_
                      refine RA.steps 6 rfl ?_
                      refine RA.call0 rfl rfl rfl (within_f (v := b) (lo := 0) (hi := 3) h23) ?_
                      refine RA.steps 2 rfl ?_
                      exact RA.ret rfl rfl, by
                      refine ⟨Nat.le_of_ble_eq_true rfl, ⟨_, _, rfl⟩, ?_⟩
                      refine RA.steps 1 rfl ?_
                      refine RA.if1F rfl (decide_eq_false h26) ?_
                      refine RA.steps 2 rfl ?_
                      refine RA.if2F rfl (decide_eq_false h29) ?_
                      refine RA.steps 2 rfl ?_
                      refine RA.if2T rfl (decide_eq_true h32) ?_
                      refine RA.steps 2 rfl ?_
                      refine RA.if2T rfl (decide_eq_true h35) ?_
                      refine RA.steps 3 rfl ?_
                      refine RA.call0 rfl rfl rfl (Run.ex 4000 (Nat.le_of_ble_eq_true rfl) ⟨_, _, rfl⟩ rfl) ?_
                      refine RA.steps 4 rfl ?_
                      exact RA.ret rfl rfl⟩
