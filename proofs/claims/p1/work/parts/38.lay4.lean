set_option maxRecDepth 100000 in
set_option maxHeartbeats 60000000 in
theorem q_lay4 (E : pX) (b c : Int32) : ∃ (r : Int32) (h1 h2 : List pC), Run prog E pV0 40 mX7_lay [.ref 0, .int 4, .int b, .int c] h0 (some (.int r), h1, 0, 0) ∧ Run prog E pV0 40 mX8_lay [.ref 110, .int 4, .int b, .int c] h1 (some (.int r), h2, 0, 0) := by
        by_cases h68 : 0 ≤ b ∧ b ≤ 3
        · by_cases h69 : c < 0
          · rcases cases_0_3 h68 with rfl | rfl | rfl | rfl
            · exact ⟨_, _, _, by
                  refine ⟨Nat.le_of_ble_eq_true rfl, ⟨_, _, rfl⟩, ?_⟩
                  refine RA.steps 2 rfl ?_
                  refine RA.call0 rfl rfl rfl (Run.ex 4000 (Nat.le_of_ble_eq_true rfl) ⟨_, _, rfl⟩ rfl) ?_
                  refine RA.steps 6 rfl ?_
                  refine RA.call0 rfl rfl rfl (Run.ex 4000 (Nat.le_of_ble_eq_true rfl) ⟨_, _, rfl⟩ rfl) ?_
                  refine RA.steps 4 rfl ?_
                  refine RA.call0 rfl rfl rfl (one_no c rfl) ?_
                  refine RA.steps 3 rfl ?_
                  refine RA.call0 rfl rfl rfl (by
                    refine ⟨Nat.le_of_ble_eq_true rfl, ⟨_, _, rfl⟩, ?_⟩
                    refine RA.steps 1 rfl ?_
                    refine RA.if1T rfl (decide_eq_true h69) ?_
                    refine RA.steps 1 rfl ?_
                    exact RA.ret rfl rfl) ?_
                  refine RA.steps 26 rfl ?_
                  exact RA.ret rfl rfl, by
                  exact Run.ex 4000 (Nat.le_of_ble_eq_true rfl) ⟨_, _, rfl⟩ rfl⟩
            · exact ⟨_, _, _, by
                  refine ⟨Nat.le_of_ble_eq_true rfl, ⟨_, _, rfl⟩, ?_⟩
                  refine RA.steps 2 rfl ?_
                  refine RA.call0 rfl rfl rfl (Run.ex 4000 (Nat.le_of_ble_eq_true rfl) ⟨_, _, rfl⟩ rfl) ?_
                  refine RA.steps 6 rfl ?_
                  refine RA.call0 rfl rfl rfl (Run.ex 4000 (Nat.le_of_ble_eq_true rfl) ⟨_, _, rfl⟩ rfl) ?_
                  refine RA.steps 4 rfl ?_
                  refine RA.call0 rfl rfl rfl (one_no c rfl) ?_
                  refine RA.steps 3 rfl ?_
                  refine RA.call0 rfl rfl rfl (by
                    refine ⟨Nat.le_of_ble_eq_true rfl, ⟨_, _, rfl⟩, ?_⟩
                    refine RA.steps 1 rfl ?_
                    refine RA.if1T rfl (decide_eq_true h69) ?_
                    refine RA.steps 1 rfl ?_
                    exact RA.ret rfl rfl) ?_
                  refine RA.steps 7 rfl ?_
                  exact RA.ret rfl rfl, by
                  refine ⟨Nat.le_of_ble_eq_true rfl, ⟨_, _, rfl⟩, ?_⟩
                  refine RA.steps 10 rfl ?_
                  refine RA.call0 rfl rfl rfl (by
                    refine ⟨Nat.le_of_ble_eq_true rfl, ⟨_, _, rfl⟩, ?_⟩
                    refine RA.steps 10 rfl ?_
                    refine RA.call0 rfl rfl rfl (isIn_f (v := c) (lo := 0) (hi := (-1)) (in_no (by decide))) ?_
                    exact RA.ret rfl rfl) ?_
                  refine RA.steps 7 rfl ?_
                  refine RA.call0 rfl rfl rfl (Run.ex 4000 (Nat.le_of_ble_eq_true rfl) ⟨_, _, rfl⟩ rfl) ?_
                  refine RA.steps 4 rfl ?_
                  exact RA.ret rfl rfl⟩
            · exact ⟨_, _, _, by
                  refine ⟨Nat.le_of_ble_eq_true rfl, ⟨_, _, rfl⟩, ?_⟩
                  refine RA.steps 2 rfl ?_
                  refine RA.call0 rfl rfl rfl (Run.ex 4000 (Nat.le_of_ble_eq_true rfl) ⟨_, _, rfl⟩ rfl) ?_
                  refine RA.steps 6 rfl ?_
                  refine RA.call0 rfl rfl rfl (Run.ex 4000 (Nat.le_of_ble_eq_true rfl) ⟨_, _, rfl⟩ rfl) ?_
                  refine RA.steps 4 rfl ?_
                  refine RA.call0 rfl rfl rfl (one_no c rfl) ?_
                  refine RA.steps 3 rfl ?_
                  refine RA.call0 rfl rfl rfl (by
                    refine ⟨Nat.le_of_ble_eq_true rfl, ⟨_, _, rfl⟩, ?_⟩
                    refine RA.steps 1 rfl ?_
                    refine RA.if1T rfl (decide_eq_true h69) ?_
                    refine RA.steps 1 rfl ?_
                    exact RA.ret rfl rfl) ?_
                  refine RA.steps 10 rfl ?_
                  exact RA.ret rfl rfl, by
                  refine ⟨Nat.le_of_ble_eq_true rfl, ⟨_, _, rfl⟩, ?_⟩
                  refine RA.steps 12 rfl ?_
                  refine RA.call0 rfl rfl rfl (by
                    refine ⟨Nat.le_of_ble_eq_true rfl, ⟨_, _, rfl⟩, ?_⟩
                    refine RA.steps 4 rfl ?_
                    refine RA.call0 rfl rfl rfl (isIn_f (v := c) (lo := 0) (hi := 3) (fun q => absurd h69 (Int32.not_lt.mpr q.1))) ?_
                    exact RA.ret rfl rfl) ?_
                  refine RA.steps 4 rfl ?_
                  refine RA.call0 rfl rfl rfl (Run.ex 4000 (Nat.le_of_ble_eq_true rfl) ⟨_, _, rfl⟩ rfl) ?_
                  refine RA.steps 4 rfl ?_
                  exact RA.ret rfl rfl⟩
            · exact ⟨_, _, _, by
                  refine ⟨Nat.le_of_ble_eq_true rfl, ⟨_, _, rfl⟩, ?_⟩
                  refine RA.steps 2 rfl ?_
                  refine RA.call0 rfl rfl rfl (Run.ex 4000 (Nat.le_of_ble_eq_true rfl) ⟨_, _, rfl⟩ rfl) ?_
                  refine RA.steps 6 rfl ?_
                  refine RA.call0 rfl rfl rfl (Run.ex 4000 (Nat.le_of_ble_eq_true rfl) ⟨_, _, rfl⟩ rfl) ?_
                  refine RA.steps 4 rfl ?_
                  refine RA.call0 rfl rfl rfl (one_no c rfl) ?_
                  refine RA.steps 3 rfl ?_
                  refine RA.call0 rfl rfl rfl (by
                    refine ⟨Nat.le_of_ble_eq_true rfl, ⟨_, _, rfl⟩, ?_⟩
                    refine RA.steps 1 rfl ?_
                    refine RA.if1T rfl (decide_eq_true h69) ?_
                    refine RA.steps 1 rfl ?_
                    exact RA.ret rfl rfl) ?_
                  refine RA.steps 29 rfl ?_
                  exact RA.ret rfl rfl, by
                  exact Run.ex 4000 (Nat.le_of_ble_eq_true rfl) ⟨_, _, rfl⟩ rfl⟩
          · by_cases h70 : c < 4
            · rcases cases_0_3 (in_lt_4 h69 h70) with rfl | rfl | rfl | rfl
              · rcases cases_0_3 h68 with rfl | rfl | rfl | rfl
                · exact ⟨_, _, _, by
                      exact Run.ex 4000 (Nat.le_of_ble_eq_true rfl) ⟨_, _, rfl⟩ rfl, by
                      exact Run.ex 4000 (Nat.le_of_ble_eq_true rfl) ⟨_, _, rfl⟩ rfl⟩
                · exact ⟨_, _, _, by
                      exact Run.ex 4000 (Nat.le_of_ble_eq_true rfl) ⟨_, _, rfl⟩ rfl, by
                      exact Run.ex 4000 (Nat.le_of_ble_eq_true rfl) ⟨_, _, rfl⟩ rfl⟩
                · exact ⟨_, _, _, by
                      exact Run.ex 4000 (Nat.le_of_ble_eq_true rfl) ⟨_, _, rfl⟩ rfl, by
                      exact Run.ex 4000 (Nat.le_of_ble_eq_true rfl) ⟨_, _, rfl⟩ rfl⟩
                · exact ⟨_, _, _, by
                      exact Run.ex 4000 (Nat.le_of_ble_eq_true rfl) ⟨_, _, rfl⟩ rfl, by
                      exact Run.ex 4000 (Nat.le_of_ble_eq_true rfl) ⟨_, _, rfl⟩ rfl⟩
              · rcases cases_0_3 h68 with rfl | rfl | rfl | rfl
                · exact ⟨_, _, _, by
                      exact Run.ex 4000 (Nat.le_of_ble_eq_true rfl) ⟨_, _, rfl⟩ rfl, by
                      exact Run.ex 4000 (Nat.le_of_ble_eq_true rfl) ⟨_, _, rfl⟩ rfl⟩
                · exact ⟨_, _, _, by
                      exact Run.ex 4000 (Nat.le_of_ble_eq_true rfl) ⟨_, _, rfl⟩ rfl, by
                      exact Run.ex 4000 (Nat.le_of_ble_eq_true rfl) ⟨_, _, rfl⟩ rfl⟩
                · exact ⟨_, _, _, by
                      exact Run.ex 4000 (Nat.le_of_ble_eq_true rfl) ⟨_, _, rfl⟩ rfl, by
                      exact Run.ex 4000 (Nat.le_of_ble_eq_true rfl) ⟨_, _, rfl⟩ rfl⟩
                · exact ⟨_, _, _, by
                      exact Run.ex 4000 (Nat.le_of_ble_eq_true rfl) ⟨_, _, rfl⟩ rfl, by
                      exact Run.ex 4000 (Nat.le_of_ble_eq_true rfl) ⟨_, _, rfl⟩ rfl⟩
              · rcases cases_0_3 h68 with rfl | rfl | rfl | rfl
                · exact ⟨_, _, _, by
                      exact Run.ex 4000 (Nat.le_of_ble_eq_true rfl) ⟨_, _, rfl⟩ rfl, by
                      exact Run.ex 4000 (Nat.le_of_ble_eq_true rfl) ⟨_, _, rfl⟩ rfl⟩
                · exact ⟨_, _, _, by
                      exact Run.ex 4000 (Nat.le_of_ble_eq_true rfl) ⟨_, _, rfl⟩ rfl, by
                      exact Run.ex 4000 (Nat.le_of_ble_eq_true rfl) ⟨_, _, rfl⟩ rfl⟩
                · exact ⟨_, _, _, by
                      exact Run.ex 4000 (Nat.le_of_ble_eq_true rfl) ⟨_, _, rfl⟩ rfl, by
                      exact Run.ex 4000 (Nat.le_of_ble_eq_true rfl) ⟨_, _, rfl⟩ rfl⟩
                · exact ⟨_, _, _, by
                      exact Run.ex 4000 (Nat.le_of_ble_eq_true rfl) ⟨_, _, rfl⟩ rfl, by
                      exact Run.ex 4000 (Nat.le_of_ble_eq_true rfl) ⟨_, _, rfl⟩ rfl⟩
              · rcases cases_0_3 h68 with rfl | rfl | rfl | rfl
                · exact ⟨_, _, _, by
                      exact Run.ex 4000 (Nat.le_of_ble_eq_true rfl) ⟨_, _, rfl⟩ rfl, by
                      exact Run.ex 4000 (Nat.le_of_ble_eq_true rfl) ⟨_, _, rfl⟩ rfl⟩
                · exact ⟨_, _, _, by
                      exact Run.ex 4000 (Nat.le_of_ble_eq_true rfl) ⟨_, _, rfl⟩ rfl, by
                      exact Run.ex 4000 (Nat.le_of_ble_eq_true rfl) ⟨_, _, rfl⟩ rfl⟩
                · exact ⟨_, _, _, by
                      exact Run.ex 4000 (Nat.le_of_ble_eq_true rfl) ⟨_, _, rfl⟩ rfl, by
                      exact Run.ex 4000 (Nat.le_of_ble_eq_true rfl) ⟨_, _, rfl⟩ rfl⟩
                · exact ⟨_, _, _, by
                      exact Run.ex 4000 (Nat.le_of_ble_eq_true rfl) ⟨_, _, rfl⟩ rfl, by
                      exact Run.ex 4000 (Nat.le_of_ble_eq_true rfl) ⟨_, _, rfl⟩ rfl⟩
            · rcases cases_0_3 h68 with rfl | rfl | rfl | rfl
              · exact ⟨_, _, _, by
                    refine ⟨Nat.le_of_ble_eq_true rfl, ⟨_, _, rfl⟩, ?_⟩
                    refine RA.steps 2 rfl ?_
                    refine RA.call0 rfl rfl rfl (Run.ex 4000 (Nat.le_of_ble_eq_true rfl) ⟨_, _, rfl⟩ rfl) ?_
                    refine RA.steps 6 rfl ?_
                    refine RA.call0 rfl rfl rfl (Run.ex 4000 (Nat.le_of_ble_eq_true rfl) ⟨_, _, rfl⟩ rfl) ?_
                    refine RA.steps 4 rfl ?_
                    refine RA.call0 rfl rfl rfl (one_no c rfl) ?_
                    refine RA.steps 3 rfl ?_
                    refine RA.call0 rfl rfl rfl (by
                      refine ⟨Nat.le_of_ble_eq_true rfl, ⟨_, _, rfl⟩, ?_⟩
                      refine RA.steps 1 rfl ?_
                      refine RA.if1F rfl (decide_eq_false h69) ?_
                      refine RA.steps 4 rfl ?_
                      refine RA.if2T rfl (decide_eq_true (Int32.not_lt.mp h70)) ?_
                      refine RA.steps 1 rfl ?_
                      exact RA.ret rfl rfl) ?_
                    refine RA.steps 26 rfl ?_
                    exact RA.ret rfl rfl, by
                    exact Run.ex 4000 (Nat.le_of_ble_eq_true rfl) ⟨_, _, rfl⟩ rfl⟩
              · exact ⟨_, _, _, by
                    refine ⟨Nat.le_of_ble_eq_true rfl, ⟨_, _, rfl⟩, ?_⟩
                    refine RA.steps 2 rfl ?_
                    refine RA.call0 rfl rfl rfl (Run.ex 4000 (Nat.le_of_ble_eq_true rfl) ⟨_, _, rfl⟩ rfl) ?_
                    refine RA.steps 6 rfl ?_
                    refine RA.call0 rfl rfl rfl (Run.ex 4000 (Nat.le_of_ble_eq_true rfl) ⟨_, _, rfl⟩ rfl) ?_
                    refine RA.steps 4 rfl ?_
                    refine RA.call0 rfl rfl rfl (one_no c rfl) ?_
                    refine RA.steps 3 rfl ?_
                    refine RA.call0 rfl rfl rfl (by
                      refine ⟨Nat.le_of_ble_eq_true rfl, ⟨_, _, rfl⟩, ?_⟩
                      refine RA.steps 1 rfl ?_
                      refine RA.if1F rfl (decide_eq_false h69) ?_
                      refine RA.steps 4 rfl ?_
                      refine RA.if2T rfl (decide_eq_true (Int32.not_lt.mp h70)) ?_
                      refine RA.steps 1 rfl ?_
                      exact RA.ret rfl rfl) ?_
                    refine RA.steps 7 rfl ?_
                    exact RA.ret rfl rfl, by
                    refine ⟨Nat.le_of_ble_eq_true rfl, ⟨_, _, rfl⟩, ?_⟩
                    refine RA.steps 10 rfl ?_
                    refine RA.call0 rfl rfl rfl (by
                      refine ⟨Nat.le_of_ble_eq_true rfl, ⟨_, _, rfl⟩, ?_⟩
                      refine RA.steps 10 rfl ?_
                      refine RA.call0 rfl rfl rfl (isIn_f (v := c) (lo := 0) (hi := (-1)) (in_no (by decide))) ?_
                      exact RA.ret rfl rfl) ?_
                    refine RA.steps 7 rfl ?_
                    refine RA.call0 rfl rfl rfl (Run.ex 4000 (Nat.le_of_ble_eq_true rfl) ⟨_, _, rfl⟩ rfl) ?_
                    refine RA.steps 4 rfl ?_
                    exact RA.ret rfl rfl⟩
              · exact ⟨_, _, _, by
                    refine ⟨Nat.le_of_ble_eq_true rfl, ⟨_, _, rfl⟩, ?_⟩
                    refine RA.steps 2 rfl ?_
                    refine RA.call0 rfl rfl rfl (Run.ex 4000 (Nat.le_of_ble_eq_true rfl) ⟨_, _, rfl⟩ rfl) ?_
                    refine RA.steps 6 rfl ?_
                    refine RA.call0 rfl rfl rfl (Run.ex 4000 (Nat.le_of_ble_eq_true rfl) ⟨_, _, rfl⟩ rfl) ?_
                    refine RA.steps 4 rfl ?_
                    refine RA.call0 rfl rfl rfl (one_no c rfl) ?_
                    refine RA.steps 3 rfl ?_
                    refine RA.call0 rfl rfl rfl (by
                      refine ⟨Nat.le_of_ble_eq_true rfl, ⟨_, _, rfl⟩, ?_⟩
                      refine RA.steps 1 rfl ?_
                      refine RA.if1F rfl (decide_eq_false h69) ?_
                      refine RA.steps 4 rfl ?_
                      refine RA.if2T rfl (decide_eq_true (Int32.not_lt.mp h70)) ?_
                      refine RA.steps 1 rfl ?_
                      exact RA.ret rfl rfl) ?_
                    refine RA.steps 10 rfl ?_
                    exact RA.ret rfl rfl, by
                    refine ⟨Nat.le_of_ble_eq_true rfl, ⟨_, _, rfl⟩, ?_⟩
                    refine RA.steps 12 rfl ?_
                    refine RA.call0 rfl rfl rfl (by
                      refine ⟨Nat.le_of_ble_eq_true rfl, ⟨_, _, rfl⟩, ?_⟩
                      refine RA.steps 4 rfl ?_
                      refine RA.call0 rfl rfl rfl (isIn_f (v := c) (lo := 0) (hi := 3) (fun q => h70 (le_lt_4 q.2))) ?_
                      exact RA.ret rfl rfl) ?_
                    refine RA.steps 4 rfl ?_
                    refine RA.call0 rfl rfl rfl (Run.ex 4000 (Nat.le_of_ble_eq_true rfl) ⟨_, _, rfl⟩ rfl) ?_
                    refine RA.steps 4 rfl ?_
                    exact RA.ret rfl rfl⟩
              · exact ⟨_, _, _, by
                    refine ⟨Nat.le_of_ble_eq_true rfl, ⟨_, _, rfl⟩, ?_⟩
                    refine RA.steps 2 rfl ?_
                    refine RA.call0 rfl rfl rfl (Run.ex 4000 (Nat.le_of_ble_eq_true rfl) ⟨_, _, rfl⟩ rfl) ?_
                    refine RA.steps 6 rfl ?_
                    refine RA.call0 rfl rfl rfl (Run.ex 4000 (Nat.le_of_ble_eq_true rfl) ⟨_, _, rfl⟩ rfl) ?_
                    refine RA.steps 4 rfl ?_
                    refine RA.call0 rfl rfl rfl (one_no c rfl) ?_
                    refine RA.steps 3 rfl ?_
                    refine RA.call0 rfl rfl rfl (by
                      refine ⟨Nat.le_of_ble_eq_true rfl, ⟨_, _, rfl⟩, ?_⟩
                      refine RA.steps 1 rfl ?_
                      refine RA.if1F rfl (decide_eq_false h69) ?_
                      refine RA.steps 4 rfl ?_
                      refine RA.if2T rfl (decide_eq_true (Int32.not_lt.mp h70)) ?_
                      refine RA.steps 1 rfl ?_
                      exact RA.ret rfl rfl) ?_
                    refine RA.steps 29 rfl ?_
                    exact RA.ret rfl rfl, by
                    exact Run.ex 4000 (Nat.le_of_ble_eq_true rfl) ⟨_, _, rfl⟩ rfl⟩
        · by_cases h71 : b = 0
          · subst h71
            by_cases h72 : c < 0
            · exact ⟨_, _, _, by
                  refine ⟨Nat.le_of_ble_eq_true rfl, ⟨_, _, rfl⟩, ?_⟩
                  refine RA.steps 2 rfl ?_
                  refine RA.call0 rfl rfl rfl (Run.ex 4000 (Nat.le_of_ble_eq_true rfl) ⟨_, _, rfl⟩ rfl) ?_
                  refine RA.steps 6 rfl ?_
                  refine RA.call0 rfl rfl rfl (Run.ex 4000 (Nat.le_of_ble_eq_true rfl) ⟨_, _, rfl⟩ rfl) ?_
                  refine RA.steps 4 rfl ?_
                  refine RA.call0 rfl rfl rfl (one_no c rfl) ?_
                  refine RA.steps 3 rfl ?_
                  refine RA.call0 rfl rfl rfl (by
                    refine ⟨Nat.le_of_ble_eq_true rfl, ⟨_, _, rfl⟩, ?_⟩
                    refine RA.steps 1 rfl ?_
                    refine RA.if1T rfl (decide_eq_true h72) ?_
                    refine RA.steps 1 rfl ?_
                    exact RA.ret rfl rfl) ?_
                  refine RA.steps 26 rfl ?_
                  exact RA.ret rfl rfl, by
                  exact Run.ex 4000 (Nat.le_of_ble_eq_true rfl) ⟨_, _, rfl⟩ rfl⟩
            · by_cases h73 : c < 4
              · rcases cases_0_3 (in_lt_4 h72 h73) with rfl | rfl | rfl | rfl
                · exact ⟨_, _, _, by
                      exact Run.ex 4000 (Nat.le_of_ble_eq_true rfl) ⟨_, _, rfl⟩ rfl, by
                      exact Run.ex 4000 (Nat.le_of_ble_eq_true rfl) ⟨_, _, rfl⟩ rfl⟩
                · exact ⟨_, _, _, by
                      exact Run.ex 4000 (Nat.le_of_ble_eq_true rfl) ⟨_, _, rfl⟩ rfl, by
                      exact Run.ex 4000 (Nat.le_of_ble_eq_true rfl) ⟨_, _, rfl⟩ rfl⟩
                · exact ⟨_, _, _, by
                      exact Run.ex 4000 (Nat.le_of_ble_eq_true rfl) ⟨_, _, rfl⟩ rfl, by
                      exact Run.ex 4000 (Nat.le_of_ble_eq_true rfl) ⟨_, _, rfl⟩ rfl⟩
                · exact ⟨_, _, _, by
                      exact Run.ex 4000 (Nat.le_of_ble_eq_true rfl) ⟨_, _, rfl⟩ rfl, by
                      exact Run.ex 4000 (Nat.le_of_ble_eq_true rfl) ⟨_, _, rfl⟩ rfl⟩
              · exact ⟨_, _, _, by
                    refine ⟨Nat.le_of_ble_eq_true rfl, ⟨_, _, rfl⟩, ?_⟩
                    refine RA.steps 2 rfl ?_
                    refine RA.call0 rfl rfl rfl (Run.ex 4000 (Nat.le_of_ble_eq_true rfl) ⟨_, _, rfl⟩ rfl) ?_
                    refine RA.steps 6 rfl ?_
                    refine RA.call0 rfl rfl rfl (Run.ex 4000 (Nat.le_of_ble_eq_true rfl) ⟨_, _, rfl⟩ rfl) ?_
                    refine RA.steps 4 rfl ?_
                    refine RA.call0 rfl rfl rfl (one_no c rfl) ?_
                    refine RA.steps 3 rfl ?_
                    refine RA.call0 rfl rfl rfl (by
                      refine ⟨Nat.le_of_ble_eq_true rfl, ⟨_, _, rfl⟩, ?_⟩
                      refine RA.steps 1 rfl ?_
                      refine RA.if1F rfl (decide_eq_false h72) ?_
                      refine RA.steps 4 rfl ?_
                      refine RA.if2T rfl (decide_eq_true (Int32.not_lt.mp h73)) ?_
                      refine RA.steps 1 rfl ?_
                      exact RA.ret rfl rfl) ?_
                    refine RA.steps 26 rfl ?_
                    exact RA.ret rfl rfl, by
                    exact Run.ex 4000 (Nat.le_of_ble_eq_true rfl) ⟨_, _, rfl⟩ rfl⟩
          · by_cases h74 : b = 3
            · subst h74
              by_cases h75 : c < 0
              · exact ⟨_, _, _, by
                    refine ⟨Nat.le_of_ble_eq_true rfl, ⟨_, _, rfl⟩, ?_⟩
                    refine RA.steps 2 rfl ?_
                    refine RA.call0 rfl rfl rfl (Run.ex 4000 (Nat.le_of_ble_eq_true rfl) ⟨_, _, rfl⟩ rfl) ?_
                    refine RA.steps 6 rfl ?_
                    refine RA.call0 rfl rfl rfl (Run.ex 4000 (Nat.le_of_ble_eq_true rfl) ⟨_, _, rfl⟩ rfl) ?_
                    refine RA.steps 4 rfl ?_
                    refine RA.call0 rfl rfl rfl (one_no c rfl) ?_
                    refine RA.steps 3 rfl ?_
                    refine RA.call0 rfl rfl rfl (by
                      refine ⟨Nat.le_of_ble_eq_true rfl, ⟨_, _, rfl⟩, ?_⟩
                      refine RA.steps 1 rfl ?_
                      refine RA.if1T rfl (decide_eq_true h75) ?_
                      refine RA.steps 1 rfl ?_
                      exact RA.ret rfl rfl) ?_
                    refine RA.steps 29 rfl ?_
                    exact RA.ret rfl rfl, by
                    exact Run.ex 4000 (Nat.le_of_ble_eq_true rfl) ⟨_, _, rfl⟩ rfl⟩
              · by_cases h76 : c < 4
                · rcases cases_0_3 (in_lt_4 h75 h76) with rfl | rfl | rfl | rfl
                  · exact ⟨_, _, _, by
                        exact Run.ex 4000 (Nat.le_of_ble_eq_true rfl) ⟨_, _, rfl⟩ rfl, by
                        exact Run.ex 4000 (Nat.le_of_ble_eq_true rfl) ⟨_, _, rfl⟩ rfl⟩
                  · exact ⟨_, _, _, by
                        exact Run.ex 4000 (Nat.le_of_ble_eq_true rfl) ⟨_, _, rfl⟩ rfl, by
                        exact Run.ex 4000 (Nat.le_of_ble_eq_true rfl) ⟨_, _, rfl⟩ rfl⟩
                  · exact ⟨_, _, _, by
                        exact Run.ex 4000 (Nat.le_of_ble_eq_true rfl) ⟨_, _, rfl⟩ rfl, by
                        exact Run.ex 4000 (Nat.le_of_ble_eq_true rfl) ⟨_, _, rfl⟩ rfl⟩
                  · exact ⟨_, _, _, by
                        exact Run.ex 4000 (Nat.le_of_ble_eq_true rfl) ⟨_, _, rfl⟩ rfl, by
                        exact Run.ex 4000 (Nat.le_of_ble_eq_true rfl) ⟨_, _, rfl⟩ rfl⟩
                · exact ⟨_, _, _, by
                      refine ⟨Nat.le_of_ble_eq_true rfl, ⟨_, _, rfl⟩, ?_⟩
                      refine RA.steps 2 rfl ?_
                      refine RA.call0 rfl rfl rfl (Run.ex 4000 (Nat.le_of_ble_eq_true rfl) ⟨_, _, rfl⟩ rfl) ?_
                      refine RA.steps 6 rfl ?_
                      refine RA.call0 rfl rfl rfl (Run.ex 4000 (Nat.le_of_ble_eq_true rfl) ⟨_, _, rfl⟩ rfl) ?_
                      refine RA.steps 4 rfl ?_
                      refine RA.call0 rfl rfl rfl (one_no c rfl) ?_
                      refine RA.steps 3 rfl ?_
                      refine RA.call0 rfl rfl rfl (by
                        refine ⟨Nat.le_of_ble_eq_true rfl, ⟨_, _, rfl⟩, ?_⟩
                        refine RA.steps 1 rfl ?_
                        refine RA.if1F rfl (decide_eq_false h75) ?_
                        refine RA.steps 4 rfl ?_
                        refine RA.if2T rfl (decide_eq_true (Int32.not_lt.mp h76)) ?_
                        refine RA.steps 1 rfl ?_
                        exact RA.ret rfl rfl) ?_
                      refine RA.steps 29 rfl ?_
                      exact RA.ret rfl rfl, by
                      exact Run.ex 4000 (Nat.le_of_ble_eq_true rfl) ⟨_, _, rfl⟩ rfl⟩
            · by_cases h77 : b = 1
              · subst h77
                by_cases h78 : c < 0
                · exact ⟨_, _, _, by
                      refine ⟨Nat.le_of_ble_eq_true rfl, ⟨_, _, rfl⟩, ?_⟩
                      refine RA.steps 2 rfl ?_
                      refine RA.call0 rfl rfl rfl (Run.ex 4000 (Nat.le_of_ble_eq_true rfl) ⟨_, _, rfl⟩ rfl) ?_
                      refine RA.steps 6 rfl ?_
                      refine RA.call0 rfl rfl rfl (Run.ex 4000 (Nat.le_of_ble_eq_true rfl) ⟨_, _, rfl⟩ rfl) ?_
                      refine RA.steps 4 rfl ?_
                      refine RA.call0 rfl rfl rfl (one_no c rfl) ?_
                      refine RA.steps 3 rfl ?_
                      refine RA.call0 rfl rfl rfl (by
                        refine ⟨Nat.le_of_ble_eq_true rfl, ⟨_, _, rfl⟩, ?_⟩
                        refine RA.steps 1 rfl ?_
                        refine RA.if1T rfl (decide_eq_true h78) ?_
                        refine RA.steps 1 rfl ?_
                        exact RA.ret rfl rfl) ?_
                      refine RA.steps 7 rfl ?_
                      exact RA.ret rfl rfl, by
                      refine ⟨Nat.le_of_ble_eq_true rfl, ⟨_, _, rfl⟩, ?_⟩
                      refine RA.steps 10 rfl ?_
                      refine RA.call0 rfl rfl rfl (by
                        refine ⟨Nat.le_of_ble_eq_true rfl, ⟨_, _, rfl⟩, ?_⟩
                        refine RA.steps 10 rfl ?_
                        refine RA.call0 rfl rfl rfl (isIn_f (v := c) (lo := 0) (hi := (-1)) (in_no (by decide))) ?_
                        exact RA.ret rfl rfl) ?_
                      refine RA.steps 7 rfl ?_
                      refine RA.call0 rfl rfl rfl (Run.ex 4000 (Nat.le_of_ble_eq_true rfl) ⟨_, _, rfl⟩ rfl) ?_
                      refine RA.steps 4 rfl ?_
                      exact RA.ret rfl rfl⟩
                · by_cases h79 : c < 4
                  · rcases cases_0_3 (in_lt_4 h78 h79) with rfl | rfl | rfl | rfl
                    · exact ⟨_, _, _, by
                          exact Run.ex 4000 (Nat.le_of_ble_eq_true rfl) ⟨_, _, rfl⟩ rfl, by
                          exact Run.ex 4000 (Nat.le_of_ble_eq_true rfl) ⟨_, _, rfl⟩ rfl⟩
                    · exact ⟨_, _, _, by
                          exact Run.ex 4000 (Nat.le_of_ble_eq_true rfl) ⟨_, _, rfl⟩ rfl, by
                          exact Run.ex 4000 (Nat.le_of_ble_eq_true rfl) ⟨_, _, rfl⟩ rfl⟩
                    · exact ⟨_, _, _, by
                          exact Run.ex 4000 (Nat.le_of_ble_eq_true rfl) ⟨_, _, rfl⟩ rfl, by
                          exact Run.ex 4000 (Nat.le_of_ble_eq_true rfl) ⟨_, _, rfl⟩ rfl⟩
                    · exact ⟨_, _, _, by
                          exact Run.ex 4000 (Nat.le_of_ble_eq_true rfl) ⟨_, _, rfl⟩ rfl, by
                          exact Run.ex 4000 (Nat.le_of_ble_eq_true rfl) ⟨_, _, rfl⟩ rfl⟩
                  · exact ⟨_, _, _, by
                        refine ⟨Nat.le_of_ble_eq_true rfl, ⟨_, _, rfl⟩, ?_⟩
                        refine RA.steps 2 rfl ?_
                        refine RA.call0 rfl rfl rfl (Run.ex 4000 (Nat.le_of_ble_eq_true rfl) ⟨_, _, rfl⟩ rfl) ?_
                        refine RA.steps 6 rfl ?_
                        refine RA.call0 rfl rfl rfl (Run.ex 4000 (Nat.le_of_ble_eq_true rfl) ⟨_, _, rfl⟩ rfl) ?_
                        refine RA.steps 4 rfl ?_
                        refine RA.call0 rfl rfl rfl (one_no c rfl) ?_
                        refine RA.steps 3 rfl ?_
                        refine RA.call0 rfl rfl rfl (by
                          refine ⟨Nat.le_of_ble_eq_true rfl, ⟨_, _, rfl⟩, ?_⟩
                          refine RA.steps 1 rfl ?_
                          refine RA.if1F rfl (decide_eq_false h78) ?_
                          refine RA.steps 4 rfl ?_
                          refine RA.if2T rfl (decide_eq_true (Int32.not_lt.mp h79)) ?_
                          refine RA.steps 1 rfl ?_
                          exact RA.ret rfl rfl) ?_
                        refine RA.steps 7 rfl ?_
                        exact RA.ret rfl rfl, by
                        refine ⟨Nat.le_of_ble_eq_true rfl, ⟨_, _, rfl⟩, ?_⟩
                        refine RA.steps 10 rfl ?_
                        refine RA.call0 rfl rfl rfl (by
                          refine ⟨Nat.le_of_ble_eq_true rfl, ⟨_, _, rfl⟩, ?_⟩
                          refine RA.steps 10 rfl ?_
                          refine RA.call0 rfl rfl rfl (isIn_f (v := c) (lo := 0) (hi := (-1)) (in_no (by decide))) ?_
                          exact RA.ret rfl rfl) ?_
                        refine RA.steps 7 rfl ?_
                        refine RA.call0 rfl rfl rfl (Run.ex 4000 (Nat.le_of_ble_eq_true rfl) ⟨_, _, rfl⟩ rfl) ?_
                        refine RA.steps 4 rfl ?_
                        exact RA.ret rfl rfl⟩
              · by_cases h80 : b = 2
                · subst h80
                  by_cases h81 : c < 0
                  · exact ⟨_, _, _, by
                        refine ⟨Nat.le_of_ble_eq_true rfl, ⟨_, _, rfl⟩, ?_⟩
                        refine RA.steps 2 rfl ?_
                        refine RA.call0 rfl rfl rfl (Run.ex 4000 (Nat.le_of_ble_eq_true rfl) ⟨_, _, rfl⟩ rfl) ?_
                        refine RA.steps 6 rfl ?_
                        refine RA.call0 rfl rfl rfl (Run.ex 4000 (Nat.le_of_ble_eq_true rfl) ⟨_, _, rfl⟩ rfl) ?_
                        refine RA.steps 4 rfl ?_
                        refine RA.call0 rfl rfl rfl (one_no c rfl) ?_
                        refine RA.steps 3 rfl ?_
                        refine RA.call0 rfl rfl rfl (by
                          refine ⟨Nat.le_of_ble_eq_true rfl, ⟨_, _, rfl⟩, ?_⟩
                          refine RA.steps 1 rfl ?_
                          refine RA.if1T rfl (decide_eq_true h81) ?_
                          refine RA.steps 1 rfl ?_
                          exact RA.ret rfl rfl) ?_
                        refine RA.steps 10 rfl ?_
                        exact RA.ret rfl rfl, by
                        refine ⟨Nat.le_of_ble_eq_true rfl, ⟨_, _, rfl⟩, ?_⟩
                        refine RA.steps 12 rfl ?_
                        refine RA.call0 rfl rfl rfl (by
                          refine ⟨Nat.le_of_ble_eq_true rfl, ⟨_, _, rfl⟩, ?_⟩
                          refine RA.steps 4 rfl ?_
                          refine RA.call0 rfl rfl rfl (isIn_f (v := c) (lo := 0) (hi := 3) (fun q => absurd h81 (Int32.not_lt.mpr q.1))) ?_
                          exact RA.ret rfl rfl) ?_
                        refine RA.steps 4 rfl ?_
                        refine RA.call0 rfl rfl rfl (Run.ex 4000 (Nat.le_of_ble_eq_true rfl) ⟨_, _, rfl⟩ rfl) ?_
                        refine RA.steps 4 rfl ?_
                        exact RA.ret rfl rfl⟩
                  · by_cases h82 : c < 4
                    · rcases cases_0_3 (in_lt_4 h81 h82) with rfl | rfl | rfl | rfl
                      · exact ⟨_, _, _, by
                            exact Run.ex 4000 (Nat.le_of_ble_eq_true rfl) ⟨_, _, rfl⟩ rfl, by
                            exact Run.ex 4000 (Nat.le_of_ble_eq_true rfl) ⟨_, _, rfl⟩ rfl⟩
                      · exact ⟨_, _, _, by
                            exact Run.ex 4000 (Nat.le_of_ble_eq_true rfl) ⟨_, _, rfl⟩ rfl, by
                            exact Run.ex 4000 (Nat.le_of_ble_eq_true rfl) ⟨_, _, rfl⟩ rfl⟩
                      · exact ⟨_, _, _, by
                            exact Run.ex 4000 (Nat.le_of_ble_eq_true rfl) ⟨_, _, rfl⟩ rfl, by
                            exact Run.ex 4000 (Nat.le_of_ble_eq_true rfl) ⟨_, _, rfl⟩ rfl⟩
                      · exact ⟨_, _, _, by
                            exact Run.ex 4000 (Nat.le_of_ble_eq_true rfl) ⟨_, _, rfl⟩ rfl, by
                            exact Run.ex 4000 (Nat.le_of_ble_eq_true rfl) ⟨_, _, rfl⟩ rfl⟩
                    · exact ⟨_, _, _, by
                          refine ⟨Nat.le_of_ble_eq_true rfl, ⟨_, _, rfl⟩, ?_⟩
                          refine RA.steps 2 rfl ?_
                          refine RA.call0 rfl rfl rfl (Run.ex 4000 (Nat.le_of_ble_eq_true rfl) ⟨_, _, rfl⟩ rfl) ?_
                          refine RA.steps 6 rfl ?_
                          refine RA.call0 rfl rfl rfl (Run.ex 4000 (Nat.le_of_ble_eq_true rfl) ⟨_, _, rfl⟩ rfl) ?_
                          refine RA.steps 4 rfl ?_
                          refine RA.call0 rfl rfl rfl (one_no c rfl) ?_
                          refine RA.steps 3 rfl ?_
                          refine RA.call0 rfl rfl rfl (by
                            refine ⟨Nat.le_of_ble_eq_true rfl, ⟨_, _, rfl⟩, ?_⟩
                            refine RA.steps 1 rfl ?_
                            refine RA.if1F rfl (decide_eq_false h81) ?_
                            refine RA.steps 4 rfl ?_
                            refine RA.if2T rfl (decide_eq_true (Int32.not_lt.mp h82)) ?_
                            refine RA.steps 1 rfl ?_
                            exact RA.ret rfl rfl) ?_
                          refine RA.steps 10 rfl ?_
                          exact RA.ret rfl rfl, by
                          refine ⟨Nat.le_of_ble_eq_true rfl, ⟨_, _, rfl⟩, ?_⟩
                          refine RA.steps 12 rfl ?_
                          refine RA.call0 rfl rfl rfl (by
                            refine ⟨Nat.le_of_ble_eq_true rfl, ⟨_, _, rfl⟩, ?_⟩
                            refine RA.steps 4 rfl ?_
                            refine RA.call0 rfl rfl rfl (isIn_f (v := c) (lo := 0) (hi := 3) (fun q => h82 (le_lt_4 q.2))) ?_
                            exact RA.ret rfl rfl) ?_
                          refine RA.steps 4 rfl ?_
                          refine RA.call0 rfl rfl rfl (Run.ex 4000 (Nat.le_of_ble_eq_true rfl) ⟨_, _, rfl⟩ rfl) ?_
                          refine RA.steps 4 rfl ?_
                          exact RA.ret rfl rfl⟩
                · exact ⟨_, _, _, by
                      refine ⟨Nat.le_of_ble_eq_true rfl, ⟨_, _, rfl⟩, ?_⟩
                      refine RA.steps 2 rfl ?_
                      refine RA.call0 rfl rfl rfl (Run.ex 4000 (Nat.le_of_ble_eq_true rfl) ⟨_, _, rfl⟩ rfl) ?_
                      refine RA.steps 6 rfl ?_
                      refine RA.call0 rfl rfl rfl (within_f (v := b) (lo := 0) (hi := 3) h68) ?_
                      refine RA.steps 2 rfl ?_
                      exact RA.ret rfl rfl, by
                      refine ⟨Nat.le_of_ble_eq_true rfl, ⟨_, _, rfl⟩, ?_⟩
                      refine RA.steps 1 rfl ?_
                      refine RA.if1F rfl (decide_eq_false h71) ?_
                      refine RA.steps 2 rfl ?_
                      refine RA.if2F rfl (decide_eq_false h74) ?_
                      refine RA.steps 2 rfl ?_
                      refine RA.if2T rfl (decide_eq_true h77) ?_
                      refine RA.steps 2 rfl ?_
                      refine RA.if2T rfl (decide_eq_true h80) ?_
                      refine RA.steps 3 rfl ?_
                      refine RA.call0 rfl rfl rfl (Run.ex 4000 (Nat.le_of_ble_eq_true rfl) ⟨_, _, rfl⟩ rfl) ?_
                      refine RA.steps 4 rfl ?_
                      exact RA.ret rfl rfl⟩
