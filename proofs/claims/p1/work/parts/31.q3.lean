set_option maxRecDepth 100000 in
set_option maxHeartbeats 60000000 in
theorem q_ask (E : pX) (a b : Int32) : ∃ (r : Int32) (h1 h2 : List pC), Run prog E pV0 40 mX7_ask [.ref 0, .int a, .int b] h0 (some (.int r), h1, 0, 0) ∧ Run prog E pV0 40 mX8_ask [.ref 110, .int a, .int b] h1 (some (.int r), h2, 0, 0) := by
  by_cases h1 : a < 0
  · exact ⟨_, _, _, by
        refine ⟨Nat.le_of_ble_eq_true rfl, ⟨_, _, rfl⟩, ?_⟩
        refine RA.steps 2 rfl ?_
        refine RA.call0 rfl rfl rfl (by
          refine ⟨Nat.le_of_ble_eq_true rfl, ⟨_, _, rfl⟩, ?_⟩
          refine RA.steps 1 rfl ?_
          refine RA.if1T rfl (decide_eq_true h1) ?_
          refine RA.steps 1 rfl ?_
          exact RA.ret rfl rfl) ?_
        refine RA.steps 4 rfl ?_
        exact RA.ret rfl rfl, by
        refine ⟨Nat.le_of_ble_eq_true rfl, ⟨_, _, rfl⟩, ?_⟩
        refine RA.steps 1 rfl ?_
        refine RA.call0 rfl rfl rfl (by
          refine ⟨Nat.le_of_ble_eq_true rfl, ⟨_, _, rfl⟩, ?_⟩
          refine RA.steps 4 rfl ?_
          refine RA.call0 rfl rfl rfl (isIn_f (v := a) (lo := 0) (hi := 4) (fun q => absurd h1 (Int32.not_lt.mpr q.1))) ?_
          exact RA.ret rfl rfl) ?_
        refine RA.steps 2 rfl ?_
        exact RA.ret rfl rfl⟩
  · by_cases h2 : a < 5
    · rcases cases_0_4 (in_lt_5 h1 h2) with rfl | rfl | rfl | rfl | rfl
      · by_cases h3 : 0 ≤ b ∧ b ≤ 5
        · exact ⟨_, _, _, by
              refine ⟨Nat.le_of_ble_eq_true rfl, ⟨_, _, rfl⟩, ?_⟩
              refine RA.steps 2 rfl ?_
              refine RA.call0 rfl rfl rfl (Run.ex 4000 (Nat.le_of_ble_eq_true rfl) ⟨_, _, rfl⟩ rfl) ?_
              refine RA.steps 4 rfl ?_
              refine RA.call0 rfl rfl rfl (by
                refine ⟨Nat.le_of_ble_eq_true rfl, ⟨_, _, rfl⟩, ?_⟩
                refine RA.steps 3 rfl ?_
                refine RA.call0 rfl rfl rfl (within_t (v := b) (lo := 0) (hi := 5) h3) ?_
                exact RA.ret rfl rfl) ?_
              refine RA.steps 5 rfl ?_
              exact RA.ret rfl rfl, by
              refine ⟨Nat.le_of_ble_eq_true rfl, ⟨_, _, rfl⟩, ?_⟩
              refine RA.steps 1 rfl ?_
              refine RA.call0 rfl rfl rfl (Run.ex 4000 (Nat.le_of_ble_eq_true rfl) ⟨_, _, rfl⟩ rfl) ?_
              refine RA.steps 5 rfl ?_
              refine RA.call0 rfl rfl rfl (isIn_t (v := b) (lo := 0) (hi := 5) h3) ?_
              refine RA.steps 7 rfl ?_
              exact RA.ret rfl rfl⟩
        · exact ⟨_, _, _, by
              refine ⟨Nat.le_of_ble_eq_true rfl, ⟨_, _, rfl⟩, ?_⟩
              refine RA.steps 2 rfl ?_
              refine RA.call0 rfl rfl rfl (Run.ex 4000 (Nat.le_of_ble_eq_true rfl) ⟨_, _, rfl⟩ rfl) ?_
              refine RA.steps 4 rfl ?_
              refine RA.call0 rfl rfl rfl (by
                refine ⟨Nat.le_of_ble_eq_true rfl, ⟨_, _, rfl⟩, ?_⟩
                refine RA.steps 3 rfl ?_
                refine RA.call0 rfl rfl rfl (within_f (v := b) (lo := 0) (hi := 5) h3) ?_
                exact RA.ret rfl rfl) ?_
              refine RA.steps 2 rfl ?_
              exact RA.ret rfl rfl, by
              refine ⟨Nat.le_of_ble_eq_true rfl, ⟨_, _, rfl⟩, ?_⟩
              refine RA.steps 1 rfl ?_
              refine RA.call0 rfl rfl rfl (Run.ex 4000 (Nat.le_of_ble_eq_true rfl) ⟨_, _, rfl⟩ rfl) ?_
              refine RA.steps 5 rfl ?_
              refine RA.call0 rfl rfl rfl (isIn_f (v := b) (lo := 0) (hi := 5) h3) ?_
              refine RA.steps 2 rfl ?_
              exact RA.ret rfl rfl⟩
      · by_cases h4 : 0 ≤ b ∧ b ≤ 5
        · exact ⟨_, _, _, by
              refine ⟨Nat.le_of_ble_eq_true rfl, ⟨_, _, rfl⟩, ?_⟩
              refine RA.steps 2 rfl ?_
              refine RA.call0 rfl rfl rfl (Run.ex 4000 (Nat.le_of_ble_eq_true rfl) ⟨_, _, rfl⟩ rfl) ?_
              refine RA.steps 4 rfl ?_
              refine RA.call0 rfl rfl rfl (by
                refine ⟨Nat.le_of_ble_eq_true rfl, ⟨_, _, rfl⟩, ?_⟩
                refine RA.steps 3 rfl ?_
                refine RA.call0 rfl rfl rfl (within_t (v := b) (lo := 0) (hi := 5) h4) ?_
                exact RA.ret rfl rfl) ?_
              refine RA.steps 5 rfl ?_
              exact RA.ret rfl rfl, by
              refine ⟨Nat.le_of_ble_eq_true rfl, ⟨_, _, rfl⟩, ?_⟩
              refine RA.steps 1 rfl ?_
              refine RA.call0 rfl rfl rfl (Run.ex 4000 (Nat.le_of_ble_eq_true rfl) ⟨_, _, rfl⟩ rfl) ?_
              refine RA.steps 5 rfl ?_
              refine RA.call0 rfl rfl rfl (isIn_t (v := b) (lo := 0) (hi := 5) h4) ?_
              refine RA.steps 7 rfl ?_
              exact RA.ret rfl rfl⟩
        · exact ⟨_, _, _, by
              refine ⟨Nat.le_of_ble_eq_true rfl, ⟨_, _, rfl⟩, ?_⟩
              refine RA.steps 2 rfl ?_
              refine RA.call0 rfl rfl rfl (Run.ex 4000 (Nat.le_of_ble_eq_true rfl) ⟨_, _, rfl⟩ rfl) ?_
              refine RA.steps 4 rfl ?_
              refine RA.call0 rfl rfl rfl (by
                refine ⟨Nat.le_of_ble_eq_true rfl, ⟨_, _, rfl⟩, ?_⟩
                refine RA.steps 3 rfl ?_
                refine RA.call0 rfl rfl rfl (within_f (v := b) (lo := 0) (hi := 5) h4) ?_
                exact RA.ret rfl rfl) ?_
              refine RA.steps 2 rfl ?_
              exact RA.ret rfl rfl, by
              refine ⟨Nat.le_of_ble_eq_true rfl, ⟨_, _, rfl⟩, ?_⟩
              refine RA.steps 1 rfl ?_
              refine RA.call0 rfl rfl rfl (Run.ex 4000 (Nat.le_of_ble_eq_true rfl) ⟨_, _, rfl⟩ rfl) ?_
              refine RA.steps 5 rfl ?_
              refine RA.call0 rfl rfl rfl (isIn_f (v := b) (lo := 0) (hi := 5) h4) ?_
              refine RA.steps 2 rfl ?_
              exact RA.ret rfl rfl⟩
      · by_cases h5 : 0 ≤ b ∧ b ≤ 5
        · exact ⟨_, _, _, by
              refine ⟨Nat.le_of_ble_eq_true rfl, ⟨_, _, rfl⟩, ?_⟩
              refine RA.steps 2 rfl ?_
              refine RA.call0 rfl rfl rfl (Run.ex 4000 (Nat.le_of_ble_eq_true rfl) ⟨_, _, rfl⟩ rfl) ?_
              refine RA.steps 4 rfl ?_
              refine RA.call0 rfl rfl rfl (by
                refine ⟨Nat.le_of_ble_eq_true rfl, ⟨_, _, rfl⟩, ?_⟩
                refine RA.steps 3 rfl ?_
                refine RA.call0 rfl rfl rfl (within_t (v := b) (lo := 0) (hi := 5) h5) ?_
                exact RA.ret rfl rfl) ?_
              refine RA.steps 5 rfl ?_
              exact RA.ret rfl rfl, by
              refine ⟨Nat.le_of_ble_eq_true rfl, ⟨_, _, rfl⟩, ?_⟩
              refine RA.steps 1 rfl ?_
              refine RA.call0 rfl rfl rfl (Run.ex 4000 (Nat.le_of_ble_eq_true rfl) ⟨_, _, rfl⟩ rfl) ?_
              refine RA.steps 5 rfl ?_
              refine RA.call0 rfl rfl rfl (isIn_t (v := b) (lo := 0) (hi := 5) h5) ?_
              refine RA.steps 7 rfl ?_
              exact RA.ret rfl rfl⟩
        · exact ⟨_, _, _, by
              refine ⟨Nat.le_of_ble_eq_true rfl, ⟨_, _, rfl⟩, ?_⟩
              refine RA.steps 2 rfl ?_
              refine RA.call0 rfl rfl rfl (Run.ex 4000 (Nat.le_of_ble_eq_true rfl) ⟨_, _, rfl⟩ rfl) ?_
              refine RA.steps 4 rfl ?_
              refine RA.call0 rfl rfl rfl (by
                refine ⟨Nat.le_of_ble_eq_true rfl, ⟨_, _, rfl⟩, ?_⟩
                refine RA.steps 3 rfl ?_
                refine RA.call0 rfl rfl rfl (within_f (v := b) (lo := 0) (hi := 5) h5) ?_
                exact RA.ret rfl rfl) ?_
              refine RA.steps 2 rfl ?_
              exact RA.ret rfl rfl, by
              refine ⟨Nat.le_of_ble_eq_true rfl, ⟨_, _, rfl⟩, ?_⟩
              refine RA.steps 1 rfl ?_
              refine RA.call0 rfl rfl rfl (Run.ex 4000 (Nat.le_of_ble_eq_true rfl) ⟨_, _, rfl⟩ rfl) ?_
              refine RA.steps 5 rfl ?_
              refine RA.call0 rfl rfl rfl (isIn_f (v := b) (lo := 0) (hi := 5) h5) ?_
              refine RA.steps 2 rfl ?_
              exact RA.ret rfl rfl⟩
      · by_cases h6 : 0 ≤ b ∧ b ≤ 5
        · exact ⟨_, _, _, by
              refine ⟨Nat.le_of_ble_eq_true rfl, ⟨_, _, rfl⟩, ?_⟩
              refine RA.steps 2 rfl ?_
              refine RA.call0 rfl rfl rfl (Run.ex 4000 (Nat.le_of_ble_eq_true rfl) ⟨_, _, rfl⟩ rfl) ?_
              refine RA.steps 4 rfl ?_
              refine RA.call0 rfl rfl rfl (by
                refine ⟨Nat.le_of_ble_eq_true rfl, ⟨_, _, rfl⟩, ?_⟩
                refine RA.steps 3 rfl ?_
                refine RA.call0 rfl rfl rfl (within_t (v := b) (lo := 0) (hi := 5) h6) ?_
                exact RA.ret rfl rfl) ?_
              refine RA.steps 5 rfl ?_
              exact RA.ret rfl rfl, by
              refine ⟨Nat.le_of_ble_eq_true rfl, ⟨_, _, rfl⟩, ?_⟩
              refine RA.steps 1 rfl ?_
              refine RA.call0 rfl rfl rfl (Run.ex 4000 (Nat.le_of_ble_eq_true rfl) ⟨_, _, rfl⟩ rfl) ?_
              refine RA.steps 5 rfl ?_
              refine RA.call0 rfl rfl rfl (isIn_t (v := b) (lo := 0) (hi := 5) h6) ?_
              refine RA.steps 7 rfl ?_
              exact RA.ret rfl rfl⟩
        · exact ⟨_, _, _, by
              refine ⟨Nat.le_of_ble_eq_true rfl, ⟨_, _, rfl⟩, ?_⟩
              refine RA.steps 2 rfl ?_
              refine RA.call0 rfl rfl rfl (Run.ex 4000 (Nat.le_of_ble_eq_true rfl) ⟨_, _, rfl⟩ rfl) ?_
              refine RA.steps 4 rfl ?_
              refine RA.call0 rfl rfl rfl (by
                refine ⟨Nat.le_of_ble_eq_true rfl, ⟨_, _, rfl⟩, ?_⟩
                refine RA.steps 3 rfl ?_
                refine RA.call0 rfl rfl rfl (within_f (v := b) (lo := 0) (hi := 5) h6) ?_
                exact RA.ret rfl rfl) ?_
              refine RA.steps 2 rfl ?_
              exact RA.ret rfl rfl, by
              refine ⟨Nat.le_of_ble_eq_true rfl, ⟨_, _, rfl⟩, ?_⟩
              refine RA.steps 1 rfl ?_
              refine RA.call0 rfl rfl rfl (Run.ex 4000 (Nat.le_of_ble_eq_true rfl) ⟨_, _, rfl⟩ rfl) ?_
              refine RA.steps 5 rfl ?_
              refine RA.call0 rfl rfl rfl (isIn_f (v := b) (lo := 0) (hi := 5) h6) ?_
              refine RA.steps 2 rfl ?_
              exact RA.ret rfl rfl⟩
      · by_cases h7 : 0 ≤ b ∧ b ≤ 5
        · exact ⟨_, _, _, by
              refine ⟨Nat.le_of_ble_eq_true rfl, ⟨_, _, rfl⟩, ?_⟩
              refine RA.steps 2 rfl ?_
              refine RA.call0 rfl rfl rfl (Run.ex 4000 (Nat.le_of_ble_eq_true rfl) ⟨_, _, rfl⟩ rfl) ?_
              refine RA.steps 4 rfl ?_
              refine RA.call0 rfl rfl rfl (by
                refine ⟨Nat.le_of_ble_eq_true rfl, ⟨_, _, rfl⟩, ?_⟩
                refine RA.steps 3 rfl ?_
                refine RA.call0 rfl rfl rfl (within_t (v := b) (lo := 0) (hi := 5) h7) ?_
                exact RA.ret rfl rfl) ?_
              refine RA.steps 5 rfl ?_
              exact RA.ret rfl rfl, by
              refine ⟨Nat.le_of_ble_eq_true rfl, ⟨_, _, rfl⟩, ?_⟩
              refine RA.steps 1 rfl ?_
              refine RA.call0 rfl rfl rfl (Run.ex 4000 (Nat.le_of_ble_eq_true rfl) ⟨_, _, rfl⟩ rfl) ?_
              refine RA.steps 5 rfl ?_
              refine RA.call0 rfl rfl rfl (isIn_t (v := b) (lo := 0) (hi := 5) h7) ?_
              refine RA.steps 7 rfl ?_
              exact RA.ret rfl rfl⟩
        · exact ⟨_, _, _, by
              refine ⟨Nat.le_of_ble_eq_true rfl, ⟨_, _, rfl⟩, ?_⟩
              refine RA.steps 2 rfl ?_
              refine RA.call0 rfl rfl rfl (Run.ex 4000 (Nat.le_of_ble_eq_true rfl) ⟨_, _, rfl⟩ rfl) ?_
              refine RA.steps 4 rfl ?_
              refine RA.call0 rfl rfl rfl (by
                refine ⟨Nat.le_of_ble_eq_true rfl, ⟨_, _, rfl⟩, ?_⟩
                refine RA.steps 3 rfl ?_
                refine RA.call0 rfl rfl rfl (within_f (v := b) (lo := 0) (hi := 5) h7) ?_
                exact RA.ret rfl rfl) ?_
              refine RA.steps 2 rfl ?_
              exact RA.ret rfl rfl, by
              refine ⟨Nat.le_of_ble_eq_true rfl, ⟨_, _, rfl⟩, ?_⟩
              refine RA.steps 1 rfl ?_
              refine RA.call0 rfl rfl rfl (Run.ex 4000 (Nat.le_of_ble_eq_true rfl) ⟨_, _, rfl⟩ rfl) ?_
              refine RA.steps 5 rfl ?_
              refine RA.call0 rfl rfl rfl (isIn_f (v := b) (lo := 0) (hi := 5) h7) ?_
              refine RA.steps 2 rfl ?_
              exact RA.ret rfl rfl⟩
    · exact ⟨_, _, _, by
          refine ⟨Nat.le_of_ble_eq_true rfl, ⟨_, _, rfl⟩, ?_⟩
          refine RA.steps 2 rfl ?_
          refine RA.call0 rfl rfl rfl (by
            refine ⟨Nat.le_of_ble_eq_true rfl, ⟨_, _, rfl⟩, ?_⟩
            refine RA.steps 1 rfl ?_
            refine RA.if1F rfl (decide_eq_false h1) ?_
            refine RA.steps 4 rfl ?_
            refine RA.if2T rfl (decide_eq_true (Int32.not_lt.mp h2)) ?_
            refine RA.steps 1 rfl ?_
            exact RA.ret rfl rfl) ?_
          refine RA.steps 4 rfl ?_
          exact RA.ret rfl rfl, by
          refine ⟨Nat.le_of_ble_eq_true rfl, ⟨_, _, rfl⟩, ?_⟩
          refine RA.steps 1 rfl ?_
          refine RA.call0 rfl rfl rfl (by
            refine ⟨Nat.le_of_ble_eq_true rfl, ⟨_, _, rfl⟩, ?_⟩
            refine RA.steps 4 rfl ?_
            refine RA.call0 rfl rfl rfl (isIn_f (v := a) (lo := 0) (hi := 4) (fun q => h2 (le_lt_5 q.2))) ?_
            exact RA.ret rfl rfl) ?_
          refine RA.steps 2 rfl ?_
          exact RA.ret rfl rfl⟩
set_option maxRecDepth 100000 in
set_option maxHeartbeats 60000000 in
theorem q_item (E : pX) (a b : Int32) : ∃ (r : Int32) (h1 h2 : List pC), Run prog E pV0 40 mX7_item [.ref 0, .int a, .int b] h0 (some (.int r), h1, 0, 0) ∧ Run prog E pV0 40 mX8_item [.ref 110, .int a, .int b] h1 (some (.int r), h2, 0, 0) := by
  by_cases h1 : a < 0
  · exact ⟨_, _, _, by
        refine ⟨Nat.le_of_ble_eq_true rfl, ⟨_, _, rfl⟩, ?_⟩
        refine RA.steps 2 rfl ?_
        refine RA.call0 rfl rfl rfl (by
          refine ⟨Nat.le_of_ble_eq_true rfl, ⟨_, _, rfl⟩, ?_⟩
          refine RA.steps 1 rfl ?_
          refine RA.if1T rfl (decide_eq_true h1) ?_
          refine RA.steps 1 rfl ?_
          exact RA.ret rfl rfl) ?_
        refine RA.steps 4 rfl ?_
        exact RA.ret rfl rfl, by
        refine ⟨Nat.le_of_ble_eq_true rfl, ⟨_, _, rfl⟩, ?_⟩
        refine RA.steps 1 rfl ?_
        refine RA.call0 rfl rfl rfl (by
          refine ⟨Nat.le_of_ble_eq_true rfl, ⟨_, _, rfl⟩, ?_⟩
          refine RA.steps 4 rfl ?_
          refine RA.call0 rfl rfl rfl (isIn_f (v := a) (lo := 0) (hi := 4) (fun q => absurd h1 (Int32.not_lt.mpr q.1))) ?_
          exact RA.ret rfl rfl) ?_
        refine RA.steps 2 rfl ?_
        exact RA.ret rfl rfl⟩
  · by_cases h2 : a < 5
    · rcases cases_0_4 (in_lt_5 h1 h2) with rfl | rfl | rfl | rfl | rfl
      · exact ⟨_, _, _, by
            exact Run.ex 4000 (Nat.le_of_ble_eq_true rfl) ⟨_, _, rfl⟩ rfl, by
            exact Run.ex 4000 (Nat.le_of_ble_eq_true rfl) ⟨_, _, rfl⟩ rfl⟩
      · exact ⟨_, _, _, by
            exact Run.ex 4000 (Nat.le_of_ble_eq_true rfl) ⟨_, _, rfl⟩ rfl, by
            exact Run.ex 4000 (Nat.le_of_ble_eq_true rfl) ⟨_, _, rfl⟩ rfl⟩
      · exact ⟨_, _, _, by
            exact Run.ex 4000 (Nat.le_of_ble_eq_true rfl) ⟨_, _, rfl⟩ rfl, by
            exact Run.ex 4000 (Nat.le_of_ble_eq_true rfl) ⟨_, _, rfl⟩ rfl⟩
      · exact ⟨_, _, _, by
            exact Run.ex 4000 (Nat.le_of_ble_eq_true rfl) ⟨_, _, rfl⟩ rfl, by
            exact Run.ex 4000 (Nat.le_of_ble_eq_true rfl) ⟨_, _, rfl⟩ rfl⟩
      · exact ⟨_, _, _, by
            exact Run.ex 4000 (Nat.le_of_ble_eq_true rfl) ⟨_, _, rfl⟩ rfl, by
            exact Run.ex 4000 (Nat.le_of_ble_eq_true rfl) ⟨_, _, rfl⟩ rfl⟩
    · exact ⟨_, _, _, by
          refine ⟨Nat.le_of_ble_eq_true rfl, ⟨_, _, rfl⟩, ?_⟩
          refine RA.steps 2 rfl ?_
          refine RA.call0 rfl rfl rfl (by
            refine ⟨Nat.le_of_ble_eq_true rfl, ⟨_, _, rfl⟩, ?_⟩
            refine RA.steps 1 rfl ?_
            refine RA.if1F rfl (decide_eq_false h1) ?_
            refine RA.steps 4 rfl ?_
            refine RA.if2T rfl (decide_eq_true (Int32.not_lt.mp h2)) ?_
            refine RA.steps 1 rfl ?_
            exact RA.ret rfl rfl) ?_
          refine RA.steps 4 rfl ?_
          exact RA.ret rfl rfl, by
          refine ⟨Nat.le_of_ble_eq_true rfl, ⟨_, _, rfl⟩, ?_⟩
          refine RA.steps 1 rfl ?_
          refine RA.call0 rfl rfl rfl (by
            refine ⟨Nat.le_of_ble_eq_true rfl, ⟨_, _, rfl⟩, ?_⟩
            refine RA.steps 4 rfl ?_
            refine RA.call0 rfl rfl rfl (isIn_f (v := a) (lo := 0) (hi := 4) (fun q => h2 (le_lt_5 q.2))) ?_
            exact RA.ret rfl rfl) ?_
          refine RA.steps 2 rfl ?_
          exact RA.ret rfl rfl⟩
set_option maxRecDepth 100000 in
set_option maxHeartbeats 60000000 in
theorem q_rest (E : pX) (a b : Int32) : ∃ (r : Int32) (h1 h2 : List pC), Run prog E pV0 40 mX7_rest [.ref 0, .int a, .int b] h0 (some (.int r), h1, 0, 0) ∧ Run prog E pV0 40 mX8_rest [.ref 110, .int a, .int b] h1 (some (.int r), h2, 0, 0) := by
  by_cases h1 : a < 0
  · exact ⟨_, _, _, by
        refine ⟨Nat.le_of_ble_eq_true rfl, ⟨_, _, rfl⟩, ?_⟩
        refine RA.steps 2 rfl ?_
        refine RA.call0 rfl rfl rfl (by
          refine ⟨Nat.le_of_ble_eq_true rfl, ⟨_, _, rfl⟩, ?_⟩
          refine RA.steps 1 rfl ?_
          refine RA.if1T rfl (decide_eq_true h1) ?_
          refine RA.steps 1 rfl ?_
          exact RA.ret rfl rfl) ?_
        refine RA.steps 4 rfl ?_
        exact RA.ret rfl rfl, by
        refine ⟨Nat.le_of_ble_eq_true rfl, ⟨_, _, rfl⟩, ?_⟩
        refine RA.steps 1 rfl ?_
        refine RA.call0 rfl rfl rfl (by
          refine ⟨Nat.le_of_ble_eq_true rfl, ⟨_, _, rfl⟩, ?_⟩
          refine RA.steps 4 rfl ?_
          refine RA.call0 rfl rfl rfl (isIn_f (v := a) (lo := 0) (hi := 4) (fun q => absurd h1 (Int32.not_lt.mpr q.1))) ?_
          exact RA.ret rfl rfl) ?_
        refine RA.steps 2 rfl ?_
        exact RA.ret rfl rfl⟩
  · by_cases h2 : a < 5
    · rcases cases_0_4 (in_lt_5 h1 h2) with rfl | rfl | rfl | rfl | rfl
      · exact ⟨_, _, _, by
            exact Run.ex 4000 (Nat.le_of_ble_eq_true rfl) ⟨_, _, rfl⟩ rfl, by
            exact Run.ex 4000 (Nat.le_of_ble_eq_true rfl) ⟨_, _, rfl⟩ rfl⟩
      · exact ⟨_, _, _, by
            exact Run.ex 4000 (Nat.le_of_ble_eq_true rfl) ⟨_, _, rfl⟩ rfl, by
            exact Run.ex 4000 (Nat.le_of_ble_eq_true rfl) ⟨_, _, rfl⟩ rfl⟩
      · exact ⟨_, _, _, by
            exact Run.ex 4000 (Nat.le_of_ble_eq_true rfl) ⟨_, _, rfl⟩ rfl, by
            exact Run.ex 4000 (Nat.le_of_ble_eq_true rfl) ⟨_, _, rfl⟩ rfl⟩
      · exact ⟨_, _, _, by
            exact Run.ex 4000 (Nat.le_of_ble_eq_true rfl) ⟨_, _, rfl⟩ rfl, by
            exact Run.ex 4000 (Nat.le_of_ble_eq_true rfl) ⟨_, _, rfl⟩ rfl⟩
      · exact ⟨_, _, _, by
            exact Run.ex 4000 (Nat.le_of_ble_eq_true rfl) ⟨_, _, rfl⟩ rfl, by
            exact Run.ex 4000 (Nat.le_of_ble_eq_true rfl) ⟨_, _, rfl⟩ rfl⟩
    · exact ⟨_, _, _, by
          refine ⟨Nat.le_of_ble_eq_true rfl, ⟨_, _, rfl⟩, ?_⟩
          refine RA.steps 2 rfl ?_
          refine RA.call0 rfl rfl rfl (by
            refine ⟨Nat.le_of_ble_eq_true rfl, ⟨_, _, rfl⟩, ?_⟩
            refine RA.steps 1 rfl ?_
            refine RA.if1F rfl (decide_eq_false h1) ?_
            refine RA.steps 4 rfl ?_
            refine RA.if2T rfl (decide_eq_true (Int32.not_lt.mp h2)) ?_
            refine RA.steps 1 rfl ?_
            exact RA.ret rfl rfl) ?_
          refine RA.steps 4 rfl ?_
          exact RA.ret rfl rfl, by
          refine ⟨Nat.le_of_ble_eq_true rfl, ⟨_, _, rfl⟩, ?_⟩
          refine RA.steps 1 rfl ?_
          refine RA.call0 rfl rfl rfl (by
            refine ⟨Nat.le_of_ble_eq_true rfl, ⟨_, _, rfl⟩, ?_⟩
            refine RA.steps 4 rfl ?_
            refine RA.call0 rfl rfl rfl (isIn_f (v := a) (lo := 0) (hi := 4) (fun q => h2 (le_lt_5 q.2))) ?_
            exact RA.ret rfl rfl) ?_
          refine RA.steps 2 rfl ?_
          exact RA.ret rfl rfl⟩
set_option maxRecDepth 100000 in
set_option maxHeartbeats 60000000 in
theorem q_tell (E : pX) (a : Int32) : ∃ (r : Int32) (h1 h2 : List pC), Run prog E pV0 40 mX7_tell [.ref 0, .int a] h0 (some (.int r), h1, 0, 0) ∧ Run prog E pV0 40 mX8_tell [.ref 110, .int a] h1 (some (.int r), h2, 0, 0) := by
  exact ⟨_, _, _, by
      exact Run.ex 4000 (Nat.le_of_ble_eq_true rfl) ⟨_, _, rfl⟩ rfl, by
      exact Run.ex 4000 (Nat.le_of_ble_eq_true rfl) ⟨_, _, rfl⟩ rfl⟩
set_option maxRecDepth 100000 in
set_option maxHeartbeats 60000000 in
theorem q_check (E : pX) (a : Int32) : ∃ (r : Int32) (h1 h2 : List pC), Run prog E pV0 40 mX7_check [.ref 0, .int a] h0 (some (.int r), h1, 0, 0) ∧ Run prog E pV0 40 mX8_check [.ref 110, .int a] h1 (some (.int r), h2, 0, 0) := by
  by_cases h1 : 1 ≤ a ∧ a ≤ 30
  · exact ⟨_, _, _, by
        refine ⟨Nat.le_of_ble_eq_true rfl, ⟨_, _, rfl⟩, ?_⟩
        refine RA.steps 9 rfl ?_
        refine RA.call0 rfl rfl rfl (within_t (v := a) (lo := 1) (hi := 30) h1) ?_
        refine RA.steps 5 rfl ?_
        exact RA.ret rfl rfl, by
        refine ⟨Nat.le_of_ble_eq_true rfl, ⟨_, _, rfl⟩, ?_⟩
        refine RA.steps 10 rfl ?_
        refine RA.call0 rfl rfl rfl (isIn_t (v := a) (lo := 1) (hi := 30) h1) ?_
        refine RA.steps 5 rfl ?_
        exact RA.ret rfl rfl⟩
  · exact ⟨_, _, _, by
        refine ⟨Nat.le_of_ble_eq_true rfl, ⟨_, _, rfl⟩, ?_⟩
        refine RA.steps 9 rfl ?_
        refine RA.call0 rfl rfl rfl (within_f (v := a) (lo := 1) (hi := 30) h1) ?_
        refine RA.steps 2 rfl ?_
        exact RA.ret rfl rfl, by
        refine ⟨Nat.le_of_ble_eq_true rfl, ⟨_, _, rfl⟩, ?_⟩
        refine RA.steps 10 rfl ?_
        refine RA.call0 rfl rfl rfl (isIn_f (v := a) (lo := 1) (hi := 30) h1) ?_
        refine RA.steps 2 rfl ?_
        exact RA.ret rfl rfl⟩
set_option maxRecDepth 100000 in
set_option maxHeartbeats 60000000 in
theorem q_back (E : pX) : ∃ (r : Int32) (h1 h2 : List pC), Run prog E pV0 40 mX7_back [.ref 0] h0 (some (.int r), h1, 0, 0) ∧ Run prog E pV0 40 mX8_back [.ref 110] h1 (some (.int r), h2, 0, 0) := by
  exact ⟨_, _, _, by
      exact Run.ex 4000 (Nat.le_of_ble_eq_true rfl) ⟨_, _, rfl⟩ rfl, by
      exact Run.ex 4000 (Nat.le_of_ble_eq_true rfl) ⟨_, _, rfl⟩ rfl⟩
set_option maxRecDepth 100000 in
set_option maxHeartbeats 60000000 in
theorem q_count (E : pX) (a : Int32) : ∃ (r : Int32) (h1 h2 : List pC), Run prog E pV0 40 mX7_count [.ref 0, .int a] h0 (some (.int r), h1, 0, 0) ∧ Run prog E pV0 40 mX8_count [.ref 110, .int a] h1 (some (.int r), h2, 0, 0) := by
  by_cases h1 : a = 0
  · subst h1
    exact ⟨_, _, _, by
        exact Run.ex 4000 (Nat.le_of_ble_eq_true rfl) ⟨_, _, rfl⟩ rfl, by
        exact Run.ex 4000 (Nat.le_of_ble_eq_true rfl) ⟨_, _, rfl⟩ rfl⟩
  · by_cases h2 : a = 1
    · subst h2
      exact ⟨_, _, _, by
          exact Run.ex 4000 (Nat.le_of_ble_eq_true rfl) ⟨_, _, rfl⟩ rfl, by
          exact Run.ex 4000 (Nat.le_of_ble_eq_true rfl) ⟨_, _, rfl⟩ rfl⟩
    · by_cases h3 : a = 2
      · subst h3
        exact ⟨_, _, _, by
            exact Run.ex 4000 (Nat.le_of_ble_eq_true rfl) ⟨_, _, rfl⟩ rfl, by
            exact Run.ex 4000 (Nat.le_of_ble_eq_true rfl) ⟨_, _, rfl⟩ rfl⟩
      · by_cases h4 : a = 3
        · subst h4
          exact ⟨_, _, _, by
              exact Run.ex 4000 (Nat.le_of_ble_eq_true rfl) ⟨_, _, rfl⟩ rfl, by
              exact Run.ex 4000 (Nat.le_of_ble_eq_true rfl) ⟨_, _, rfl⟩ rfl⟩
        · by_cases h5 : a = 4
          · subst h5
            exact ⟨_, _, _, by
                exact Run.ex 4000 (Nat.le_of_ble_eq_true rfl) ⟨_, _, rfl⟩ rfl, by
                exact Run.ex 4000 (Nat.le_of_ble_eq_true rfl) ⟨_, _, rfl⟩ rfl⟩
          · by_cases h6 : a = 5
            · subst h6
              exact ⟨_, _, _, by
                  exact Run.ex 4000 (Nat.le_of_ble_eq_true rfl) ⟨_, _, rfl⟩ rfl, by
                  exact Run.ex 4000 (Nat.le_of_ble_eq_true rfl) ⟨_, _, rfl⟩ rfl⟩
            · by_cases h7 : a = 6
              · subst h7
                exact ⟨_, _, _, by
                    exact Run.ex 4000 (Nat.le_of_ble_eq_true rfl) ⟨_, _, rfl⟩ rfl, by
                    exact Run.ex 4000 (Nat.le_of_ble_eq_true rfl) ⟨_, _, rfl⟩ rfl⟩
              · exact ⟨_, _, _, by
                    refine ⟨Nat.le_of_ble_eq_true rfl, ⟨_, _, rfl⟩, ?_⟩
                    refine RA.steps 1 rfl ?_
                    refine RA.sw rfl rfl rfl rfl (show psw _ [(0, 2), (1, 6), (2, 10), (3, 15), (4, 19), (5, 22), (6, 26)] 30 = 30 from ((psw_ne (lv_neT h1 (by decide))).trans ((psw_ne (lv_neT h2 (by decide))).trans ((psw_ne (lv_neT h3 (by decide))).trans ((psw_ne (lv_neT h4 (by decide))).trans ((psw_ne (lv_neT h5 (by decide))).trans ((psw_ne (lv_neT h6 (by decide))).trans ((psw_ne (lv_neT h7 (by decide))).trans rfl)))))))) ?_
                    refine RA.steps 1 rfl ?_
                    exact RA.ret rfl rfl, by
                    refine ⟨Nat.le_of_ble_eq_true rfl, ⟨_, _, rfl⟩, ?_⟩
                    refine RA.steps 1 rfl ?_
                    refine RA.sw rfl rfl rfl rfl (show psw _ [(0, 2), (1, 7), (2, 12), (3, 16), (4, 21), (5, 24), (6, 27)] 32 = 32 from ((psw_ne (lv_neT h1 (by decide))).trans ((psw_ne (lv_neT h2 (by decide))).trans ((psw_ne (lv_neT h3 (by decide))).trans ((psw_ne (lv_neT h4 (by decide))).trans ((psw_ne (lv_neT h5 (by decide))).trans ((psw_ne (lv_neT h6 (by decide))).trans ((psw_ne (lv_neT h7 (by decide))).trans rfl)))))))) ?_
                    refine RA.steps 1 rfl ?_
                    exact RA.ret rfl rfl⟩
