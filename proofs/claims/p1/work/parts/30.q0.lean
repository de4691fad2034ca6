set_option maxRecDepth 100000 in
set_option maxHeartbeats 60000000 in
theorem q_told (E : pX) (a b : Int32) : ∃ (r : Int32) (h1 h2 : List pC), Run prog E pV0 40 mX7_told [.ref 0, .int a, .int b] h0 (some (.int r), h1, 0, 0) ∧ Run prog E pV0 40 mX8_told [.ref 110, .int a, .int b] h1 (some (.int r), h2, 0, 0) := by
  exact ⟨_, _, _, by
      refine ⟨Nat.le_of_ble_eq_true rfl, ⟨_, _, rfl⟩, ?_⟩
      refine RA.steps 3 rfl ?_
      refine RA.call0 rfl rfl rfl (one_no a rfl) ?_
      refine RA.steps 4 rfl ?_
      exact RA.ret rfl rfl, by
      refine ⟨Nat.le_of_ble_eq_true rfl, ⟨_, _, rfl⟩, ?_⟩
      refine RA.steps 2 rfl ?_
      refine RA.call0 rfl rfl rfl (by
        refine ⟨Nat.le_of_ble_eq_true rfl, ⟨_, _, rfl⟩, ?_⟩
        refine RA.steps 10 rfl ?_
        refine RA.call0 rfl rfl rfl (isIn_f (v := a) (lo := 0) (hi := (-1)) (in_no (by decide))) ?_
        exact RA.ret rfl rfl) ?_
      refine RA.steps 2 rfl ?_
      exact RA.ret rfl rfl⟩
set_option maxRecDepth 100000 in
set_option maxHeartbeats 60000000 in
theorem q_says (E : pX) (a b : Int32) : ∃ (r : Int32) (h1 h2 : List pC), Run prog E pV0 40 mX7_says [.ref 0, .int a, .int b] h0 (some (.int r), h1, 0, 0) ∧ Run prog E pV0 40 mX8_says [.ref 110, .int a, .int b] h1 (some (.int r), h2, 0, 0) := by
  exact ⟨_, _, _, by
      refine ⟨Nat.le_of_ble_eq_true rfl, ⟨_, _, rfl⟩, ?_⟩
      refine RA.steps 3 rfl ?_
      refine RA.call0 rfl rfl rfl (one_no a rfl) ?_
      refine RA.steps 4 rfl ?_
      exact RA.ret rfl rfl, by
      refine ⟨Nat.le_of_ble_eq_true rfl, ⟨_, _, rfl⟩, ?_⟩
      refine RA.steps 2 rfl ?_
      refine RA.call0 rfl rfl rfl (by
        refine ⟨Nat.le_of_ble_eq_true rfl, ⟨_, _, rfl⟩, ?_⟩
        refine RA.steps 10 rfl ?_
        refine RA.call0 rfl rfl rfl (isIn_f (v := a) (lo := 0) (hi := (-1)) (in_no (by decide))) ?_
        exact RA.ret rfl rfl) ?_
      refine RA.steps 2 rfl ?_
      exact RA.ret rfl rfl⟩
set_option maxRecDepth 100000 in
set_option maxHeartbeats 60000000 in
theorem q_as (E : pX) (a b : Int32) : ∃ (r : Int32) (h1 h2 : List pC), Run prog E pV0 40 mX7_as [.ref 0, .int a, .int b] h0 (some (.int r), h1, 0, 0) ∧ Run prog E pV0 40 mX8_as [.ref 110, .int a, .int b] h1 (some (.int r), h2, 0, 0) := by
  exact ⟨_, _, _, by
      refine ⟨Nat.le_of_ble_eq_true rfl, ⟨_, _, rfl⟩, ?_⟩
      refine RA.steps 3 rfl ?_
      refine RA.call0 rfl rfl rfl (one_no a rfl) ?_
      refine RA.steps 4 rfl ?_
      exact RA.ret rfl rfl, by
      refine ⟨Nat.le_of_ble_eq_true rfl, ⟨_, _, rfl⟩, ?_⟩
      refine RA.steps 2 rfl ?_
      refine RA.call0 rfl rfl rfl (by
        refine ⟨Nat.le_of_ble_eq_true rfl, ⟨_, _, rfl⟩, ?_⟩
        refine RA.steps 10 rfl ?_
        refine RA.call0 rfl rfl rfl (isIn_f (v := a) (lo := 0) (hi := (-1)) (in_no (by decide))) ?_
        exact RA.ret rfl rfl) ?_
      refine RA.steps 2 rfl ?_
      exact RA.ret rfl rfl⟩
set_option maxRecDepth 100000 in
set_option maxHeartbeats 60000000 in
theorem q_turns (E : pX) (a b : Int32) : ∃ (r : Int32) (h1 h2 : List pC), Run prog E pV0 40 mX7_turns [.ref 0, .int a, .int b] h0 (some (.int r), h1, 0, 0) ∧ Run prog E pV0 40 mX8_turns [.ref 110, .int a, .int b] h1 (some (.int r), h2, 0, 0) := by
  exact ⟨_, _, _, by
      refine ⟨Nat.le_of_ble_eq_true rfl, ⟨_, _, rfl⟩, ?_⟩
      refine RA.steps 3 rfl ?_
      refine RA.call0 rfl rfl rfl (one_no a rfl) ?_
      refine RA.steps 4 rfl ?_
      exact RA.ret rfl rfl, by
      refine ⟨Nat.le_of_ble_eq_true rfl, ⟨_, _, rfl⟩, ?_⟩
      refine RA.steps 2 rfl ?_
      refine RA.call0 rfl rfl rfl (by
        refine ⟨Nat.le_of_ble_eq_true rfl, ⟨_, _, rfl⟩, ?_⟩
        refine RA.steps 10 rfl ?_
        refine RA.call0 rfl rfl rfl (isIn_f (v := a) (lo := 0) (hi := (-1)) (in_no (by decide))) ?_
        exact RA.ret rfl rfl) ?_
      refine RA.steps 2 rfl ?_
      exact RA.ret rfl rfl⟩
set_option maxRecDepth 100000 in
set_option maxHeartbeats 60000000 in
theorem q_set (E : pX) (a b c : Int32) : ∃ (r : Int32) (h1 h2 : List pC), Run prog E pV0 40 mX7_set [.ref 0, .int a, .int b, .int c] h0 (some (.int r), h1, 0, 0) ∧ Run prog E pV0 40 mX8_set [.ref 110, .int a, .int b, .int c] h1 (some (.int r), h2, 0, 0) := by
  exact ⟨_, _, _, by
      refine ⟨Nat.le_of_ble_eq_true rfl, ⟨_, _, rfl⟩, ?_⟩
      refine RA.steps 3 rfl ?_
      refine RA.call0 rfl rfl rfl (one_no a rfl) ?_
      refine RA.steps 4 rfl ?_
      exact RA.ret rfl rfl, by
      refine ⟨Nat.le_of_ble_eq_true rfl, ⟨_, _, rfl⟩, ?_⟩
      refine RA.steps 2 rfl ?_
      refine RA.call0 rfl rfl rfl (by
        refine ⟨Nat.le_of_ble_eq_true rfl, ⟨_, _, rfl⟩, ?_⟩
        refine RA.steps 10 rfl ?_
        refine RA.call0 rfl rfl rfl (isIn_f (v := a) (lo := 0) (hi := (-1)) (in_no (by decide))) ?_
        exact RA.ret rfl rfl) ?_
      refine RA.steps 2 rfl ?_
      exact RA.ret rfl rfl⟩
set_option maxRecDepth 100000 in
set_option maxHeartbeats 60000000 in
theorem q_carve (E : pX) (a b : Int32) : ∃ (r : Int32) (h1 h2 : List pC), Run prog E pV0 40 mX7_carve [.ref 0, .int a, .int b] h0 (some (.int r), h1, 0, 0) ∧ Run prog E pV0 40 mX8_carve [.ref 110, .int a, .int b] h1 (some (.int r), h2, 0, 0) := by
  by_cases h1 : 0 ≤ a ∧ a ≤ 15
  · by_cases h2 : 0 ≤ b ∧ b ≤ 3
    · rcases cases_0_15 h1 with rfl | rfl | rfl | rfl | rfl | rfl | rfl | rfl | rfl | rfl | rfl | rfl | rfl | rfl | rfl | rfl
      · exact ⟨_, _, _, by
            refine ⟨Nat.le_of_ble_eq_true rfl, ⟨_, _, rfl⟩, ?_⟩
            refine RA.steps 1 rfl ?_
            refine RA.call0 rfl rfl rfl (Run.ex 4000 (Nat.le_of_ble_eq_true rfl) ⟨_, _, rfl⟩ rfl) ?_
            refine RA.steps 4 rfl ?_
            refine RA.call0 rfl rfl rfl (within_t (v := b) (lo := 0) (hi := 3) h2) ?_
            refine RA.steps 4 rfl ?_
            refine RA.call0 rfl rfl rfl (Run.ex 4000 (Nat.le_of_ble_eq_true rfl) ⟨_, _, rfl⟩ rfl) ?_
            refine RA.steps 5 rfl ?_
            refine RA.call0 rfl rfl rfl (Run.ex 4000 (Nat.le_of_ble_eq_true rfl) ⟨_, _, rfl⟩ rfl) ?_
            refine RA.steps 1 rfl ?_
            exact RA.ret rfl rfl, by
            refine ⟨Nat.le_of_ble_eq_true rfl, ⟨_, _, rfl⟩, ?_⟩
            refine RA.steps 4 rfl ?_
            refine RA.call0 rfl rfl rfl (Run.ex 4000 (Nat.le_of_ble_eq_true rfl) ⟨_, _, rfl⟩ rfl) ?_
            refine RA.steps 5 rfl ?_
            refine RA.call0 rfl rfl rfl (isIn_t (v := b) (lo := 0) (hi := 3) h2) ?_
            refine RA.steps 6 rfl ?_
            refine RA.call0 rfl rfl rfl (Run.ex 4000 (Nat.le_of_ble_eq_true rfl) ⟨_, _, rfl⟩ rfl) ?_
            refine RA.steps 1 rfl ?_
            exact RA.ret rfl rfl⟩
      · exact ⟨_, _, _, by
            refine ⟨Nat.le_of_ble_eq_true rfl, ⟨_, _, rfl⟩, ?_⟩
            refine RA.steps 1 rfl ?_
            refine RA.call0 rfl rfl rfl (Run.ex 4000 (Nat.le_of_ble_eq_true rfl) ⟨_, _, rfl⟩ rfl) ?_
            refine RA.steps 4 rfl ?_
            refine RA.call0 rfl rfl rfl (within_t (v := b) (lo := 0) (hi := 3) h2) ?_
            refine RA.steps 4 rfl ?_
            refine RA.call0 rfl rfl rfl (Run.ex 4000 (Nat.le_of_ble_eq_true rfl) ⟨_, _, rfl⟩ rfl) ?_
            refine RA.steps 5 rfl ?_
            refine RA.call0 rfl rfl rfl (Run.ex 4000 (Nat.le_of_ble_eq_true rfl) ⟨_, _, rfl⟩ rfl) ?_
            refine RA.steps 1 rfl ?_
            exact RA.ret rfl rfl, by
            refine ⟨Nat.le_of_ble_eq_true rfl, ⟨_, _, rfl⟩, ?_⟩
            refine RA.steps 4 rfl ?_
            refine RA.call0 rfl rfl rfl (Run.ex 4000 (Nat.le_of_ble_eq_true rfl) ⟨_, _, rfl⟩ rfl) ?_
            refine RA.steps 5 rfl ?_
            refine RA.call0 rfl rfl rfl (isIn_t (v := b) (lo := 0) (hi := 3) h2) ?_
            refine RA.steps 6 rfl ?_
            refine RA.call0 rfl rfl rfl (Run.ex 4000 (Nat.le_of_ble_eq_true rfl) ⟨_, _, rfl⟩ rfl) ?_
            refine RA.steps 1 rfl ?_
            exact RA.ret rfl rfl⟩
      · exact ⟨_, _, _, by
            refine ⟨Nat.le_of_ble_eq_true rfl, ⟨_, _, rfl⟩, ?_⟩
            refine RA.steps 1 rfl ?_
            refine RA.call0 rfl rfl rfl (Run.ex 4000 (Nat.le_of_ble_eq_true rfl) ⟨_, _, rfl⟩ rfl) ?_
            refine RA.steps 4 rfl ?_
            refine RA.call0 rfl rfl rfl (within_t (v := b) (lo := 0) (hi := 3) h2) ?_
            refine RA.steps 4 rfl ?_
            refine RA.call0 rfl rfl rfl (Run.ex 4000 (Nat.le_of_ble_eq_true rfl) ⟨_, _, rfl⟩ rfl) ?_
            refine RA.steps 5 rfl ?_
            refine RA.call0 rfl rfl rfl (Run.ex 4000 (Nat.le_of_ble_eq_true rfl) ⟨_, _, rfl⟩ rfl) ?_
            refine RA.steps 1 rfl ?_
            exact RA.ret rfl rfl, by
            refine ⟨Nat.le_of_ble_eq_true rfl, ⟨_, _, rfl⟩, ?_⟩
            refine RA.steps 4 rfl ?_
            refine RA.call0 rfl rfl rfl (Run.ex 4000 (Nat.le_of_ble_eq_true rfl) ⟨_, _, rfl⟩ rfl) ?_
            refine RA.steps 5 rfl ?_
            refine RA.call0 rfl rfl rfl (isIn_t (v := b) (lo := 0) (hi := 3) h2) ?_
            refine RA.steps 6 rfl ?_
            refine RA.call0 rfl rfl rfl (Run.ex 4000 (Nat.le_of_ble_eq_true rfl) ⟨_, _, rfl⟩ rfl) ?_
            refine RA.steps 1 rfl ?_
            exact RA.ret rfl rfl⟩
      · exact ⟨_, _, _, by
            refine ⟨Nat.le_of_ble_eq_true rfl, ⟨_, _, rfl⟩, ?_⟩
            refine RA.steps 1 rfl ?_
            refine RA.call0 rfl rfl rfl (Run.ex 4000 (Nat.le_of_ble_eq_true rfl) ⟨_, _, rfl⟩ rfl) ?_
            refine RA.steps 4 rfl ?_
            refine RA.call0 rfl rfl rfl (within_t (v := b) (lo := 0) (hi := 3) h2) ?_
            refine RA.steps 4 rfl ?_
            refine RA.call0 rfl rfl rfl (Run.ex 4000 (Nat.le_of_ble_eq_true rfl) ⟨_, _, rfl⟩ rfl) ?_
            refine RA.steps 5 rfl ?_
            refine RA.call0 rfl rfl rfl (Run.ex 4000 (Nat.le_of_ble_eq_true rfl) ⟨_, _, rfl⟩ rfl) ?_
            refine RA.steps 1 rfl ?_
            exact RA.ret rfl rfl, by
            refine ⟨Nat.le_of_ble_eq_true rfl, ⟨_, _, rfl⟩, ?_⟩
            refine RA.steps 4 rfl ?_
            refine RA.call0 rfl rfl rfl (Run.ex 4000 (Nat.le_of_ble_eq_true rfl) ⟨_, _, rfl⟩ rfl) ?_
            refine RA.steps 5 rfl ?_
            refine RA.call0 rfl rfl rfl (isIn_t (v := b) (lo := 0) (hi := 3) h2) ?_
            refine RA.steps 6 rfl ?_
            refine RA.call0 rfl rfl rfl (Run.ex 4000 (Nat.le_of_ble_eq_true rfl) ⟨_, _, rfl⟩ rfl) ?_
            refine RA.steps 1 rfl ?_
            exact RA.ret rfl rfl⟩
      · exact ⟨_, _, _, by
            refine ⟨Nat.le_of_ble_eq_true rfl, ⟨_, _, rfl⟩, ?_⟩
            refine RA.steps 1 rfl ?_
            refine RA.call0 rfl rfl rfl (Run.ex 4000 (Nat.le_of_ble_eq_true rfl) ⟨_, _, rfl⟩ rfl) ?_
            refine RA.steps 4 rfl ?_
            refine RA.call0 rfl rfl rfl (within_t (v := b) (lo := 0) (hi := 3) h2) ?_
            refine RA.steps 4 rfl ?_
            refine RA.call0 rfl rfl rfl (Run.ex 4000 (Nat.le_of_ble_eq_true rfl) ⟨_, _, rfl⟩ rfl) ?_
            refine RA.steps 5 rfl ?_
            refine RA.call0 rfl rfl rfl (Run.ex 4000 (Nat.le_of_ble_eq_true rfl) ⟨_, _, rfl⟩ rfl) ?_
            refine RA.steps 1 rfl ?_
            exact RA.ret rfl rfl, by
            refine ⟨Nat.le_of_ble_eq_true rfl, ⟨_, _, rfl⟩, ?_⟩
            refine RA.steps 4 rfl ?_
            refine RA.call0 rfl rfl rfl (Run.ex 4000 (Nat.le_of_ble_eq_true rfl) ⟨_, _, rfl⟩ rfl) ?_
            refine RA.steps 5 rfl ?_
            refine RA.call0 rfl rfl rfl (isIn_t (v := b) (lo := 0) (hi := 3) h2) ?_
            refine RA.steps 6 rfl ?_
            refine RA.call0 rfl rfl rfl (Run.ex 4000 (Nat.le_of_ble_eq_true rfl) ⟨_, _, rfl⟩ rfl) ?_
            refine RA.steps 1 rfl ?_
            exact RA.ret rfl rfl⟩
      · exact ⟨_, _, _, by
            refine ⟨Nat.le_of_ble_eq_true rfl, ⟨_, _, rfl⟩, ?_⟩
            refine RA.steps 1 rfl ?_
            refine RA.call0 rfl rfl rfl (Run.ex 4000 (Nat.le_of_ble_eq_true rfl) ⟨_, _, rfl⟩ rfl) ?_
            refine RA.steps 4 rfl ?_
            refine RA.call0 rfl rfl rfl (within_t (v := b) (lo := 0) (hi := 3) h2) ?_
            refine RA.steps 4 rfl ?_
            refine RA.call0 rfl rfl rfl (Run.ex 4000 (Nat.le_of_ble_eq_true rfl) ⟨_, _, rfl⟩ rfl) ?_
            refine RA.steps 5 rfl ?_
            refine RA.call0 rfl rfl rfl (Run.ex 4000 (Nat.le_of_ble_eq_true rfl) ⟨_, _, rfl⟩ rfl) ?_
            refine RA.steps 1 rfl ?_
            exact RA.ret rfl rfl, by
            refine ⟨Nat.le_of_ble_eq_true rfl, ⟨_, _, rfl⟩, ?_⟩
            refine RA.steps 4 rfl ?_
            refine RA.call0 rfl rfl rfl (Run.ex 4000 (Nat.le_of_ble_eq_true rfl) ⟨_, _, rfl⟩ rfl) ?_
            refine RA.steps 5 rfl ?_
            refine RA.call0 rfl rfl rfl (isIn_t (v := b) (lo := 0) (hi := 3) h2) ?_
            refine RA.steps 6 rfl ?_
            refine RA.call0 rfl rfl rfl (Run.ex 4000 (Nat.le_of_ble_eq_true rfl) ⟨_, _, rfl⟩ rfl) ?_
            refine RA.steps 1 rfl ?_
            exact RA.ret rfl rfl⟩
      · exact ⟨_, _, _, by
            refine ⟨Nat.le_of_ble_eq_true rfl, ⟨_, _, rfl⟩, ?_⟩
            refine RA.steps 1 rfl ?_
            refine RA.call0 rfl rfl rfl (Run.ex 4000 (Nat.le_of_ble_eq_true rfl) ⟨_, _, rfl⟩ rfl) ?_
            refine RA.steps 4 rfl ?_
            refine RA.call0 rfl rfl rfl (within_t (v := b) (lo := 0) (hi := 3) h2) ?_
            refine RA.steps 4 rfl ?_
            refine RA.call0 rfl rfl rfl (Run.ex 4000 (Nat.le_of_ble_eq_true rfl) ⟨_, _, rfl⟩ rfl) ?_
            refine RA.steps 5 rfl ?_
            refine RA.call0 rfl rfl rfl (Run.ex 4000 (Nat.le_of_ble_eq_true rfl) ⟨_, _, rfl⟩ rfl) ?_
            refine RA.steps 1 rfl ?_
            exact RA.ret rfl rfl, by
            refine ⟨Nat.le_of_ble_eq_true rfl, ⟨_, _, rfl⟩, ?_⟩
            refine RA.steps 4 rfl ?_
            refine RA.call0 rfl rfl rfl (Run.ex 4000 (Nat.le_of_ble_eq_true rfl) ⟨_, _, rfl⟩ rfl) ?_
            refine RA.steps 5 rfl ?_
            refine RA.call0 rfl rfl rfl (isIn_t (v := b) (lo := 0) (hi := 3) h2) ?_
            refine RA.steps 6 rfl ?_
            refine RA.call0 rfl rfl rfl (Run.ex 4000 (Nat.le_of_ble_eq_true rfl) ⟨_, _, rfl⟩ rfl) ?_
            refine RA.steps 1 rfl ?_
            exact RA.ret rfl rfl⟩
      · exact ⟨_, _, _, by
            refine ⟨Nat.le_of_ble_eq_true rfl, ⟨_, _, rfl⟩, ?_⟩
            refine RA.steps 1 rfl ?_
            refine RA.call0 rfl rfl rfl (Run.ex 4000 (Nat.le_of_ble_eq_true rfl) ⟨_, _, rfl⟩ rfl) ?_
            refine RA.steps 4 rfl ?_
            refine RA.call0 rfl rfl rfl (within_t (v := b) (lo := 0) (hi := 3) h2) ?_
            refine RA.steps 4 rfl ?_
            refine RA.call0 rfl rfl rfl (Run.ex 4000 (Nat.le_of_ble_eq_true rfl) ⟨_, _, rfl⟩ rfl) ?_
            refine RA.steps 5 rfl ?_
            refine RA.call0 rfl rfl rfl (Run.ex 4000 (Nat.le_of_ble_eq_true rfl) ⟨_, _, rfl⟩ rfl) ?_
            refine RA.steps 1 rfl ?_
            exact RA.ret rfl rfl, by
            refine ⟨Nat.le_of_ble_eq_true rfl, ⟨_, _, rfl⟩, ?_⟩
            refine RA.steps 4 rfl ?_
            refine RA.call0 rfl rfl rfl (Run.ex 4000 (Nat.le_of_ble_eq_true rfl) ⟨_, _, rfl⟩ rfl) ?_
            refine RA.steps 5 rfl ?_
            refine RA.call0 rfl rfl rfl (isIn_t (v := b) (lo := 0) (hi := 3) h2) ?_
            refine RA.steps 6 rfl ?_
            refine RA.call0 rfl rfl rfl (Run.ex 4000 (Nat.le_of_ble_eq_true rfl) ⟨_, _, rfl⟩ rfl) ?_
            refine RA.steps 1 rfl ?_
            exact RA.ret rfl rfl⟩
      · exact ⟨_, _, _, by
            refine ⟨Nat.le_of_ble_eq_true rfl, ⟨_, _, rfl⟩, ?_⟩
            refine RA.steps 1 rfl ?_
            refine RA.call0 rfl rfl rfl (Run.ex 4000 (Nat.le_of_ble_eq_true rfl) ⟨_, _, rfl⟩ rfl) ?_
            refine RA.steps 4 rfl ?_
            refine RA.call0 rfl rfl rfl (within_t (v := b) (lo := 0) (hi := 3) h2) ?_
            refine RA.steps 4 rfl ?_
            refine RA.call0 rfl rfl rfl (Run.ex 4000 (Nat.le_of_ble_eq_true rfl) ⟨_, _, rfl⟩ rfl) ?_
            refine RA.steps 5 rfl ?_
            refine RA.call0 rfl rfl rfl (Run.ex 4000 (Nat.le_of_ble_eq_true rfl) ⟨_, _, rfl⟩ rfl) ?_
            refine RA.steps 1 rfl ?_
            exact RA.ret rfl rfl, by
            refine ⟨Nat.le_of_ble_eq_true rfl, ⟨_, _, rfl⟩, ?_⟩
            refine RA.steps 4 rfl ?_
            refine RA.call0 rfl rfl rfl (Run.ex 4000 (Nat.le_of_ble_eq_true rfl) ⟨_, _, rfl⟩ rfl) ?_
            refine RA.steps 5 rfl ?_
            refine RA.call0 rfl rfl rfl (isIn_t (v := b) (lo := 0) (hi := 3) h2) ?_
            refine RA.steps 6 rfl ?_
            refine RA.call0 rfl rfl rfl (Run.ex 4000 (Nat.le_of_ble_eq_true rfl) ⟨_, _, rfl⟩ rfl) ?_
            refine RA.steps 1 rfl ?_
            exact RA.ret rfl rfl⟩
      · exact ⟨_, _, _, by
            refine ⟨Nat.le_of_ble_eq_true rfl, ⟨_, _, rfl⟩, ?_⟩
            refine RA.steps 1 rfl ?_
            refine RA.call0 rfl rfl rfl (Run.ex 4000 (Nat.le_of_ble_eq_true rfl) ⟨_, _, rfl⟩ rfl) ?_
            refine RA.steps 4 rfl ?_
            refine RA.call0 rfl rfl rfl (within_t (v := b) (lo := 0) (hi := 3) h2) ?_
            refine RA.steps 4 rfl ?_
            refine RA.call0 rfl rfl rfl (Run.ex 4000 (Nat.le_of_ble_eq_true rfl) ⟨_, _, rfl⟩ rfl) ?_
            refine RA.steps 5 rfl ?_
            refine RA.call0 rfl rfl rfl (Run.ex 4000 (Nat.le_of_ble_eq_true rfl) ⟨_, _, rfl⟩ rfl) ?_
            refine RA.steps 1 rfl ?_
            exact RA.ret rfl rfl, by
            refine ⟨Nat.le_of_ble_eq_true rfl, ⟨_, _, rfl⟩, ?_⟩
            refine RA.steps 4 rfl ?_
            refine RA.call0 rfl rfl rfl (Run.ex 4000 (Nat.le_of_ble_eq_true rfl) ⟨_, _, rfl⟩ rfl) ?_
            refine RA.steps 5 rfl ?_
            refine RA.call0 rfl rfl rfl (isIn_t (v := b) (lo := 0) (hi := 3) h2) ?_
            refine RA.steps 6 rfl ?_
            refine RA.call0 rfl rfl rfl (Run.ex 4000 (Nat.le_of_ble_eq_true rfl) ⟨_, _, rfl⟩ rfl) ?_
            refine RA.steps 1 rfl ?_
            exact RA.ret rfl rfl⟩
      · exact ⟨_, _, _, by
            refine ⟨Nat.le_of_ble_eq_true rfl, ⟨_, _, rfl⟩, ?_⟩
            refine RA.steps 1 rfl ?_
            refine RA.call0 rfl rfl rfl (Run.ex 4000 (Nat.le_of_ble_eq_true rfl) ⟨_, _, rfl⟩ rfl) ?_
            refine RA.steps 4 rfl ?_
            refine RA.call0 rfl rfl rfl (within_t (v := b) (lo := 0) (hi := 3) h2) ?_
            refine RA.steps 4 rfl ?_
            refine RA.call0 rfl rfl rfl (Run.ex 4000 (Nat.le_of_ble_eq_true rfl) ⟨_, _, rfl⟩ rfl) ?_
            refine RA.steps 5 rfl ?_
            refine RA.call0 rfl rfl rfl (Run.ex 4000 (Nat.le_of_ble_eq_true rfl) ⟨_, _, rfl⟩ rfl) ?_
            refine RA.steps 1 rfl ?_
            exact RA.ret rfl rfl, by
            refine ⟨Nat.le_of_ble_eq_true rfl, ⟨_, _, rfl⟩, ?_⟩
            refine RA.steps 4 rfl ?_
            refine RA.call0 rfl rfl rfl (Run.ex 4000 (Nat.le_of_ble_eq_true rfl) ⟨_, _, rfl⟩ rfl) ?_
            refine RA.steps 5 rfl ?_
            refine RA.call0 rfl rfl rfl (isIn_t (v := b) (lo := 0) (hi := 3) h2) ?_
            refine RA.steps 6 rfl ?_
            refine RA.call0 rfl rfl rfl (Run.ex 4000 (Nat.le_of_ble_eq_true rfl) ⟨_, _, rfl⟩ rfl) ?_
            refine RA.steps 1 rfl ?_
            exact RA.ret rfl rfl⟩
      · exact ⟨_, _, _, by
            refine ⟨Nat.le_of_ble_eq_true rfl, ⟨_, _, rfl⟩, ?_⟩
            refine RA.steps 1 rfl ?_
            refine RA.call0 rfl rfl rfl (Run.ex 4000 (Nat.le_of_ble_eq_true rfl) ⟨_, _, rfl⟩ rfl) ?_
            refine RA.steps 4 rfl ?_
            refine RA.call0 rfl rfl rfl (within_t (v := b) (lo := 0) (hi := 3) h2) ?_
            refine RA.steps 4 rfl ?_
            refine RA.call0 rfl rfl rfl (Run.ex 4000 (Nat.le_of_ble_eq_true rfl) ⟨_, _, rfl⟩ rfl) ?_
            refine RA.steps 5 rfl ?_
            refine RA.call0 rfl rfl rfl (Run.ex 4000 (Nat.le_of_ble_eq_true rfl) ⟨_, _, rfl⟩ rfl) ?_
            refine RA.steps 1 rfl ?_
            exact RA.ret rfl rfl, by
            refine ⟨Nat.le_of_ble_eq_true rfl, ⟨_, _, rfl⟩, ?_⟩
            refine RA.steps 4 rfl ?_
            refine RA.call0 rfl rfl rfl (Run.ex 4000 (Nat.le_of_ble_eq_true rfl) ⟨_, _, rfl⟩ rfl) ?_
            refine RA.steps 5 rfl ?_
            refine RA.call0 rfl rfl rfl (isIn_t (v := b) (lo := 0) (hi := 3) h2) ?_
            refine RA.steps 6 rfl ?_
            refine RA.call0 rfl rfl rfl (Run.ex 4000 (Nat.le_of_ble_eq_true rfl) ⟨_, _, rfl⟩ rfl) ?_
            refine RA.steps 1 rfl ?_
            exact RA.ret rfl rfl⟩
      · exact ⟨_, _, _, by
            refine ⟨Nat.le_of_ble_eq_true rfl, ⟨_, _, rfl⟩, ?_⟩
            refine RA.steps 1 rfl ?_
            refine RA.call0 rfl rfl rfl (Run.ex 4000 (Nat.le_of_ble_eq_true rfl) ⟨_, _, rfl⟩ rfl) ?_
            refine RA.steps 4 rfl ?_
            refine RA.call0 rfl rfl rfl (within_t (v := b) (lo := 0) (hi := 3) h2) ?_
            refine RA.steps 4 rfl ?_
            refine RA.call0 rfl rfl rfl (Run.ex 4000 (Nat.le_of_ble_eq_true rfl) ⟨_, _, rfl⟩ rfl) ?_
            refine RA.steps 5 rfl ?_
            refine RA.call0 rfl rfl rfl (Run.ex 4000 (Nat.le_of_ble_eq_true rfl) ⟨_, _, rfl⟩ rfl) ?_
            refine RA.steps 1 rfl ?_
            exact RA.ret rfl rfl, by
            refine ⟨Nat.le_of_ble_eq_true rfl, ⟨_, _, rfl⟩, ?_⟩
            refine RA.steps 4 rfl ?_
            refine RA.call0 rfl rfl rfl (Run.ex 4000 (Nat.le_of_ble_eq_true rfl) ⟨_, _, rfl⟩ rfl) ?_
            refine RA.steps 5 rfl ?_
            refine RA.call0 rfl rfl rfl (isIn_t (v := b) (lo := 0) (hi := 3) h2) ?_
            refine RA.steps 6 rfl ?_
            refine RA.call0 rfl rfl rfl (Run.ex 4000 (Nat.le_of_ble_eq_true rfl) ⟨_, _, rfl⟩ rfl) ?_
            refine RA.steps 1 rfl ?_
            exact RA.ret rfl rfl⟩
      · exact ⟨_, _, _, by
            refine ⟨Nat.le_of_ble_eq_true rfl, ⟨_, _, rfl⟩, ?_⟩
            refine RA.steps 1 rfl ?_
            refine RA.call0 rfl rfl rfl (Run.ex 4000 (Nat.le_of_ble_eq_true rfl) ⟨_, _, rfl⟩ rfl) ?_
            refine RA.steps 4 rfl ?_
            refine RA.call0 rfl rfl rfl (within_t (v := b) (lo := 0) (hi := 3) h2) ?_
            refine RA.steps 4 rfl ?_
            refine RA.call0 rfl rfl rfl (Run.ex 4000 (Nat.le_of_ble_eq_true rfl) ⟨_, _, rfl⟩ rfl) ?_
            refine RA.steps 5 rfl ?_
            refine RA.call0 rfl rfl rfl (Run.ex 4000 (Nat.le_of_ble_eq_true rfl) ⟨_, _, rfl⟩ rfl) ?_
            refine RA.steps 1 rfl ?_
            exact RA.ret rfl rfl, by
            refine ⟨Nat.le_of_ble_eq_true rfl, ⟨_, _, rfl⟩, ?_⟩
            refine RA.steps 4 rfl ?_
            refine RA.call0 rfl rfl rfl (Run.ex 4000 (Nat.le_of_ble_eq_true rfl) ⟨_, _, rfl⟩ rfl) ?_
            refine RA.steps 5 rfl ?_
            refine RA.call0 rfl rfl rfl (isIn_t (v := b) (lo := 0) (hi := 3) h2) ?_
            refine RA.steps 6 rfl ?_
            refine RA.call0 rfl rfl rfl (Run.ex 4000 (Nat.le_of_ble_eq_true rfl) ⟨_, _, rfl⟩ rfl) ?_
            refine RA.steps 1 rfl ?_
            exact RA.ret rfl rfl⟩
      · exact ⟨_, _, _, by
            refine ⟨Nat.le_of_ble_eq_true rfl, ⟨_, _, rfl⟩, ?_⟩
            refine RA.steps 1 rfl ?_
            refine RA.call0 rfl rfl rfl (Run.ex 4000 (Nat.le_of_ble_eq_true rfl) ⟨_, _, rfl⟩ rfl) ?_
            refine RA.steps 4 rfl ?_
            refine RA.call0 rfl rfl rfl (within_t (v := b) (lo := 0) (hi := 3) h2) ?_
            refine RA.steps 4 rfl ?_
            refine RA.call0 rfl rfl rfl (Run.ex 4000 (Nat.le_of_ble_eq_true rfl) ⟨_, _, rfl⟩ rfl) ?_
            refine RA.steps 5 rfl ?_
            refine RA.call0 rfl rfl rfl (Run.ex 4000 (Nat.le_of_ble_eq_true rfl) ⟨_, _, rfl⟩ rfl) ?_
            refine RA.steps 1 rfl ?_
            exact RA.ret rfl rfl, by
            refine ⟨Nat.le_of_ble_eq_true rfl, ⟨_, _, rfl⟩, ?_⟩
            refine RA.steps 4 rfl ?_
            refine RA.call0 rfl rfl rfl (Run.ex 4000 (Nat.le_of_ble_eq_true rfl) ⟨_, _, rfl⟩ rfl) ?_
            refine RA.steps 5 rfl ?_
            refine RA.call0 rfl rfl rfl (isIn_t (v := b) (lo := 0) (hi := 3) h2) ?_
            refine RA.steps 6 rfl ?_
            refine RA.call0 rfl rfl rfl (Run.ex 4000 (Nat.le_of_ble_eq_true rfl) ⟨_, _, rfl⟩ rfl) ?_
            refine RA.steps 1 rfl ?_
            exact RA.ret rfl rfl⟩
      · exact ⟨_, _, _, by
            refine ⟨Nat.le_of_ble_eq_true rfl, ⟨_, _, rfl⟩, ?_⟩
            refine RA.steps 1 rfl ?_
            refine RA.call0 rfl rfl rfl (Run.ex 4000 (Nat.le_of_ble_eq_true rfl) ⟨_, _, rfl⟩ rfl) ?_
            refine RA.steps 4 rfl ?_
            refine RA.call0 rfl rfl rfl (within_t (v := b) (lo := 0) (hi := 3) h2) ?_
            refine RA.steps 4 rfl ?_
            refine RA.call0 rfl rfl rfl (Run.ex 4000 (Nat.le_of_ble_eq_true rfl) ⟨_, _, rfl⟩ rfl) ?_
            refine RA.steps 5 rfl ?_
            refine RA.call0 rfl rfl rfl (Run.ex 4000 (Nat.le_of_ble_eq_true rfl) ⟨_, _, rfl⟩ rfl) ?_
            refine RA.steps 1 rfl ?_
            exact RA.ret rfl rfl, by
            refine ⟨Nat.le_of_ble_eq_true rfl, ⟨_, _, rfl⟩, ?_⟩
            refine RA.steps 4 rfl ?_
            refine RA.call0 rfl rfl rfl (Run.ex 4000 (Nat.le_of_ble_eq_true rfl) ⟨_, _, rfl⟩ rfl) ?_
            refine RA.steps 5 rfl ?_
            refine RA.call0 rfl rfl rfl (isIn_t (v := b) (lo := 0) (hi := 3) h2) ?_
            refine RA.steps 6 rfl ?_
            refine RA.call0 rfl rfl rfl (Run.ex 4000 (Nat.le_of_ble_eq_true rfl) ⟨_, _, rfl⟩ rfl) ?_
            refine RA.steps 1 rfl ?_
            exact RA.ret rfl rfl⟩
    · exact ⟨_, _, _, by
          refine ⟨Nat.le_of_ble_eq_true rfl, ⟨_, _, rfl⟩, ?_⟩
          refine RA.steps 1 rfl ?_
          refine RA.call0 rfl rfl rfl (by
            refine ⟨Nat.le_of_ble_eq_true rfl, ⟨_, _, rfl⟩, ?_⟩
            refine RA.steps 3 rfl ?_
            refine RA.call0 rfl rfl rfl (within_t (v := a) (lo := 0) (hi := 15) h1) ?_
            exact RA.ret rfl rfl) ?_
          refine RA.steps 4 rfl ?_
          refine RA.call0 rfl rfl rfl (within_f (v := b) (lo := 0) (hi := 3) h2) ?_
          refine RA.steps 2 rfl ?_
          exact RA.ret rfl rfl, by
          refine ⟨Nat.le_of_ble_eq_true rfl, ⟨_, _, rfl⟩, ?_⟩
          refine RA.steps 4 rfl ?_
          refine RA.call0 rfl rfl rfl (isIn_t (v := a) (lo := 0) (hi := 15) h1) ?_
          refine RA.steps 5 rfl ?_
          refine RA.call0 rfl rfl rfl (isIn_f (v := b) (lo := 0) (hi := 3) h2) ?_
          refine RA.steps 2 rfl ?_
          exact RA.ret rfl rfl⟩
  · exact ⟨_, _, _, by
        refine ⟨Nat.le_of_ble_eq_true rfl, ⟨_, _, rfl⟩, ?_⟩
        refine RA.steps 1 rfl ?_
        refine RA.call0 rfl rfl rfl (by
          refine ⟨Nat.le_of_ble_eq_true rfl, ⟨_, _, rfl⟩, ?_⟩
          refine RA.steps 3 rfl ?_
          refine RA.call0 rfl rfl rfl (within_f (v := a) (lo := 0) (hi := 15) h1) ?_
          exact RA.ret rfl rfl) ?_
        refine RA.steps 2 rfl ?_
        exact RA.ret rfl rfl, by
        refine ⟨Nat.le_of_ble_eq_true rfl, ⟨_, _, rfl⟩, ?_⟩
        refine RA.steps 4 rfl ?_
        refine RA.call0 rfl rfl rfl (isIn_f (v := a) (lo := 0) (hi := 15) h1) ?_
        refine RA.steps 2 rfl ?_
        exact RA.ret rfl rfl⟩
set_option maxRecDepth 100000 in
set_option maxHeartbeats 60000000 in
theorem q_carved (E : pX) (a : Int32) : ∃ (r : Int32) (h1 h2 : List pC), Run prog E pV0 40 mX7_carved [.ref 0, .int a] h0 (some (.int r), h1, 0, 0) ∧ Run prog E pV0 40 mX8_carved [.ref 110, .int a] h1 (some (.int r), h2, 0, 0) := by
  by_cases h1 : 0 ≤ a ∧ a ≤ 15
  · rcases cases_0_15 h1 with rfl | rfl | rfl | rfl | rfl | rfl | rfl | rfl | rfl | rfl | rfl | rfl | rfl | rfl | rfl | rfl
    · exact ⟨_, _, _, by
          exact Run.ex 4000 (Nat.le_of_ble_eq_true rfl) ⟨_, _, rfl⟩ rfl, by
          exact Run.ex 4000 (Nat.le_of_ble_eq_true rfl) ⟨_, _, rfl⟩ rfl⟩
    · exact ⟨_, _, _, by
          exact Run.ex 4000 (Nat.le_of_ble_eq_true rfl) ⟨_, _, rfl⟩ rfl, by
          exact Run.ex 4000 (Nat.le_of_ble_eq_true rfl) ⟨_, _, rfl⟩ rfl⟩
    · exact ⟨_, _, _, by
          exact Run.ex 4000 (Nat.le_of_ble_eq_true rfl) ⟨_, _, rfl⟩ rfl, by
          exact Run.ex 4000 (Nat.le_of_ble_eq_true rfl) ⟨_, _, rfl⟩ rfl⟩
    · exact ⟨_, _, _, by
          exact Run.ex 4000 (Nat.le_of_ble_eq_true rfl) ⟨_, _, rfl⟩ rfl, by
          exact Run.ex 4000 (Nat.le_of_ble_eq_true rfl) ⟨_, _, rfl⟩ rfl⟩
    · exact ⟨_, _, _, by
          exact Run.ex 4000 (Nat.le_of_ble_eq_true rfl) ⟨_, _, rfl⟩ rfl, by
          exact Run.ex 4000 (Nat.le_of_ble_eq_true rfl) ⟨_, _, rfl⟩ rfl⟩
    · exact ⟨_, _, _, by
          exact Run.ex 4000 (Nat.le_of_ble_eq_true rfl) ⟨_, _, rfl⟩ rfl, by
          exact Run.ex 4000 (Nat.le_of_ble_eq_true rfl) ⟨_, _, rfl⟩ rfl⟩
    · exact ⟨_, _, _, by
          exact Run.ex 4000 (Nat.le_of_ble_eq_true rfl) ⟨_, _, rfl⟩ rfl, by
          exact Run.ex 4000 (Nat.le_of_ble_eq_true rfl) ⟨_, _, rfl⟩ rfl⟩
    · exact ⟨_, _, _, by
          exact Run.ex 4000 (Nat.le_of_ble_eq_true rfl) ⟨_, _, rfl⟩ rfl, by
          exact Run.ex 4000 (Nat.le_of_ble_eq_true rfl) ⟨_, _, rfl⟩ rfl⟩
    · exact ⟨_, _, _, by
          exact Run.ex 4000 (Nat.le_of_ble_eq_true rfl) ⟨_, _, rfl⟩ rfl, by
          exact Run.ex 4000 (Nat.le_of_ble_eq_true rfl) ⟨_, _, rfl⟩ rfl⟩
    · exact ⟨_, _, _, by
          exact Run.ex 4000 (Nat.le_of_ble_eq_true rfl) ⟨_, _, rfl⟩ rfl, by
          exact Run.ex 4000 (Nat.le_of_ble_eq_true rfl) ⟨_, _, rfl⟩ rfl⟩
    · exact ⟨_, _, _, by
          exact Run.ex 4000 (Nat.le_of_ble_eq_true rfl) ⟨_, _, rfl⟩ rfl, by
          exact Run.ex 4000 (Nat.le_of_ble_eq_true rfl) ⟨_, _, rfl⟩ rfl⟩
    · exact ⟨_, _, _, by
          exact Run.ex 4000 (Nat.le_of_ble_eq_true rfl) ⟨_, _, rfl⟩ rfl, by
          exact Run.ex 4000 (Nat.le_of_ble_eq_true rfl) ⟨_, _, rfl⟩ rfl⟩
    · exact ⟨_, _, _, by
          exact Run.ex 4000 (Nat.le_of_ble_eq_true rfl) ⟨_, _, rfl⟩ rfl, by
          exact Run.ex 4000 (Nat.le_of_ble_eq_true rfl) ⟨_, _, rfl⟩ rfl⟩
    · exact ⟨_, _, _, by
          exact Run.ex 4000 (Nat.le_of_ble_eq_true rfl) ⟨_, _, rfl⟩ rfl, by
          exact Run.ex 4000 (Nat.le_of_ble_eq_true rfl) ⟨_, _, rfl⟩ rfl⟩
    · exact ⟨_, _, _, by
          exact Run.ex 4000 (Nat.le_of_ble_eq_true rfl) ⟨_, _, rfl⟩ rfl, by
          exact Run.ex 4000 (Nat.le_of_ble_eq_true rfl) ⟨_, _, rfl⟩ rfl⟩
    · exact ⟨_, _, _, by
          exact Run.ex 4000 (Nat.le_of_ble_eq_true rfl) ⟨_, _, rfl⟩ rfl, by
          exact Run.ex 4000 (Nat.le_of_ble_eq_true rfl) ⟨_, _, rfl⟩ rfl⟩
  · exact ⟨_, _, _, by
        refine ⟨Nat.le_of_ble_eq_true rfl, ⟨_, _, rfl⟩, ?_⟩
        refine RA.steps 1 rfl ?_
        refine RA.call0 rfl rfl rfl (by
          refine ⟨Nat.le_of_ble_eq_true rfl, ⟨_, _, rfl⟩, ?_⟩
          refine RA.steps 3 rfl ?_
          refine RA.call0 rfl rfl rfl (within_f (v := a) (lo := 0) (hi := 15) h1) ?_
          exact RA.ret rfl rfl) ?_
        refine RA.steps 2 rfl ?_
        exact RA.ret rfl rfl, by
        refine ⟨Nat.le_of_ble_eq_true rfl, ⟨_, _, rfl⟩, ?_⟩
        refine RA.steps 4 rfl ?_
        refine RA.call0 rfl rfl rfl (isIn_f (v := a) (lo := 0) (hi := 15) h1) ?_
        refine RA.steps 2 rfl ?_
        exact RA.ret rfl rfl⟩
set_option maxRecDepth 100000 in
set_option maxHeartbeats 60000000 in
theorem q_deal (E : pX) (a : Int32) : ∃ (r : Int32) (h1 h2 : List pC), Run prog E pV0 40 mX7_deal [.ref 0, .int a] h0 (some (.int r), h1, 0, 0) ∧ Run prog E pV0 40 mX8_deal [.ref 110, .int a] h1 (some (.int r), h2, 0, 0) := by
  by_cases h1 : 1 ≤ a ∧ a ≤ 9
  · rcases cases_1_9 h1 with rfl | rfl | rfl | rfl | rfl | rfl | rfl | rfl | rfl
    · exact ⟨_, _, _, by
          exact Run.ex 4000 (Nat.le_of_ble_eq_true rfl) ⟨_, _, rfl⟩ rfl, by
          exact Run.ex 4000 (Nat.le_of_ble_eq_true rfl) ⟨_, _, rfl⟩ rfl⟩
    · exact ⟨_, _, _, by
          exact Run.ex 4000 (Nat.le_of_ble_eq_true rfl) ⟨_, _, rfl⟩ rfl, by
          exact Run.ex 4000 (Nat.le_of_ble_eq_true rfl) ⟨_, _, rfl⟩ rfl⟩
    · exact ⟨_, _, _, by
          exact Run.ex 4000 (Nat.le_of_ble_eq_true rfl) ⟨_, _, rfl⟩ rfl, by
          exact Run.ex 4000 (Nat.le_of_ble_eq_true rfl) ⟨_, _, rfl⟩ rfl⟩
    · exact ⟨_, _, _, by
          exact Run.ex 4000 (Nat.le_of_ble_eq_true rfl) ⟨_, _, rfl⟩ rfl, by
          exact Run.ex 4000 (Nat.le_of_ble_eq_true rfl) ⟨_, _, rfl⟩ rfl⟩
    · exact ⟨_, _, _, by
          exact Run.ex 4000 (Nat.le_of_ble_eq_true rfl) ⟨_, _, rfl⟩ rfl, by
          exact Run.ex 4000 (Nat.le_of_ble_eq_true rfl) ⟨_, _, rfl⟩ rfl⟩
    · exact ⟨_, _, _, by
          exact Run.ex 4000 (Nat.le_of_ble_eq_true rfl) ⟨_, _, rfl⟩ rfl, by
          exact Run.ex 4000 (Nat.le_of_ble_eq_true rfl) ⟨_, _, rfl⟩ rfl⟩
    · exact ⟨_, _, _, by
          exact Run.ex 4000 (Nat.le_of_ble_eq_true rfl) ⟨_, _, rfl⟩ rfl, by
          exact Run.ex 4000 (Nat.le_of_ble_eq_true rfl) ⟨_, _, rfl⟩ rfl⟩
    · exact ⟨_, _, _, by
          exact Run.ex 4000 (Nat.le_of_ble_eq_true rfl) ⟨_, _, rfl⟩ rfl, by
          exact Run.ex 4000 (Nat.le_of_ble_eq_true rfl) ⟨_, _, rfl⟩ rfl⟩
    · exact ⟨_, _, _, by
          exact Run.ex 4000 (Nat.le_of_ble_eq_true rfl) ⟨_, _, rfl⟩ rfl, by
          exact Run.ex 4000 (Nat.le_of_ble_eq_true rfl) ⟨_, _, rfl⟩ rfl⟩
  · exact ⟨_, _, _, by
        refine ⟨Nat.le_of_ble_eq_true rfl, ⟨_, _, rfl⟩, ?_⟩
        refine RA.steps 3 rfl ?_
        refine RA.call0 rfl rfl rfl (within_f (v := a) (lo := 1) (hi := 9) h1) ?_
        refine RA.steps 2 rfl ?_
        exact RA.ret rfl rfl, by
        refine ⟨Nat.le_of_ble_eq_true rfl, ⟨_, _, rfl⟩, ?_⟩
        refine RA.steps 4 rfl ?_
        refine RA.call0 rfl rfl rfl (isIn_f (v := a) (lo := 1) (hi := 9) h1) ?_
        refine RA.steps 2 rfl ?_
        exact RA.ret rfl rfl⟩
set_option maxRecDepth 100000 in
set_option maxHeartbeats 60000000 in
theorem q_seed (E : pX) (a : Int32) : ∃ (r : Int32) (h1 h2 : List pC), Run prog E pV0 40 mX7_seed [.ref 0, .int a] h0 (some (.int r), h1, 0, 0) ∧ Run prog E pV0 40 mX8_seed [.ref 110, .int a] h1 (some (.int r), h2, 0, 0) := by
  exact ⟨_, _, _, by
      exact Run.ex 4000 (Nat.le_of_ble_eq_true rfl) ⟨_, _, rfl⟩ rfl, by
      exact Run.ex 4000 (Nat.le_of_ble_eq_true rfl) ⟨_, _, rfl⟩ rfl⟩
set_option maxRecDepth 100000 in
set_option maxHeartbeats 60000000 in
theorem q_falseAt (E : pX) (a b : Int32) : ∃ (r : Int32) (h1 h2 : List pC), Run prog E pV0 40 mX7_falseAt [.ref 0, .int a, .int b] h0 (some (.int r), h1, 0, 0) ∧ Run prog E pV0 40 mX8_falseAt [.ref 110, .int a, .int b] h1 (some (.int r), h2, 0, 0) := by
  exact ⟨_, _, _, by
      refine ⟨Nat.le_of_ble_eq_true rfl, ⟨_, _, rfl⟩, ?_⟩
      refine RA.steps 3 rfl ?_
      refine RA.call0 rfl rfl rfl (one_no a rfl) ?_
      refine RA.steps 4 rfl ?_
      exact RA.ret rfl rfl, by
      refine ⟨Nat.le_of_ble_eq_true rfl, ⟨_, _, rfl⟩, ?_⟩
      refine RA.steps 2 rfl ?_
      refine RA.call0 rfl rfl rfl (by
        refine ⟨Nat.le_of_ble_eq_true rfl, ⟨_, _, rfl⟩, ?_⟩
        refine RA.steps 10 rfl ?_
        refine RA.call0 rfl rfl rfl (isIn_f (v := a) (lo := 0) (hi := (-1)) (in_no (by decide))) ?_
        exact RA.ret rfl rfl) ?_
      refine RA.steps 2 rfl ?_
      exact RA.ret rfl rfl⟩
set_option maxRecDepth 100000 in
set_option maxHeartbeats 60000000 in
theorem q_fits (E : pX) (a b : Int32) : ∃ (r : Int32) (h1 h2 : List pC), Run prog E pV0 40 mX7_fits [.ref 0, .int a, .int b] h0 (some (.int r), h1, 0, 0) ∧ Run prog E pV0 40 mX8_fits [.ref 110, .int a, .int b] h1 (some (.int r), h2, 0, 0) := by
  exact ⟨_, _, _, by
      refine ⟨Nat.le_of_ble_eq_true rfl, ⟨_, _, rfl⟩, ?_⟩
      refine RA.steps 3 rfl ?_
      refine RA.call0 rfl rfl rfl (one_no a rfl) ?_
      refine RA.steps 4 rfl ?_
      exact RA.ret rfl rfl, by
      refine ⟨Nat.le_of_ble_eq_true rfl, ⟨_, _, rfl⟩, ?_⟩
      refine RA.steps 2 rfl ?_
      refine RA.call0 rfl rfl rfl (by
        refine ⟨Nat.le_of_ble_eq_true rfl, ⟨_, _, rfl⟩, ?_⟩
        refine RA.steps 10 rfl ?_
        refine RA.call0 rfl rfl rfl (isIn_f (v := a) (lo := 0) (hi := (-1)) (in_no (by decide))) ?_
        exact RA.ret rfl rfl) ?_
      refine RA.steps 2 rfl ?_
      exact RA.ret rfl rfl⟩
set_option maxRecDepth 100000 in
set_option maxHeartbeats 60000000 in
theorem q_join (E : pX) (a b c : Int32) : ∃ (r : Int32) (h1 h2 : List pC), Run prog E pV0 40 mX7_join [.ref 0, .int a, .int b, .int c] h0 (some (.int r), h1, 0, 0) ∧ Run prog E pV0 40 mX8_join [.ref 110, .int a, .int b, .int c] h1 (some (.int r), h2, 0, 0) := by
  exact ⟨_, _, _, by
      refine ⟨Nat.le_of_ble_eq_true rfl, ⟨_, _, rfl⟩, ?_⟩
      refine RA.steps 3 rfl ?_
      refine RA.call0 rfl rfl rfl (one_no a rfl) ?_
      refine RA.steps 4 rfl ?_
      refine RA.call0 rfl rfl rfl (one_no b rfl) ?_
      refine RA.steps 4 rfl ?_
      exact RA.ret rfl rfl, by
      refine ⟨Nat.le_of_ble_eq_true rfl, ⟨_, _, rfl⟩, ?_⟩
      refine RA.steps 2 rfl ?_
      refine RA.call0 rfl rfl rfl (by
        refine ⟨Nat.le_of_ble_eq_true rfl, ⟨_, _, rfl⟩, ?_⟩
        refine RA.steps 10 rfl ?_
        refine RA.call0 rfl rfl rfl (isIn_f (v := a) (lo := 0) (hi := (-1)) (in_no (by decide))) ?_
        exact RA.ret rfl rfl) ?_
      refine RA.steps 2 rfl ?_
      exact RA.ret rfl rfl⟩
set_option maxRecDepth 100000 in
set_option maxHeartbeats 60000000 in
theorem q_clash (E : pX) (a b : Int32) : ∃ (r : Int32) (h1 h2 : List pC), Run prog E pV0 40 mX7_clash [.ref 0, .int a, .int b] h0 (some (.int r), h1, 0, 0) ∧ Run prog E pV0 40 mX8_clash [.ref 110, .int a, .int b] h1 (some (.int r), h2, 0, 0) := by
  exact ⟨_, _, _, by
      refine ⟨Nat.le_of_ble_eq_true rfl, ⟨_, _, rfl⟩, ?_⟩
      refine RA.steps 3 rfl ?_
      refine RA.call0 rfl rfl rfl (one_no a rfl) ?_
      refine RA.steps 4 rfl ?_
      refine RA.call0 rfl rfl rfl (one_no b rfl) ?_
      refine RA.steps 4 rfl ?_
      exact RA.ret rfl rfl, by
      refine ⟨Nat.le_of_ble_eq_true rfl, ⟨_, _, rfl⟩, ?_⟩
      refine RA.steps 2 rfl ?_
      refine RA.call0 rfl rfl rfl (by
        refine ⟨Nat.le_of_ble_eq_true rfl, ⟨_, _, rfl⟩, ?_⟩
        refine RA.steps 10 rfl ?_
        refine RA.call0 rfl rfl rfl (isIn_f (v := a) (lo := 0) (hi := (-1)) (in_no (by decide))) ?_
        exact RA.ret rfl rfl) ?_
      refine RA.steps 2 rfl ?_
      exact RA.ret rfl rfl⟩
set_option maxRecDepth 100000 in
set_option maxHeartbeats 60000000 in
theorem q_undone (E : pX) : ∃ (r : Int32) (h1 h2 : List pC), Run prog E pV0 40 mX7_undone [.ref 0] h0 (some (.int r), h1, 0, 0) ∧ Run prog E pV0 40 mX8_undone [.ref 110] h1 (some (.int r), h2, 0, 0) := by
  exact ⟨_, _, _, by
      exact Run.ex 4000 (Nat.le_of_ble_eq_true rfl) ⟨_, _, rfl⟩ rfl, by
      exact Run.ex 4000 (Nat.le_of_ble_eq_true rfl) ⟨_, _, rfl⟩ rfl⟩
set_option maxRecDepth 100000 in
set_option maxHeartbeats 60000000 in
theorem q_borne (E : pX) : ∃ (r : Int32) (h1 h2 : List pC), Run prog E pV0 40 mX7_borne [.ref 0] h0 (some (.int r), h1, 0, 0) ∧ Run prog E pV0 40 mX8_borne [.ref 110] h1 (some (.int r), h2, 0, 0) := by
  exact ⟨_, _, _, by
      exact Run.ex 4000 (Nat.le_of_ble_eq_true rfl) ⟨_, _, rfl⟩ rfl, by
      exact Run.ex 4000 (Nat.le_of_ble_eq_true rfl) ⟨_, _, rfl⟩ rfl⟩
set_option maxRecDepth 100000 in
set_option maxHeartbeats 60000000 in
theorem q_look (E : pX) (a : Int32) : ∃ (r : Int32) (h1 h2 : List pC), Run prog E pV0 40 mX7_look [.ref 0, .int a] h0 (some (.int r), h1, 0, 0) ∧ Run prog E pV0 40 mX8_look [.ref 110, .int a] h1 (some (.int r), h2, 0, 0) := by
  by_cases h1 : 0 ≤ a ∧ a ≤ 1
  · rcases cases_0_1 h1 with rfl | rfl
    · exact ⟨_, _, _, by
          exact Run.ex 4000 (Nat.le_of_ble_eq_true rfl) ⟨_, _, rfl⟩ rfl, by
          exact Run.ex 4000 (Nat.le_of_ble_eq_true rfl) ⟨_, _, rfl⟩ rfl⟩
    · exact ⟨_, _, _, by
          exact Run.ex 4000 (Nat.le_of_ble_eq_true rfl) ⟨_, _, rfl⟩ rfl, by
          exact Run.ex 4000 (Nat.le_of_ble_eq_true rfl) ⟨_, _, rfl⟩ rfl⟩
  · exact ⟨_, _, _, by
        refine ⟨Nat.le_of_ble_eq_true rfl, ⟨_, _, rfl⟩, ?_⟩
        refine RA.steps 3 rfl ?_
        refine RA.call0 rfl rfl rfl (within_f (v := a) (lo := 0) (hi := 1) h1) ?_
        refine RA.steps 2 rfl ?_
        exact RA.ret rfl rfl, by
        refine ⟨Nat.le_of_ble_eq_true rfl, ⟨_, _, rfl⟩, ?_⟩
        refine RA.steps 4 rfl ?_
        refine RA.call0 rfl rfl rfl (isIn_f (v := a) (lo := 0) (hi := 1) h1) ?_
        refine RA.steps 2 rfl ?_
        exact RA.ret rfl rfl⟩
set_option maxRecDepth 100000 in
set_option maxHeartbeats 60000000 in
theorem q_book (E : pX) (a : Int32) : ∃ (r : Int32) (h1 h2 : List pC), Run prog E pV0 40 mX7_book [.ref 0, .int a] h0 (some (.int r), h1, 0, 0) ∧ Run prog E pV0 40 mX8_book [.ref 110, .int a] h1 (some (.int r), h2, 0, 0) := by
  by_cases h1 : a = 0
  · subst h1
    exact ⟨_, _, _, by
        exact Run.ex 4000 (Nat.le_of_ble_eq_true rfl) ⟨_, _, rfl⟩ rfl, by
        exact Run.ex 4000 (Nat.le_of_ble_eq_true rfl) ⟨_, _, rfl⟩ rfl⟩
  · by_cases h2 : a = 1
    · subst h2
      exact ⟨_, _, _, by
          exact Run.ex 4000 (Nat.le_of_ble_eq_true rfl) ⟨_, _, rfl⟩ rfl, by
          exact Run.ex 4000 (Nat.le_of_ble_eq_true rfl) ⟨_, _, rfl⟩ rfl⟩
    · by_cases h3 : a = 2
      · subst h3
        exact ⟨_, _, _, by
            exact Run.ex 4000 (Nat.le_of_ble_eq_true rfl) ⟨_, _, rfl⟩ rfl, by
            exact Run.ex 4000 (Nat.le_of_ble_eq_true rfl) ⟨_, _, rfl⟩ rfl⟩
      · by_cases h4 : a = 3
        · subst h4
          exact ⟨_, _, _, by
              exact Run.ex 4000 (Nat.le_of_ble_eq_true rfl) ⟨_, _, rfl⟩ rfl, by
              exact Run.ex 4000 (Nat.le_of_ble_eq_true rfl) ⟨_, _, rfl⟩ rfl⟩
        · exact ⟨_, _, _, by
              refine ⟨Nat.le_of_ble_eq_true rfl, ⟨_, _, rfl⟩, ?_⟩
              refine RA.steps 1 rfl ?_
              refine RA.sw rfl rfl rfl rfl (show psw _ [(0, 2), (1, 6), (2, 10), (3, 14)] 18 = 18 from ((psw_ne (lv_neT h1 (by decide))).trans ((psw_ne (lv_neT h2 (by decide))).trans ((psw_ne (lv_neT h3 (by decide))).trans ((psw_ne (lv_neT h4 (by decide))).trans rfl))))) ?_
              refine RA.steps 1 rfl ?_
              exact RA.ret rfl rfl, by
              refine ⟨Nat.le_of_ble_eq_true rfl, ⟨_, _, rfl⟩, ?_⟩
              refine RA.steps 1 rfl ?_
              refine RA.sw rfl rfl rfl rfl (show psw _ [(0, 2), (1, 7), (2, 10), (3, 13)] 22 = 22 from ((psw_ne (lv_neT h1 (by decide))).trans ((psw_ne (lv_neT h2 (by decide))).trans ((psw_ne (lv_neT h3 (by decide))).trans ((psw_ne (lv_neT h4 (by decide))).trans rfl))))) ?_
              refine RA.steps 1 rfl ?_
              exact RA.ret rfl rfl⟩
set_option maxRecDepth 100000 in
set_option maxHeartbeats 60000000 in
theorem q_lasts (E : pX) : ∃ (r : Int32) (h1 h2 : List pC), Run prog E pV0 40 mX7_lasts [.ref 0] h0 (some (.int r), h1, 0, 0) ∧ Run prog E pV0 40 mX8_lasts [.ref 110] h1 (some (.int r), h2, 0, 0) := by
  exact ⟨_, _, _, by
      exact Run.ex 4000 (Nat.le_of_ble_eq_true rfl) ⟨_, _, rfl⟩ rfl, by
      exact Run.ex 4000 (Nat.le_of_ble_eq_true rfl) ⟨_, _, rfl⟩ rfl⟩
set_option maxRecDepth 100000 in
set_option maxHeartbeats 60000000 in
theorem q_best (E : pX) (a b c : Int32) : ∃ (r : Int32) (h1 h2 : List pC), Run prog E pV0 40 mX7_best [.ref 0, .int a, .int b, .int c] h0 (some (.int r), h1, 0, 0) ∧ Run prog E pV0 40 mX8_best [.ref 110, .int a, .int b, .int c] h1 (some (.int r), h2, 0, 0) := by
  exact ⟨_, _, _, by
      refine ⟨Nat.le_of_ble_eq_true rfl, ⟨_, _, rfl⟩, ?_⟩
      refine RA.steps 3 rfl ?_
      refine RA.call0 rfl rfl rfl (one_no a rfl) ?_
      refine RA.steps 2 rfl ?_
      exact RA.ret rfl rfl, by
      refine ⟨Nat.le_of_ble_eq_true rfl, ⟨_, _, rfl⟩, ?_⟩
      refine RA.steps 2 rfl ?_
      refine RA.call0 rfl rfl rfl (by
        refine ⟨Nat.le_of_ble_eq_true rfl, ⟨_, _, rfl⟩, ?_⟩
        refine RA.steps 10 rfl ?_
        refine RA.call0 rfl rfl rfl (isIn_f (v := a) (lo := 0) (hi := (-1)) (in_no (by decide))) ?_
        exact RA.ret rfl rfl) ?_
      refine RA.steps 2 rfl ?_
      exact RA.ret rfl rfl⟩
set_option maxRecDepth 100000 in
set_option maxHeartbeats 60000000 in
theorem q_whose (E : pX) (a b : Int32) : ∃ (r : Int32) (h1 h2 : List pC), Run prog E pV0 40 mX7_whose [.ref 0, .int a, .int b] h0 (some (.int r), h1, 0, 0) ∧ Run prog E pV0 40 mX8_whose [.ref 110, .int a, .int b] h1 (some (.int r), h2, 0, 0) := by
  by_cases h1 : a < 0
  · exact ⟨_, _, _, by
        refine ⟨Nat.le_of_ble_eq_true rfl, ⟨_, _, rfl⟩, ?_⟩
        refine RA.steps 2 rfl ?_
        refine RA.call0 rfl rfl rfl (by
          refine ⟨Nat.le_of_ble_eq_true rfl, ⟨_, _, rfl⟩, ?_⟩
          refine RA.steps 1 rfl ?_
          refine RA.if1T rfl (decide_eq_true h1) ?_
          refine RA.steps 1 rfl ?_
          exact RA.ret rfl rfl) ?_
        refine RA.steps 4 rfl ?_
        exact RA.ret rfl rfl, by
        refine ⟨Nat.le_of_ble_eq_true rfl, ⟨_, _, rfl⟩, ?_⟩
        refine RA.steps 1 rfl ?_
        refine RA.call0 rfl rfl rfl (by
          refine ⟨Nat.le_of_ble_eq_true rfl, ⟨_, _, rfl⟩, ?_⟩
          refine RA.steps 4 rfl ?_
          refine RA.call0 rfl rfl rfl (isIn_f (v := a) (lo := 0) (hi := 3) (fun q => absurd h1 (Int32.not_lt.mpr q.1))) ?_
          exact RA.ret rfl rfl) ?_
        refine RA.steps 2 rfl ?_
        exact RA.ret rfl rfl⟩
  · by_cases h2 : a < 4
    · rcases cases_0_3 (in_lt_4 h1 h2) with rfl | rfl | rfl | rfl
      · by_cases h3 : 0 ≤ b ∧ b ≤ 1
        · exact ⟨_, _, _, by
              refine ⟨Nat.le_of_ble_eq_true rfl, ⟨_, _, rfl⟩, ?_⟩
              refine RA.steps 2 rfl ?_
              refine RA.call0 rfl rfl rfl (Run.ex 4000 (Nat.le_of_ble_eq_true rfl) ⟨_, _, rfl⟩ rfl) ?_
              refine RA.steps 6 rfl ?_
              refine RA.call0 rfl rfl rfl (within_t (v := b) (lo := 0) (hi := 1) h3) ?_
              refine RA.steps 2 rfl ?_
              refine RA.call0 rfl rfl rfl (Run.ex 4000 (Nat.le_of_ble_eq_true rfl) ⟨_, _, rfl⟩ rfl) ?_
              refine RA.steps 2 rfl ?_
              exact RA.ret rfl rfl, by
              refine ⟨Nat.le_of_ble_eq_true rfl, ⟨_, _, rfl⟩, ?_⟩
              refine RA.steps 1 rfl ?_
              refine RA.call0 rfl rfl rfl (Run.ex 4000 (Nat.le_of_ble_eq_true rfl) ⟨_, _, rfl⟩ rfl) ?_
              refine RA.steps 5 rfl ?_
              refine RA.call0 rfl rfl rfl (isIn_t (v := b) (lo := 0) (hi := 1) h3) ?_
              refine RA.steps 7 rfl ?_
              exact RA.ret rfl rfl⟩
        · exact ⟨_, _, _, by
              refine ⟨Nat.le_of_ble_eq_true rfl, ⟨_, _, rfl⟩, ?_⟩
              refine RA.steps 2 rfl ?_
              refine RA.call0 rfl rfl rfl (Run.ex 4000 (Nat.le_of_ble_eq_true rfl) ⟨_, _, rfl⟩ rfl) ?_
              refine RA.steps 6 rfl ?_
              refine RA.call0 rfl rfl rfl (within_f (v := b) (lo := 0) (hi := 1) h3) ?_
              refine RA.steps 2 rfl ?_
              exact RA.ret rfl rfl, by
              refine ⟨Nat.le_of_ble_eq_true rfl, ⟨_, _, rfl⟩, ?_⟩
              refine RA.steps 1 rfl ?_
              refine RA.call0 rfl rfl rfl (Run.ex 4000 (Nat.le_of_ble_eq_true rfl) ⟨_, _, rfl⟩ rfl) ?_
              refine RA.steps 5 rfl ?_
              refine RA.call0 rfl rfl rfl (isIn_f (v := b) (lo := 0) (hi := 1) h3) ?_
              refine RA.steps 2 rfl ?_
              exact RA.ret rfl rfl⟩
      · by_cases h4 : 0 ≤ b ∧ b ≤ 1
        · exact ⟨_, _, _, by
              refine ⟨Nat.le_of_ble_eq_true rfl, ⟨_, _, rfl⟩, ?_⟩
              refine RA.steps 2 rfl ?_
              refine RA.call0 rfl rfl rfl (Run.ex 4000 (Nat.le_of_ble_eq_true rfl) ⟨_, _, rfl⟩ rfl) ?_
              refine RA.steps 6 rfl ?_
              refine RA.call0 rfl rfl rfl (within_t (v := b) (lo := 0) (hi := 1) h4) ?_
              refine RA.steps 2 rfl ?_
              refine RA.call0 rfl rfl rfl (Run.ex 4000 (Nat.le_of_ble_eq_true rfl) ⟨_, _, rfl⟩ rfl) ?_
              refine RA.steps 2 rfl ?_
              exact RA.ret rfl rfl, by
              refine ⟨Nat.le_of_ble_eq_true rfl, ⟨_, _, rfl⟩, ?_⟩
              refine RA.steps 1 rfl ?_
              refine RA.call0 rfl rfl rfl (Run.ex 4000 (Nat.le_of_ble_eq_true rfl) ⟨_, _, rfl⟩ rfl) ?_
              refine RA.steps 5 rfl ?_
              refine RA.call0 rfl rfl rfl (isIn_t (v := b) (lo := 0) (hi := 1) h4) ?_
              refine RA.steps 7 rfl ?_
              exact RA.ret rfl rfl⟩
        · exact ⟨_, _, _, by
              refine ⟨Nat.le_of_ble_eq_true rfl, ⟨_, _, rfl⟩, ?_⟩
              refine RA.steps 2 rfl ?_
              refine RA.call0 rfl rfl rfl (Run.ex 4000 (Nat.le_of_ble_eq_true rfl) ⟨_, _, rfl⟩ rfl) ?_
              refine RA.steps 6 rfl ?_
              refine RA.call0 rfl rfl rfl (within_f (v := b) (lo := 0) (hi := 1) h4) ?_
              refine RA.steps 2 rfl ?_
              exact RA.ret rfl rfl, by
              refine ⟨Nat.le_of_ble_eq_true rfl, ⟨_, _, rfl⟩, ?_⟩
              refine RA.steps 1 rfl ?_
              refine RA.call0 rfl rfl rfl (Run.ex 4000 (Nat.le_of_ble_eq_true rfl) ⟨_, _, rfl⟩ rfl) ?_
              refine RA.steps 5 rfl ?_
              refine RA.call0 rfl rfl rfl (isIn_f (v := b) (lo := 0) (hi := 1) h4) ?_
              refine RA.steps 2 rfl ?_
              exact RA.ret rfl rfl⟩
      · by_cases h5 : 0 ≤ b ∧ b ≤ 1
        · exact ⟨_, _, _, by
              refine ⟨Nat.le_of_ble_eq_true rfl, ⟨_, _, rfl⟩, ?_⟩
              refine RA.steps 2 rfl ?_
              refine RA.call0 rfl rfl rfl (Run.ex 4000 (Nat.le_of_ble_eq_true rfl) ⟨_, _, rfl⟩ rfl) ?_
              refine RA.steps 6 rfl ?_
              refine RA.call0 rfl rfl rfl (within_t (v := b) (lo := 0) (hi := 1) h5) ?_
              refine RA.steps 2 rfl ?_
              refine RA.call0 rfl rfl rfl (Run.ex 4000 (Nat.le_of_ble_eq_true rfl) ⟨_, _, rfl⟩ rfl) ?_
              refine RA.steps 2 rfl ?_
              exact RA.ret rfl rfl, by
              refine ⟨Nat.le_of_ble_eq_true rfl, ⟨_, _, rfl⟩, ?_⟩
              refine RA.steps 1 rfl ?_
              refine RA.call0 rfl rfl rfl (Run.ex 4000 (Nat.le_of_ble_eq_true rfl) ⟨_, _, rfl⟩ rfl) ?_
              refine RA.steps 5 rfl ?_
              refine RA.call0 rfl rfl rfl (isIn_t (v := b) (lo := 0) (hi := 1) h5) ?_
              refine RA.steps 7 rfl ?_
              exact RA.ret rfl rfl⟩
        · exact ⟨_, _, _, by
              refine ⟨Nat.le_of_ble_eq_true rfl, ⟨_, _, rfl⟩, ?_⟩
              refine RA.steps 2 rfl ?_
              refine RA.call0 rfl rfl rfl (Run.ex 4000 (Nat.le_of_ble_eq_true rfl) ⟨_, _, rfl⟩ rfl) ?_
              refine RA.steps 6 rfl ?_
              refine RA.call0 rfl rfl rfl (within_f (v := b) (lo := 0) (hi := 1) h5) ?_
              refine RA.steps 2 rfl ?_
              exact RA.ret rfl rfl, by
              refine ⟨Nat.le_of_ble_eq_true rfl, ⟨_, _, rfl⟩, ?_⟩
              refine RA.steps 1 rfl ?_
              refine RA.call0 rfl rfl rfl (Run.ex 4000 (Nat.le_of_ble_eq_true rfl) ⟨_, _, rfl⟩ rfl) ?_
              refine RA.steps 5 rfl ?_
              refine RA.call0 rfl rfl rfl (isIn_f (v := b) (lo := 0) (hi := 1) h5) ?_
              refine RA.steps 2 rfl ?_
              exact RA.ret rfl rfl⟩
      · by_cases h6 : 0 ≤ b ∧ b ≤ 1
        · exact ⟨_, _, _, by
              refine ⟨Nat.le_of_ble_eq_true rfl, ⟨_, _, rfl⟩, ?_⟩
              refine RA.steps 2 rfl ?_
              refine RA.call0 rfl rfl rfl (Run.ex 4000 (Nat.le_of_ble_eq_true rfl) ⟨_, _, rfl⟩ rfl) ?_
              refine RA.steps 6 rfl ?_
              refine RA.call0 rfl rfl rfl (within_t (v := b) (lo := 0) (hi := 1) h6) ?_
              refine RA.steps 2 rfl ?_
              refine RA.call0 rfl rfl rfl (Run.ex 4000 (Nat.le_of_ble_eq_true rfl) ⟨_, _, rfl⟩ rfl) ?_
              refine RA.steps 2 rfl ?_
              exact RA.ret rfl rfl, by
              refine ⟨Nat.le_of_ble_eq_true rfl, ⟨_, _, rfl⟩, ?_⟩
              refine RA.steps 1 rfl ?_
              refine RA.call0 rfl rfl rfl (Run.ex 4000 (Nat.le_of_ble_eq_true rfl) ⟨_, _, rfl⟩ rfl) ?_
              refine RA.steps 5 rfl ?_
              refine RA.call0 rfl rfl rfl (isIn_t (v := b) (lo := 0) (hi := 1) h6) ?_
              refine RA.steps 7 rfl ?_
              exact RA.ret rfl rfl⟩
        · exact ⟨_, _, _, by
              refine ⟨Nat.le_of_ble_eq_true rfl, ⟨_, _, rfl⟩, ?_⟩
              refine RA.steps 2 rfl ?_
              refine RA.call0 rfl rfl rfl (Run.ex 4000 (Nat.le_of_ble_eq_true rfl) ⟨_, _, rfl⟩ rfl) ?_
              refine RA.steps 6 rfl ?_
              refine RA.call0 rfl rfl rfl (within_f (v := b) (lo := 0) (hi := 1) h6) ?_
              refine RA.steps 2 rfl ?_
              exact RA.ret rfl rfl, by
              refine ⟨Nat.le_of_ble_eq_true rfl, ⟨_, _, rfl⟩, ?_⟩
              refine RA.steps 1 rfl ?_
              refine RA.call0 rfl rfl rfl (Run.ex 4000 (Nat.le_of_ble_eq_true rfl) ⟨_, _, rfl⟩ rfl) ?_
              refine RA.steps 5 rfl ?_
              refine RA.call0 rfl rfl rfl (isIn_f (v := b) (lo := 0) (hi := 1) h6) ?_
              refine RA.steps 2 rfl ?_
              exact RA.ret rfl rfl⟩
    · exact ⟨_, _, _, by
          refine ⟨Nat.le_of_ble_eq_true rfl, ⟨_, _, rfl⟩, ?_⟩
          refine RA.steps 2 rfl ?_
          refine RA.call0 rfl rfl rfl (by
            refine ⟨Nat.le_of_ble_eq_true rfl, ⟨_, _, rfl⟩, ?_⟩
            refine RA.steps 1 rfl ?_
            refine RA.if1F rfl (decide_eq_false h1) ?_
            refine RA.steps 4 rfl ?_
            refine RA.if2T rfl (decide_eq_true (Int32.not_lt.mp h2)) ?_
            refine RA.steps 1 rfl ?_
            exact RA.ret rfl rfl) ?_
          refine RA.steps 4 rfl ?_
          exact RA.ret rfl rfl, by
          refine ⟨Nat.le_of_ble_eq_true rfl, ⟨_, _, rfl⟩, ?_⟩
          refine RA.steps 1 rfl ?_
          refine RA.call0 rfl rfl rfl (by
            refine ⟨Nat.le_of_ble_eq_true rfl, ⟨_, _, rfl⟩, ?_⟩
            refine RA.steps 4 rfl ?_
            refine RA.call0 rfl rfl rfl (isIn_f (v := a) (lo := 0) (hi := 3) (fun q => h2 (le_lt_4 q.2))) ?_
            exact RA.ret rfl rfl) ?_
          refine RA.steps 2 rfl ?_
          exact RA.ret rfl rfl⟩
set_option maxRecDepth 100000 in
set_option maxHeartbeats 60000000 in
theorem q_fee (E : pX) : ∃ (r : Int32) (h1 h2 : List pC), Run prog E pV0 40 mX7_fee [.ref 0] h0 (some (.int r), h1, 0, 0) ∧ Run prog E pV0 40 mX8_fee [.ref 110] h1 (some (.int r), h2, 0, 0) := by
  exact ⟨_, _, _, by
      exact Run.ex 4000 (Nat.le_of_ble_eq_true rfl) ⟨_, _, rfl⟩ rfl, by
      exact Run.ex 4000 (Nat.le_of_ble_eq_true rfl) ⟨_, _, rfl⟩ rfl⟩
set_option maxRecDepth 100000 in
set_option maxHeartbeats 60000000 in
theorem q_fine (E : pX) (a : Int32) : ∃ (r : Int32) (h1 h2 : List pC), Run prog E pV0 40 mX7_fine [.ref 0, .int a] h0 (some (.int r), h1, 0, 0) ∧ Run prog E pV0 40 mX8_fine [.ref 110, .int a] h1 (some (.int r), h2, 0, 0) := by
  exact ⟨_, _, _, by
      refine ⟨Nat.le_of_ble_eq_true rfl, ⟨_, _, rfl⟩, ?_⟩
      refine RA.steps 3 rfl ?_
      refine RA.call0 rfl rfl rfl (one_no a rfl) ?_
      refine RA.steps 5 rfl ?_
      exact RA.ret rfl rfl, by
      refine ⟨Nat.le_of_ble_eq_true rfl, ⟨_, _, rfl⟩, ?_⟩
      refine RA.steps 2 rfl ?_
      refine RA.call0 rfl rfl rfl (by
        refine ⟨Nat.le_of_ble_eq_true rfl, ⟨_, _, rfl⟩, ?_⟩
        refine RA.steps 10 rfl ?_
        refine RA.call0 rfl rfl rfl (isIn_f (v := a) (lo := 0) (hi := (-1)) (in_no (by decide))) ?_
        exact RA.ret rfl rfl) ?_
      refine RA.steps 2 rfl ?_
      exact RA.ret rfl rfl⟩
set_option maxRecDepth 100000 in
set_option maxHeartbeats 60000000 in
theorem q_trim (E : pX) (a : Int32) : ∃ (r : Int32) (h1 h2 : List pC), Run prog E pV0 40 mX7_trim [.ref 0, .int a] h0 (some (.int r), h1, 0, 0) ∧ Run prog E pV0 40 mX8_trim [.ref 110, .int a] h1 (some (.int r), h2, 0, 0) := by
  by_cases h1 : 0 ≤ a ∧ a ≤ 0
  · exact ⟨_, _, _, by
        refine ⟨Nat.le_of_ble_eq_true rfl, ⟨_, _, rfl⟩, ?_⟩
        refine RA.steps 5 rfl ?_
        refine RA.call0 rfl rfl rfl (within_t (v := a) (lo := 0) (hi := 0) h1) ?_
        refine RA.steps 6 rfl ?_
        exact RA.ret rfl rfl, by
        refine ⟨Nat.le_of_ble_eq_true rfl, ⟨_, _, rfl⟩, ?_⟩
        refine RA.steps 6 rfl ?_
        refine RA.call0 rfl rfl rfl (isIn_t (v := a) (lo := 0) (hi := 0) h1) ?_
        refine RA.steps 5 rfl ?_
        exact RA.ret rfl rfl⟩
  · exact ⟨_, _, _, by
        refine ⟨Nat.le_of_ble_eq_true rfl, ⟨_, _, rfl⟩, ?_⟩
        refine RA.steps 5 rfl ?_
        refine RA.call0 rfl rfl rfl (within_f (v := a) (lo := 0) (hi := 0) h1) ?_
        refine RA.steps 2 rfl ?_
        exact RA.ret rfl rfl, by
        refine ⟨Nat.le_of_ble_eq_true rfl, ⟨_, _, rfl⟩, ?_⟩
        refine RA.steps 6 rfl ?_
        refine RA.call0 rfl rfl rfl (isIn_f (v := a) (lo := 0) (hi := 0) h1) ?_
        refine RA.steps 2 rfl ?_
        exact RA.ret rfl rfl⟩
set_option maxRecDepth 100000 in
set_option maxHeartbeats 60000000 in
theorem q_text (E : pX) : ∃ (r : Int32) (h1 h2 : List pC), Run prog E pV0 40 mX7_text [.ref 0] h0 (some (.int r), h1, 0, 0) ∧ Run prog E pV0 40 mX8_text [.ref 110] h1 (some (.int r), h2, 0, 0) := by
  exact ⟨_, _, _, by
      refine ⟨Nat.le_of_ble_eq_true rfl, ⟨_, _, rfl⟩, ?_⟩
      refine RA.steps 5 rfl ?_
      refine RA.call0 rfl rfl rfl (by
        refine ⟨Nat.le_of_ble_eq_true rfl, ⟨_, _, rfl⟩, ?_⟩
        refine RA.steps 7 rfl ?_
        refine RA.call0 rfl rfl rfl (Run.ex 4000 (Nat.le_of_ble_eq_true rfl) ⟨_, _, rfl⟩ rfl) ?_
        refine RA.steps 1 rfl ?_
        refine RA.prim rfl rfl rfl rfl (by decide) rfl ?_
        refine RA.steps 5 rfl ?_
        exact RA.ret rfl rfl) ?_
      refine RA.steps 10 rfl ?_
      exact RA.ret rfl rfl, by
      exact Run.ex 4000 (Nat.le_of_ble_eq_true rfl) ⟨_, _, rfl⟩ rfl⟩
set_option maxRecDepth 100000 in
set_option maxHeartbeats 60000000 in
theorem q_textTold (E : pX) (a b : Int32) : ∃ (r : Int32) (h1 h2 : List pC), Run prog E pV0 40 mX7_textTold [.ref 0, .int a, .int b] h0 (some (.int r), h1, 0, 0) ∧ Run prog E pV0 40 mX8_textTold [.ref 110, .int a, .int b] h1 (some (.int r), h2, 0, 0) := by
  by_cases h1 : a < 0
  · exact ⟨_, _, _, by
        refine ⟨Nat.le_of_ble_eq_true rfl, ⟨_, _, rfl⟩, ?_⟩
        refine RA.steps 3 rfl ?_
        refine RA.call0 rfl rfl rfl (by
          refine ⟨Nat.le_of_ble_eq_true rfl, ⟨_, _, rfl⟩, ?_⟩
          refine RA.steps 3 rfl ?_
          refine RA.if2F rfl (decide_eq_false (Int32.not_le.mpr h1)) ?_
          refine RA.steps 3 rfl ?_
          refine RA.call0 rfl rfl rfl (by
            refine ⟨Nat.le_of_ble_eq_true rfl, ⟨_, _, rfl⟩, ?_⟩
            refine RA.steps 1 rfl ?_
            refine RA.if1T rfl (decide_eq_true h1) ?_
            refine RA.steps 1 rfl ?_
            exact RA.ret rfl rfl) ?_
          refine RA.steps 1 rfl ?_
          exact RA.ret rfl rfl) ?_
        refine RA.steps 4 rfl ?_
        exact RA.ret rfl rfl, by
        refine ⟨Nat.le_of_ble_eq_true rfl, ⟨_, _, rfl⟩, ?_⟩
        refine RA.steps 2 rfl ?_
        refine RA.call0 rfl rfl rfl (by
          refine ⟨Nat.le_of_ble_eq_true rfl, ⟨_, _, rfl⟩, ?_⟩
          refine RA.steps 10 rfl ?_
          refine RA.call0 rfl rfl rfl (isIn_f (v := a) (lo := 0) (hi := (-1)) (in_no (by decide))) ?_
          exact RA.ret rfl rfl) ?_
        refine RA.steps 2 rfl ?_
        exact RA.ret rfl rfl⟩
  · exact ⟨_, _, _, by
        refine ⟨Nat.le_of_ble_eq_true rfl, ⟨_, _, rfl⟩, ?_⟩
        refine RA.steps 3 rfl ?_
        refine RA.call0 rfl rfl rfl (by
          refine ⟨Nat.le_of_ble_eq_true rfl, ⟨_, _, rfl⟩, ?_⟩
          refine RA.steps 3 rfl ?_
          refine RA.if2T rfl (decide_eq_true (Int32.not_lt.mp h1)) ?_
          refine RA.steps 1 rfl ?_
          exact RA.ret rfl rfl) ?_
        refine RA.steps 4 rfl ?_
        exact RA.ret rfl rfl, by
        refine ⟨Nat.le_of_ble_eq_true rfl, ⟨_, _, rfl⟩, ?_⟩
        refine RA.steps 2 rfl ?_
        refine RA.call0 rfl rfl rfl (by
          refine ⟨Nat.le_of_ble_eq_true rfl, ⟨_, _, rfl⟩, ?_⟩
          refine RA.steps 10 rfl ?_
          refine RA.call0 rfl rfl rfl (isIn_f (v := a) (lo := 0) (hi := (-1)) (in_no (by decide))) ?_
          exact RA.ret rfl rfl) ?_
        refine RA.steps 2 rfl ?_
        exact RA.ret rfl rfl⟩
set_option maxRecDepth 100000 in
set_option maxHeartbeats 60000000 in
theorem q_why (E : pX) (a : Int32) : ∃ (r : Int32) (h1 h2 : List pC), Run prog E pV0 40 mX7_why [.ref 0, .int a] h0 (some (.int r), h1, 0, 0) ∧ Run prog E pV0 40 mX8_why [.ref 110, .int a] h1 (some (.int r), h2, 0, 0) := by
  by_cases h1 : 0 ≤ a ∧ a ≤ 2
  · rcases cases_0_2 h1 with rfl | rfl | rfl
    · exact ⟨_, _, _, by
          exact Run.ex 4000 (Nat.le_of_ble_eq_true rfl) ⟨_, _, rfl⟩ rfl, by
          exact Run.ex 4000 (Nat.le_of_ble_eq_true rfl) ⟨_, _, rfl⟩ rfl⟩
    · exact ⟨_, _, _, by
          exact Run.ex 4000 (Nat.le_of_ble_eq_true rfl) ⟨_, _, rfl⟩ rfl, by
          exact Run.ex 4000 (Nat.le_of_ble_eq_true rfl) ⟨_, _, rfl⟩ rfl⟩
    · exact ⟨_, _, _, by
          exact Run.ex 4000 (Nat.le_of_ble_eq_true rfl) ⟨_, _, rfl⟩ rfl, by
          exact Run.ex 4000 (Nat.le_of_ble_eq_true rfl) ⟨_, _, rfl⟩ rfl⟩
  · exact ⟨_, _, _, by
        refine ⟨Nat.le_of_ble_eq_true rfl, ⟨_, _, rfl⟩, ?_⟩
        refine RA.steps 3 rfl ?_
        refine RA.call0 rfl rfl rfl (within_f (v := a) (lo := 0) (hi := 2) h1) ?_
        refine RA.steps 2 rfl ?_
        exact RA.ret rfl rfl, by
        refine ⟨Nat.le_of_ble_eq_true rfl, ⟨_, _, rfl⟩, ?_⟩
        refine RA.steps 4 rfl ?_
        refine RA.call0 rfl rfl rfl (isIn_f (v := a) (lo := 0) (hi := 2) h1) ?_
        refine RA.steps 2 rfl ?_
        exact RA.ret rfl rfl⟩
set_option maxRecDepth 100000 in
set_option maxHeartbeats 60000000 in
theorem q_mark (E : pX) (a b c : Int32) : ∃ (r : Int32) (h1 h2 : List pC), Run prog E pV0 40 mX7_mark [.ref 0, .int a, .int b, .int c] h0 (some (.int r), h1, 0, 0) ∧ Run prog E pV0 40 mX8_mark [.ref 110, .int a, .int b, .int c] h1 (some (.int r), h2, 0, 0) := by
  by_cases h1 : a < 0
  · exact ⟨_, _, _, by
        refine ⟨Nat.le_of_ble_eq_true rfl, ⟨_, _, rfl⟩, ?_⟩
        refine RA.steps 2 rfl ?_
        refine RA.call0 rfl rfl rfl (by
          refine ⟨Nat.le_of_ble_eq_true rfl, ⟨_, _, rfl⟩, ?_⟩
          refine RA.steps 1 rfl ?_
          refine RA.if1T rfl (decide_eq_true h1) ?_
          refine RA.steps 1 rfl ?_
          exact RA.ret rfl rfl) ?_
        refine RA.steps 4 rfl ?_
        exact RA.ret rfl rfl, by
        refine ⟨Nat.le_of_ble_eq_true rfl, ⟨_, _, rfl⟩, ?_⟩
        refine RA.steps 1 rfl ?_
        refine RA.call0 rfl rfl rfl (by
          refine ⟨Nat.le_of_ble_eq_true rfl, ⟨_, _, rfl⟩, ?_⟩
          refine RA.steps 4 rfl ?_
          refine RA.call0 rfl rfl rfl (isIn_f (v := a) (lo := 0) (hi := 3) (fun q => absurd h1 (Int32.not_lt.mpr q.1))) ?_
          exact RA.ret rfl rfl) ?_
        refine RA.steps 2 rfl ?_
        exact RA.ret rfl rfl⟩
  · by_cases h2 : a < 4
    · rcases cases_0_3 (in_lt_4 h1 h2) with rfl | rfl | rfl | rfl
      · exact ⟨_, _, _, by
            exact Run.ex 4000 (Nat.le_of_ble_eq_true rfl) ⟨_, _, rfl⟩ rfl, by
            exact Run.ex 4000 (Nat.le_of_ble_eq_true rfl) ⟨_, _, rfl⟩ rfl⟩
      · exact ⟨_, _, _, by
            exact Run.ex 4000 (Nat.le_of_ble_eq_true rfl) ⟨_, _, rfl⟩ rfl, by
            exact Run.ex 4000 (Nat.le_of_ble_eq_true rfl) ⟨_, _, rfl⟩ rfl⟩
      · exact ⟨_, _, _, by
            exact Run.ex 4000 (Nat.le_of_ble_eq_true rfl) ⟨_, _, rfl⟩ rfl, by
            exact Run.ex 4000 (Nat.le_of_ble_eq_true rfl) ⟨_, _, rfl⟩ rfl⟩
      · exact ⟨_, _, _, by
            exact Run.ex 4000 (Nat.le_of_ble_eq_true rfl) ⟨_, _, rfl⟩ rfl, by
            exact Run.ex 4000 (Nat.le_of_ble_eq_true rfl) ⟨_, _, rfl⟩ rfl⟩
    · exact ⟨_, _, _, by
          refine ⟨Nat.le_of_ble_eq_true rfl, ⟨_, _, rfl⟩, ?_⟩
          refine RA.steps 2 rfl ?_
          refine RA.call0 rfl rfl rfl (by
            refine ⟨Nat.le_of_ble_eq_true rfl, ⟨_, _, rfl⟩, ?_⟩
            refine RA.steps 1 rfl ?_
            refine RA.if1F rfl (decide_eq_false h1) ?_
            refine RA.steps 4 rfl ?_
            refine RA.if2T rfl (decide_eq_true (Int32.not_lt.mp h2)) ?_
            refine RA.steps 1 rfl ?_
            exact RA.ret rfl rfl) ?_
          refine RA.steps 4 rfl ?_
          exact RA.ret rfl rfl, by
          refine ⟨Nat.le_of_ble_eq_true rfl, ⟨_, _, rfl⟩, ?_⟩
          refine RA.steps 1 rfl ?_
          refine RA.call0 rfl rfl rfl (by
            refine ⟨Nat.le_of_ble_eq_true rfl, ⟨_, _, rfl⟩, ?_⟩
            refine RA.steps 4 rfl ?_
            refine RA.call0 rfl rfl rfl (isIn_f (v := a) (lo := 0) (hi := 3) (fun q => h2 (le_lt_4 q.2))) ?_
            exact RA.ret rfl rfl) ?_
          refine RA.steps 2 rfl ?_
          exact RA.ret rfl rfl⟩
set_option maxRecDepth 100000 in
set_option maxHeartbeats 60000000 in
theorem q_pour (E : pX) (a : Int32) : ∃ (r : Int32) (h1 h2 : List pC), Run prog E pV0 40 mX7_pour [.ref 0, .int a] h0 (some (.int r), h1, 0, 0) ∧ Run prog E pV0 40 mX8_pour [.ref 110, .int a] h1 (some (.int r), h2, 0, 0) := by
  by_cases h1 : a < 0
  · exact ⟨_, _, _, by
        refine ⟨Nat.le_of_ble_eq_true rfl, ⟨_, _, rfl⟩, ?_⟩
        refine RA.steps 2 rfl ?_
        refine RA.call0 rfl rfl rfl (by
          refine ⟨Nat.le_of_ble_eq_true rfl, ⟨_, _, rfl⟩, ?_⟩
          refine RA.steps 1 rfl ?_
          refine RA.if1T rfl (decide_eq_true h1) ?_
          refine RA.steps 1 rfl ?_
          exact RA.ret rfl rfl) ?_
        refine RA.steps 4 rfl ?_
        exact RA.ret rfl rfl, by
        refine ⟨Nat.le_of_ble_eq_true rfl, ⟨_, _, rfl⟩, ?_⟩
        refine RA.steps 1 rfl ?_
        refine RA.call0 rfl rfl rfl (by
          refine ⟨Nat.le_of_ble_eq_true rfl, ⟨_, _, rfl⟩, ?_⟩
          refine RA.steps 4 rfl ?_
          refine RA.call0 rfl rfl rfl (isIn_f (v := a) (lo := 0) (hi := 3) (fun q => absurd h1 (Int32.not_lt.mpr q.1))) ?_
          exact RA.ret rfl rfl) ?_
        refine RA.steps 2 rfl ?_
        exact RA.ret rfl rfl⟩
  · by_cases h2 : a < 4
    · rcases cases_0_3 (in_lt_4 h1 h2) with rfl | rfl | rfl | rfl
      · exact ⟨_, _, _, by
            exact Run.ex 4000 (Nat.le_of_ble_eq_true rfl) ⟨_, _, rfl⟩ rfl, by
            exact Run.ex 4000 (Nat.le_of_ble_eq_true rfl) ⟨_, _, rfl⟩ rfl⟩
      · exact ⟨_, _, _, by
            exact Run.ex 4000 (Nat.le_of_ble_eq_true rfl) ⟨_, _, rfl⟩ rfl, by
            exact Run.ex 4000 (Nat.le_of_ble_eq_true rfl) ⟨_, _, rfl⟩ rfl⟩
      · exact ⟨_, _, _, by
            exact Run.ex 4000 (Nat.le_of_ble_eq_true rfl) ⟨_, _, rfl⟩ rfl, by
            exact Run.ex 4000 (Nat.le_of_ble_eq_true rfl) ⟨_, _, rfl⟩ rfl⟩
      · exact ⟨_, _, _, by
            exact Run.ex 4000 (Nat.le_of_ble_eq_true rfl) ⟨_, _, rfl⟩ rfl, by
            exact Run.ex 4000 (Nat.le_of_ble_eq_true rfl) ⟨_, _, rfl⟩ rfl⟩
    · exact ⟨_, _, _, by
          refine ⟨Nat.le_of_ble_eq_true rfl, ⟨_, _, rfl⟩, ?_⟩
          refine RA.steps 2 rfl ?_
          refine RA.call0 rfl rfl rfl (by
            refine ⟨Nat.le_of_ble_eq_true rfl, ⟨_, _, rfl⟩, ?_⟩
            refine RA.steps 1 rfl ?_
            refine RA.if1F rfl (decide_eq_false h1) ?_
            refine RA.steps 4 rfl ?_
            refine RA.if2T rfl (decide_eq_true (Int32.not_lt.mp h2)) ?_
            refine RA.steps 1 rfl ?_
            exact RA.ret rfl rfl) ?_
          refine RA.steps 4 rfl ?_
          exact RA.ret rfl rfl, by
          refine ⟨Nat.le_of_ble_eq_true rfl, ⟨_, _, rfl⟩, ?_⟩
          refine RA.steps 1 rfl ?_
          refine RA.call0 rfl rfl rfl (by
            refine ⟨Nat.le_of_ble_eq_true rfl, ⟨_, _, rfl⟩, ?_⟩
            refine RA.steps 4 rfl ?_
            refine RA.call0 rfl rfl rfl (isIn_f (v := a) (lo := 0) (hi := 3) (fun q => h2 (le_lt_4 q.2))) ?_
            exact RA.ret rfl rfl) ?_
          refine RA.steps 2 rfl ?_
          exact RA.ret rfl rfl⟩
set_option maxRecDepth 100000 in
set_option maxHeartbeats 60000000 in
theorem q_reads (E : pX) (a : Int32) : ∃ (r : Int32) (h1 h2 : List pC), Run prog E pV0 40 mX7_reads [.ref 0, .int a] h0 (some (.int r), h1, 0, 0) ∧ Run prog E pV0 40 mX8_reads [.ref 110, .int a] h1 (some (.int r), h2, 0, 0) := by
  by_cases h1 : a < 0
  · exact ⟨_, _, _, by
        refine ⟨Nat.le_of_ble_eq_true rfl, ⟨_, _, rfl⟩, ?_⟩
        refine RA.steps 2 rfl ?_
        refine RA.call0 rfl rfl rfl (by
          refine ⟨Nat.le_of_ble_eq_true rfl, ⟨_, _, rfl⟩, ?_⟩
          refine RA.steps 1 rfl ?_
          refine RA.if1T rfl (decide_eq_true h1) ?_
          refine RA.steps 1 rfl ?_
          exact RA.ret rfl rfl) ?_
        refine RA.steps 4 rfl ?_
        exact RA.ret rfl rfl, by
        refine ⟨Nat.le_of_ble_eq_true rfl, ⟨_, _, rfl⟩, ?_⟩
        refine RA.steps 1 rfl ?_
        refine RA.call0 rfl rfl rfl (by
          refine ⟨Nat.le_of_ble_eq_true rfl, ⟨_, _, rfl⟩, ?_⟩
          refine RA.steps 4 rfl ?_
          refine RA.call0 rfl rfl rfl (isIn_f (v := a) (lo := 0) (hi := 3) (fun q => absurd h1 (Int32.not_lt.mpr q.1))) ?_
          exact RA.ret rfl rfl) ?_
        refine RA.steps 2 rfl ?_
        exact RA.ret rfl rfl⟩
  · by_cases h2 : a < 4
    · rcases cases_0_3 (in_lt_4 h1 h2) with rfl | rfl | rfl | rfl
      · exact ⟨_, _, _, by
            exact Run.ex 4000 (Nat.le_of_ble_eq_true rfl) ⟨_, _, rfl⟩ rfl, by
            exact Run.ex 4000 (Nat.le_of_ble_eq_true rfl) ⟨_, _, rfl⟩ rfl⟩
      · exact ⟨_, _, _, by
            exact Run.ex 4000 (Nat.le_of_ble_eq_true rfl) ⟨_, _, rfl⟩ rfl, by
            exact Run.ex 4000 (Nat.le_of_ble_eq_true rfl) ⟨_, _, rfl⟩ rfl⟩
      · exact ⟨_, _, _, by
            exact Run.ex 4000 (Nat.le_of_ble_eq_true rfl) ⟨_, _, rfl⟩ rfl, by
            exact Run.ex 4000 (Nat.le_of_ble_eq_true rfl) ⟨_, _, rfl⟩ rfl⟩
      · exact ⟨_, _, _, by
            exact Run.ex 4000 (Nat.le_of_ble_eq_true rfl) ⟨_, _, rfl⟩ rfl, by
            exact Run.ex 4000 (Nat.le_of_ble_eq_true rfl) ⟨_, _, rfl⟩ rfl⟩
    · exact ⟨_, _, _, by
          refine ⟨Nat.le_of_ble_eq_true rfl, ⟨_, _, rfl⟩, ?_⟩
          refine RA.steps 2 rfl ?_
          refine RA.call0 rfl rfl rfl (by
            refine ⟨Nat.le_of_ble_eq_true rfl, ⟨_, _, rfl⟩, ?_⟩
            refine RA.steps 1 rfl ?_
            refine RA.if1F rfl (decide_eq_false h1) ?_
            refine RA.steps 4 rfl ?_
            refine RA.if2T rfl (decide_eq_true (Int32.not_lt.mp h2)) ?_
            refine RA.steps 1 rfl ?_
            exact RA.ret rfl rfl) ?_
          refine RA.steps 4 rfl ?_
          exact RA.ret rfl rfl, by
          refine ⟨Nat.le_of_ble_eq_true rfl, ⟨_, _, rfl⟩, ?_⟩
          refine RA.steps 1 rfl ?_
          refine RA.call0 rfl rfl rfl (by
            refine ⟨Nat.le_of_ble_eq_true rfl, ⟨_, _, rfl⟩, ?_⟩
            refine RA.steps 4 rfl ?_
            refine RA.call0 rfl rfl rfl (isIn_f (v := a) (lo := 0) (hi := 3) (fun q => h2 (le_lt_4 q.2))) ?_
            exact RA.ret rfl rfl) ?_
          refine RA.steps 2 rfl ?_
          exact RA.ret rfl rfl⟩
