/-! ===== both constructors at the depth of the law ===== -/
set_option maxRecDepth 100000 in
set_option maxHeartbeats 4000000 in
theorem run_C40 (E : pX) (V : pV) : Run prog E V 40 mX7_init [.ref 0] [.inr (.inr (7, pini 7))] (none, hC, 109, 2482) := Run.ex 600 (Nat.le_of_ble_eq_true rfl) ⟨_, _, rfl⟩ rfl
set_option maxRecDepth 100000 in
set_option maxHeartbeats 40000000 in
theorem run_M40 (E : pX) (V : pV) : Run prog E V 40 mX8_init [.ref 110] (hC ++ [.inr (.inr (8, pini 8))]) (none, h0, 19, 10021) := Run.ex 2500 (Nat.le_of_ble_eq_true rfl) ⟨_, _, rfl⟩ rfl
