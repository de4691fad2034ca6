/-! ===== the class's reader: pieces, and one turn as a pure function ===== -/
section PCE
variable {E : pX} {Φ : Option Value → List pC → Prop} {d : Nat} {h0 h : List pC} {f g : Nat → Int32}
/-- may the name stand in a text of that key -/
def nmB (key c : Int32) : Bool := if key = 0 then decide (c = 116 ∨ c = 115 ∨ c = 108) else if key = 1 then decide (c = 110 ∨ c = 102) else decide (c = 116 ∨ c = 115)
theorem nm_all : (List.range 26).all (fun k => decide (nrT (fun _ => nI (97 + k)) 0 1 3 bW3 = if nmB 0 (nI (97 + k)) = true then -(nI (97 + k)) else -1000000005) && decide (nrT (fun _ => nI (97 + k)) 0 1 2 bW4 = if nmB 1 (nI (97 + k)) = true then -(nI (97 + k)) else -1000000005) && decide (nrT (fun _ => nI (97 + k)) 0 1 2 bW5 = if nmB 2 (nI (97 + k)) = true then -(nI (97 + k)) else -1000000005) && decide (¬ -(nI (97 + k)) = -1000000005)) = true := by decide +kernel
theorem nrT_c {B : Int32 → Int32} {sv pv c : Int32} {n : Nat} {b : Nat → Int32} (h1 : pv - sv = 1) (hB : B sv = c) : nrT B sv pv n b = nrT (fun _ => c) 0 1 n b := by
  unfold nrT
  rw [if_pos h1, if_pos (show (1 : Int32) - 0 = 1 by decide), hB]
theorem nr_name {B : Int32 → Int32} {sv pv c key : Int32} (hk : key = 0 ∨ key = 1 ∨ key = 2) (h1 : pv - sv = 1) (hB : B sv = c) (hc : bL c) : nrV B sv pv key = (if nmB key c = true then -c else -1000000005) ∧ ¬ -c = -1000000005 := by
  have c0 := Int32.le_iff_toInt_le.mp hc.1
  have c1 := Int32.le_iff_toInt_le.mp hc.2
  rw [show (97 : Int32).toInt = 97 by decide] at c0
  rw [show (122 : Int32).toInt = 122 by decide] at c1
  obtain ⟨k, rfl, hk0⟩ := nIof (x := c) (by omega) (by omega)
  obtain ⟨j, rfl⟩ : ∃ j, k = 97 + j := ⟨k - 97, by omega⟩
  have a := List.all_eq_true.mp nm_all j (List.mem_range.mpr (by omega))
  rw [Bool.and_eq_true, Bool.and_eq_true, Bool.and_eq_true] at a
  obtain ⟨⟨⟨a0, a1⟩, a2⟩, a3⟩ := a
  refine ⟨?_, of_decide_eq_true a3⟩
  unfold nrV
  rcases hk with rfl | rfl | rfl
  · rw [if_pos rfl, nrT_c h1 hB]
    exact of_decide_eq_true a0
  · rw [if_neg (by decide), if_pos rfl, nrT_c h1 hB]
    exact of_decide_eq_true a1
  · rw [if_neg (by decide), if_neg (by decide), nrT_c h1 hB]
    exact of_decide_eq_true a2
theorem nr_long {B : Int32 → Int32} {sv pv key : Int32} (h1 : ¬ pv - sv = 1) : nrV B sv pv key = -1000000005 := by
  unfold nrV nrT
  rw [if_neg h1, if_neg h1, if_neg h1]
  split
  · rfl
  · split <;> rfl
theorem nrd_n {n s b p : Nat} {gl wa key pc : Int32} {st : List Int32} (hb : b ≤ p) (hp : p ≤ 96) (h4 : 4 < p - b) (C : CS h0 h n s b p gl st wa key pc) : Run prog E pV1 (d + 2) mX2_numberRead [.ref 76] h (some (.int (-1000000005)), h, 0, 0) := by
  have ⟨gs, ls, sg, ln, H, F, W, hS⟩ := C
  have ⟨f0, f1, f2, f3, f4, f5, f6, f7, f8, f9, f10⟩ := F
  have ⟨w0, w1, w2, w3⟩ := W
  refine ⟨Nat.le_of_ble_eq_true rfl, ⟨_, _, rfl⟩, ?_⟩
  show RA prog E pV1 (d + 2) mX2_numberRead 0 [some (.ref 76), none, none] [] h (some (.int (-1000000005)), h, 0, 0)
  refine RA.steps (i' := 1) (L' := [some (.ref 76), none, none]) (st' := [.ref 76]) (h' := h) 1 rfl ?_
  refine RA.getf rfl H.1 rfl f4 ?_
  refine RA.steps (i' := 3) (L' := [some (.ref 76), none, none]) (st' := [.ref 76, .int (nI p)]) (h' := h) 1 rfl ?_
  refine RA.getf rfl H.1 rfl f3 ?_
  refine RA.steps (i' := 5) (L' := [some (.ref 76), none, none]) (st' := [.int ((nI p) - (nI b))]) (h' := h) 1 rfl ?_
  rw [(nIsub (show b ≤ p by omega) (by omega))]
  refine RA.steps (i' := 6) (L' := [some (.ref 76), none, none]) (st' := [.int 4, .int (nI (p - b))]) (h' := h) 1 rfl ?_
  refine RA.if2F rfl (decide_eq_false (Int32.not_le.mpr (show nI 4 < nI (p - b) from nI_lt h4 (by omega)))) ?_
  refine RA.steps (i' := 8) (L' := [some (.ref 76), none, none]) (st' := [.int (-1000000005)]) (h' := h) 1 rfl ?_
  exact RA.ret rfl rfl
theorem nrd_l {n s b p : Nat} {gl wa key pc : Int32} {st : List Int32} (pt : pint h0 77 = some (96, f)) (fg : ∀ j : Nat, j < 96 → f j = g j) (hn : n ≤ 96) (hp : p ≤ n) (h4 : p - b ≤ 4) (hD : ∀ i : Nat, b ≤ i → i < p → bD (g i)) (C : CS h0 h n s b p gl st wa key pc) : ∀ (m i : Nat) (v : Int32), i + m = p → b ≤ i → 0 ≤ v.toInt → v.toInt < ((10 ^ (i - b) : Nat) : Int) → GX E (fun r_ h1 => h1 = h ∧ ∃ v : Int32, r_ = some (.int v) ∧ 0 ≤ v.toInt) (d + 2) mX2_numberRead 14 [some (.ref 76), some (.int v), some (.int (nI i))] [] h := by
  have ⟨gs, ls, sg, ln, H, F, W, hS⟩ := C
  have ⟨f0, f1, f2, f3, f4, f5, f6, f7, f8, f9, f10⟩ := F
  have ⟨w0, w1, w2, w3⟩ := W
  intro m
  induction m with
  | zero =>
    intro i v h1 hbi h2 h3
    refine GX.lift (fun _ q_ => RA.steps (i' := 16) (L' := [some (.ref 76), some (.int v), some (.int (nI i))]) (st' := [.ref 76, .int (nI i)]) (h' := h) 2 rfl q_) ?_
    refine GX.lift (fun _ q_ => RA.getf rfl H.1 rfl f4 q_) ?_
    refine GX.lift (fun _ q_ => RA.if2T rfl (decide_eq_true (nI_le (show p ≤ i by omega) (by omega))) q_) ?_
    refine GX.lift (fun _ q_ => RA.steps (i' := 31) (L' := [some (.ref 76), some (.int v), some (.int (nI i))]) (st' := [.int v]) (h' := h) 1 rfl q_) ?_
    refine GX.ret rfl rfl ?_
    exact ⟨rfl, v, rfl, h2⟩
  | succ m ih =>
    intro i v h1 hbi h2 h3
    have r := byA_x (E := E) (d := d) (i := i) H f0 f1 pt fg hn (show i ≤ 96 by omega)
    rw [if_pos (show i < n by omega)] at r
    have dg := hD i (by omega) (by omega)
    have d1 := Int32.le_iff_toInt_le.mp dg.1
    have d2 := Int32.le_iff_toInt_le.mp dg.2
    rw [show (48 : Int32).toInt = 48 by decide] at d1
    rw [show (57 : Int32).toInt = 57 by decide] at d2
    have p3 : 10 ^ (i - b) ≤ 10 ^ 3 := Nat.pow_le_pow_right (by decide) (by omega)
    have p4 : 10 ^ (i + 1 - b) = 10 ^ (i - b) * 10 := by rw [show i + 1 - b = (i - b) + 1 by omega, Nat.pow_succ]
    have e1 : (10 * v).toInt = 10 * v.toInt := by
      rw [Int32.toInt_mul, show (10 : Int32).toInt = 10 by decide]
      exact bm32 (by unfold mI; omega) (by unfold MI; omega)
    have e2 : (10 * v + g i).toInt = 10 * v.toInt + (g i).toInt := by
      rw [Int32.toInt_add, e1]
      exact bm32 (by unfold mI; omega) (by unfold MI; omega)
    have e3 : (10 * v + g i - 48).toInt = 10 * v.toInt + (g i).toInt - 48 := by
      rw [Int32.toInt_sub, e2, show (48 : Int32).toInt = 48 by decide]
      exact bm32 (by unfold mI; omega) (by unfold MI; omega)
    refine GX.lift (fun _ q_ => RA.steps (i' := 16) (L' := [some (.ref 76), some (.int v), some (.int (nI i))]) (st' := [.ref 76, .int (nI i)]) (h' := h) 2 rfl q_) ?_
    refine GX.lift (fun _ q_ => RA.getf rfl H.1 rfl f4 q_) ?_
    refine GX.lift (fun _ q_ => RA.if2F rfl (decide_eq_false (Int32.not_le.mpr (nI_lt (show i < p by omega) (by omega)))) q_) ?_
    refine GX.lift (fun _ q_ => RA.steps (i' := 23) (L' := [some (.ref 76), some (.int v), some (.int (nI i))]) (st' := [.int (nI i), .ref 76, .int (10 * v)]) (h' := h) 5 rfl q_) ?_
    refine GX.lift (fun _ q_ => RA.call0 (N := mX2_byteAt) (as := [.ref 76, .int (nI i)]) (rest := [.int (10 * v)]) rfl rfl (pcallV rfl rfl H.1 rfl rfl (Nat.le_of_ble_eq_true rfl)) r q_) ?_
    refine GX.lift (fun _ q_ => RA.steps (i' := 28) (L' := [some (.ref 76), some (.int (((10 * v) + (g i)) - 48)), some (.int (nI i))]) (st' := []) (h' := h) 4 rfl q_) ?_
    refine GX.lift (fun _ q_ => RA.iinc rfl rfl (nI_1 i) rfl q_) ?_
    refine GX.lift (fun _ q_ => RA.steps (i' := 14) (L' := [some (.ref 76), some (.int (((10 * v) + (g i)) - 48)), some (.int (nI (i + 1)))]) (st' := []) (h' := h) 1 rfl q_) ?_
    refine ih (i + 1) (10 * v + g i - 48) (by omega) (by omega) (by rw [e3]; omega) ?_
    rw [e3, p4]
    omega
theorem nrd_y {n s b p : Nat} {gl wa key pc : Int32} {st : List Int32} (pt : pint h0 77 = some (96, f)) (fg : ∀ j : Nat, j < 96 → f j = g j) (hn : n ≤ 96) (hb : b ≤ p) (hp : p ≤ n) (h4 : p - b ≤ 4) (hD : ∀ i : Nat, b ≤ i → i < p → bD (g i)) (C : CS h0 h n s b p gl st wa key pc) : ∃ v : Int32, Run prog E pV1 (d + 2) mX2_numberRead [.ref 76] h (some (.int v), h, 0, 0) ∧ ¬ v = -1000000005 := by
  have ⟨gs, ls, sg, ln, H, F, W, hS⟩ := C
  have ⟨f0, f1, f2, f3, f4, f5, f6, f7, f8, f9, f10⟩ := F
  have ⟨w0, w1, w2, w3⟩ := W
  have key : GX E (fun r_ h1 => h1 = h ∧ ∃ v : Int32, r_ = some (.int v) ∧ 0 ≤ v.toInt) (d + 2) mX2_numberRead 0 [some (.ref 76), none, none] [] h := by
    refine GX.lift (fun _ q_ => RA.steps (i' := 1) (L' := [some (.ref 76), none, none]) (st' := [.ref 76]) (h' := h) 1 rfl q_) ?_
    refine GX.lift (fun _ q_ => RA.getf rfl H.1 rfl f4 q_) ?_
    refine GX.lift (fun _ q_ => RA.steps (i' := 3) (L' := [some (.ref 76), none, none]) (st' := [.ref 76, .int (nI p)]) (h' := h) 1 rfl q_) ?_
    refine GX.lift (fun _ q_ => RA.getf rfl H.1 rfl f3 q_) ?_
    refine GX.lift (fun _ q_ => RA.steps (i' := 5) (L' := [some (.ref 76), none, none]) (st' := [.int ((nI p) - (nI b))]) (h' := h) 1 rfl q_) ?_
    rw [(nIsub (show b ≤ p by omega) (by omega))]
    refine GX.lift (fun _ q_ => RA.steps (i' := 6) (L' := [some (.ref 76), none, none]) (st' := [.int 4, .int (nI (p - b))]) (h' := h) 1 rfl q_) ?_
    refine GX.lift (fun _ q_ => RA.if2T rfl (decide_eq_true (show nI (p - b) ≤ nI 4 from nI_le h4 (by decide))) q_) ?_
    refine GX.lift (fun _ q_ => RA.steps (i' := 12) (L' := [some (.ref 76), some (.int 0), none]) (st' := [.ref 76]) (h' := h) 3 rfl q_) ?_
    refine GX.lift (fun _ q_ => RA.getf rfl H.1 rfl f3 q_) ?_
    refine GX.lift (fun _ q_ => RA.steps (i' := 14) (L' := [some (.ref 76), some (.int 0), some (.int (nI b))]) (st' := []) (h' := h) 1 rfl q_) ?_
    exact nrd_l pt fg hn hp h4 hD C (p - b) b 0 (by omega) (Nat.le_refl b) (by decide) (by rw [Nat.sub_self]; decide)
  obtain ⟨r_, h1, q, rfl, v, rfl, hv⟩ := key
  exact ⟨v, ⟨Nat.le_of_ble_eq_true rfl, ⟨_, _, rfl⟩, q⟩, fun z => by rw [z] at hv; exact absurd hv (by decide)⟩
theorem tpc_dy {n b p : Nat} {gl wa key pc v : Int32} {st : List Int32} (nv : Run prog E pV1 (d + 3) mX2_numberRead [.ref 76] h (some (.int v), h, 0, 0)) (hv : ¬ v = -1000000005) (hd : 6 ≤ d) (hl : st.length ≤ 96) (C : CS h0 h n 2 b p gl st wa key pc) : ∃ h1 : List pC, Run prog E pV1 (d + 4) mX2_takePiece [.ref 76, .ref 3] h (some (.int 1), h1, 0, 0) ∧ CS h0 h1 n 2 b p gl (snots st) 0 key (pc + 1) := by
  have key : GX E (fun r_ h1 => r_ = some (.int 1) ∧ CS h0 h1 n 2 b p gl (snots st) 0 key (pc + 1)) (d + 4) mX2_takePiece 0 [some (.ref 76), some (.ref 3), none] [] h := by
    have ⟨gs, ls, sg, ln, H, F, W, hS⟩ := C
    have ⟨f0, f1, f2, f3, f4, f5, f6, f7, f8, f9, f10⟩ := F
    have ⟨w0, w1, w2, w3⟩ := W
    obtain ⟨h1, q1, ls1, ln1, H1, W1⟩ := add_x (E := E) (d := d + 2) v H W
    refine GX.lift (fun _ q_ => RA.steps (i' := 1) (L' := [some (.ref 76), some (.ref 3), none]) (st' := [.ref 76]) (h' := h) 1 rfl q_) ?_
    refine GX.lift (fun _ q_ => RA.getf rfl H.1 rfl f2 q_) ?_
    refine GX.lift (fun _ q_ => RA.steps (i' := 3) (L' := [some (.ref 76), some (.ref 3), none]) (st' := [.int 2, .int (nI 2)]) (h' := h) 1 rfl q_) ?_
    refine GX.lift (fun _ q_ => RA.if2F rfl (by decide +kernel) q_) ?_
    refine GX.lift (fun _ q_ => RA.steps (i' := 5) (L' := [some (.ref 76), some (.ref 3), none]) (st' := [.ref 76]) (h' := h) 1 rfl q_) ?_
    refine GX.lift (fun _ q_ => RA.call0 (N := mX2_numberRead) (as := [.ref 76]) (rest := []) rfl rfl (pcallV rfl rfl H.1 rfl rfl (Nat.le_of_ble_eq_true rfl)) nv q_) ?_
    refine GX.lift (fun _ q_ => RA.steps (i' := 14) (L' := [some (.ref 76), some (.ref 3), some (.int v)]) (st' := [.int (-1000000005), .int v]) (h' := h) 4 rfl q_) ?_
    refine GX.lift (fun _ q_ => RA.if2T rfl (decide_eq_true hv) q_) ?_
    refine GX.lift (fun _ q_ => RA.steps (i' := 19) (L' := [some (.ref 76), some (.ref 3), some (.int v)]) (st' := [.int v, .ref 3]) (h' := h) 2 rfl q_) ?_
    refine GX.lift (fun _ q_ => RA.call0 (N := mX0_add) (as := [.ref 3, .int v]) (rest := []) rfl rfl (pcallV rfl rfl H.2.1 rfl rfl (Nat.le_of_ble_eq_true rfl)) q1 q_) ?_
    have ⟨y0, y1, y2, y3⟩ := W1
    refine GX.lift (fun _ q_ => RA.steps (i' := 22) (L' := [some (.ref 76), some (.ref 3), some (.int v)]) (st' := [.ref 3, .ref 3]) (h' := h1) 2 rfl q_) ?_
    refine GX.lift (fun _ q_ => RA.getf rfl H1.2.1 rfl y3 q_) ?_
    refine GX.lift (fun _ q_ => RA.steps (i' := 25) (L' := [some (.ref 76), some (.ref 3), some (.int v)]) (st' := [.int (pc + 1), .ref 3]) (h' := h1) 2 rfl q_) ?_
    refine GX.pW rfl H1 rfl (fun h1_1 H1_1 => ?_)
    refine GX.lift (fun _ q_ => RA.steps (i' := 28) (L' := [some (.ref 76), some (.ref 3), some (.int v)]) (st' := [.ref 3, .ref 76]) (h' := h1_1) 2 rfl q_) ?_
    obtain ⟨h2, q2, C2⟩ := endPiece_x (E := E) (d := d + 1) hl ⟨gs, _, sg, ln1, H1_1, F, W1.p3 (pc + 1), hS⟩
    refine GX.lift (fun _ q_ => RA.call0 (N := mX2_endPiece) (as := [.ref 76, .ref 3]) (rest := []) rfl rfl (pcallV rfl rfl H1_1.1 rfl rfl (Nat.le_of_ble_eq_true rfl)) q2 q_) ?_
    refine GX.lift (fun _ q_ => RA.steps (i' := 30) (L' := [some (.ref 76), some (.ref 3), some (.int v)]) (st' := [.int 1]) (h' := h2) 1 rfl q_) ?_
    refine GX.ret rfl rfl ?_
    refine ⟨rfl, ?_⟩
    unfold CS
    rw [snots_cn, ← sno_c st hl]
    exact C2
  obtain ⟨r_, h1, q, rfl, C1⟩ := key
  exact ⟨h1, ⟨Nat.le_of_ble_eq_true rfl, ⟨_, _, rfl⟩, q⟩, C1⟩
theorem tpc_wy {n b p : Nat} {gl wa key pc v : Int32} {st : List Int32} (nv : pV1 mX2_nameRead [.ref 76, .int key] h = some (some (.int v))) (hv : ¬ v = -1000000005) (hd : 6 ≤ d) (hl : st.length ≤ 96) (C : CS h0 h n 1 b p gl st wa key pc) : ∃ h1 : List pC, Run prog E pV1 (d + 4) mX2_takePiece [.ref 76, .ref 3] h (some (.int 1), h1, 0, 0) ∧ CS h0 h1 n 1 b p gl (snots st) 0 key (pc + 1) := by
  have key : GX E (fun r_ h1 => r_ = some (.int 1) ∧ CS h0 h1 n 1 b p gl (snots st) 0 key (pc + 1)) (d + 4) mX2_takePiece 0 [some (.ref 76), some (.ref 3), none] [] h := by
    have ⟨gs, ls, sg, ln, H, F, W, hS⟩ := C
    have ⟨f0, f1, f2, f3, f4, f5, f6, f7, f8, f9, f10⟩ := F
    have ⟨w0, w1, w2, w3⟩ := W
    obtain ⟨h1, q1, ls1, ln1, H1, W1⟩ := add_x (E := E) (d := d + 2) v H W
    refine GX.lift (fun _ q_ => RA.steps (i' := 1) (L' := [some (.ref 76), some (.ref 3), none]) (st' := [.ref 76]) (h' := h) 1 rfl q_) ?_
    refine GX.lift (fun _ q_ => RA.getf rfl H.1 rfl f2 q_) ?_
    refine GX.lift (fun _ q_ => RA.steps (i' := 3) (L' := [some (.ref 76), some (.ref 3), none]) (st' := [.int 2, .int (nI 1)]) (h' := h) 1 rfl q_) ?_
    refine GX.lift (fun _ q_ => RA.if2T rfl (by decide +kernel) q_) ?_
    refine GX.lift (fun _ q_ => RA.steps (i' := 9) (L' := [some (.ref 76), some (.ref 3), none]) (st' := [.ref 3, .ref 76]) (h' := h) 2 rfl q_) ?_
    refine GX.lift (fun _ q_ => RA.getf rfl H.2.1 rfl w2 q_) ?_
    refine GX.lift (fun _ q_ => RA.prim (N := mX2_nameRead) (as := [.ref 76, .int key]) (rest := []) rfl rfl (pcallV rfl rfl H.1 rfl rfl (Nat.le_of_ble_eq_true rfl)) rfl (by omega) nv q_) ?_
    refine GX.lift (fun _ q_ => RA.steps (i' := 14) (L' := [some (.ref 76), some (.ref 3), some (.int v)]) (st' := [.int (-1000000005), .int v]) (h' := h) 3 rfl q_) ?_
    refine GX.lift (fun _ q_ => RA.if2T rfl (decide_eq_true hv) q_) ?_
    refine GX.lift (fun _ q_ => RA.steps (i' := 19) (L' := [some (.ref 76), some (.ref 3), some (.int v)]) (st' := [.int v, .ref 3]) (h' := h) 2 rfl q_) ?_
    refine GX.lift (fun _ q_ => RA.call0 (N := mX0_add) (as := [.ref 3, .int v]) (rest := []) rfl rfl (pcallV rfl rfl H.2.1 rfl rfl (Nat.le_of_ble_eq_true rfl)) q1 q_) ?_
    have ⟨y0, y1, y2, y3⟩ := W1
    refine GX.lift (fun _ q_ => RA.steps (i' := 22) (L' := [some (.ref 76), some (.ref 3), some (.int v)]) (st' := [.ref 3, .ref 3]) (h' := h1) 2 rfl q_) ?_
    refine GX.lift (fun _ q_ => RA.getf rfl H1.2.1 rfl y3 q_) ?_
    refine GX.lift (fun _ q_ => RA.steps (i' := 25) (L' := [some (.ref 76), some (.ref 3), some (.int v)]) (st' := [.int (pc + 1), .ref 3]) (h' := h1) 2 rfl q_) ?_
    refine GX.pW rfl H1 rfl (fun h1_1 H1_1 => ?_)
    refine GX.lift (fun _ q_ => RA.steps (i' := 28) (L' := [some (.ref 76), some (.ref 3), some (.int v)]) (st' := [.ref 3, .ref 76]) (h' := h1_1) 2 rfl q_) ?_
    obtain ⟨h2, q2, C2⟩ := endPiece_x (E := E) (d := d + 1) hl ⟨gs, _, sg, ln1, H1_1, F, W1.p3 (pc + 1), hS⟩
    refine GX.lift (fun _ q_ => RA.call0 (N := mX2_endPiece) (as := [.ref 76, .ref 3]) (rest := []) rfl rfl (pcallV rfl rfl H1_1.1 rfl rfl (Nat.le_of_ble_eq_true rfl)) q2 q_) ?_
    refine GX.lift (fun _ q_ => RA.steps (i' := 30) (L' := [some (.ref 76), some (.ref 3), some (.int v)]) (st' := [.int 1]) (h' := h2) 1 rfl q_) ?_
    refine GX.ret rfl rfl ?_
    refine ⟨rfl, ?_⟩
    unfold CS
    rw [snots_cn, ← sno_c st hl]
    exact C2
  obtain ⟨r_, h1, q, rfl, C1⟩ := key
  exact ⟨h1, ⟨Nat.le_of_ble_eq_true rfl, ⟨_, _, rfl⟩, q⟩, C1⟩
theorem tpc_dn {n b p : Nat} {gl wa key pc v : Int32} {st : List Int32} (nv : Run prog E pV1 (d + 3) mX2_numberRead [.ref 76] h (some (.int v), h, 0, 0)) (hv : v = -1000000005) (hd : 6 ≤ d) (C : CS h0 h n 2 b p gl st wa key pc) : Run prog E pV1 (d + 4) mX2_takePiece [.ref 76, .ref 3] h (some (.int 0), h, 0, 0) := by
  have ⟨gs, ls, sg, ln, H, F, W, hS⟩ := C
  have ⟨f0, f1, f2, f3, f4, f5, f6, f7, f8, f9, f10⟩ := F
  have ⟨w0, w1, w2, w3⟩ := W
  refine ⟨Nat.le_of_ble_eq_true rfl, ⟨_, _, rfl⟩, ?_⟩
  show RA prog E pV1 (d + 4) mX2_takePiece 0 [some (.ref 76), some (.ref 3), none] [] h (some (.int 0), h, 0, 0)
  refine RA.steps (i' := 1) (L' := [some (.ref 76), some (.ref 3), none]) (st' := [.ref 76]) (h' := h) 1 rfl ?_
  refine RA.getf rfl H.1 rfl f2 ?_
  refine RA.steps (i' := 3) (L' := [some (.ref 76), some (.ref 3), none]) (st' := [.int 2, .int (nI 2)]) (h' := h) 1 rfl ?_
  refine RA.if2F rfl (by decide +kernel) ?_
  refine RA.steps (i' := 5) (L' := [some (.ref 76), some (.ref 3), none]) (st' := [.ref 76]) (h' := h) 1 rfl ?_
  refine RA.call0 (N := mX2_numberRead) (as := [.ref 76]) (rest := []) rfl rfl (pcallV rfl rfl H.1 rfl rfl (Nat.le_of_ble_eq_true rfl)) nv ?_
  refine RA.steps (i' := 14) (L' := [some (.ref 76), some (.ref 3), some (.int v)]) (st' := [.int (-1000000005), .int v]) (h' := h) 4 rfl ?_
  refine RA.if2F rfl (decide_eq_false (fun z => z hv)) ?_
  refine RA.steps (i' := 16) (L' := [some (.ref 76), some (.ref 3), some (.int v)]) (st' := [.int 0]) (h' := h) 1 rfl ?_
  exact RA.ret rfl rfl
theorem tpc_wn {n b p : Nat} {gl wa key pc v : Int32} {st : List Int32} (nv : pV1 mX2_nameRead [.ref 76, .int key] h = some (some (.int v))) (hv : v = -1000000005) (hd : 6 ≤ d) (C : CS h0 h n 1 b p gl st wa key pc) : Run prog E pV1 (d + 4) mX2_takePiece [.ref 76, .ref 3] h (some (.int 0), h, 0, 0) := by
  have ⟨gs, ls, sg, ln, H, F, W, hS⟩ := C
  have ⟨f0, f1, f2, f3, f4, f5, f6, f7, f8, f9, f10⟩ := F
  have ⟨w0, w1, w2, w3⟩ := W
  refine ⟨Nat.le_of_ble_eq_true rfl, ⟨_, _, rfl⟩, ?_⟩
  show RA prog E pV1 (d + 4) mX2_takePiece 0 [some (.ref 76), some (.ref 3), none] [] h (some (.int 0), h, 0, 0)
  refine RA.steps (i' := 1) (L' := [some (.ref 76), some (.ref 3), none]) (st' := [.ref 76]) (h' := h) 1 rfl ?_
  refine RA.getf rfl H.1 rfl f2 ?_
  refine RA.steps (i' := 3) (L' := [some (.ref 76), some (.ref 3), none]) (st' := [.int 2, .int (nI 1)]) (h' := h) 1 rfl ?_
  refine RA.if2T rfl (by decide +kernel) ?_
  refine RA.steps (i' := 9) (L' := [some (.ref 76), some (.ref 3), none]) (st' := [.ref 3, .ref 76]) (h' := h) 2 rfl ?_
  refine RA.getf rfl H.2.1 rfl w2 ?_
  refine RA.prim (N := mX2_nameRead) (as := [.ref 76, .int key]) (rest := []) rfl rfl (pcallV rfl rfl H.1 rfl rfl (Nat.le_of_ble_eq_true rfl)) rfl (by omega) nv ?_
  refine RA.steps (i' := 14) (L' := [some (.ref 76), some (.ref 3), some (.int v)]) (st' := [.int (-1000000005), .int v]) (h' := h) 3 rfl ?_
  refine RA.if2F rfl (decide_eq_false (fun z => z hv)) ?_
  refine RA.steps (i' := 16) (L' := [some (.ref 76), some (.ref 3), some (.int v)]) (st' := [.int 0]) (h' := h) 1 rfl ?_
  exact RA.ret rfl rfl
end PCE
/-! ===== the class's reader: one turn, and the whole ===== -/
section GON
variable {E : pX} {Φ : Option Value → List pC → Prop} {d : Nat} {h0 h : List pC} {f g : Nat → Int32}
/-- may a piece stand there: a number of at most four digits, a name of the key -/
def pceB (g : Nat → Int32) (key : Int32) (s b p : Nat) : Bool := if s = 2 then decide (p - b ≤ 4) else decide (p - b = 1) && nmB key (g b)
/-- one turn: nothing is said / a fault / signs that wait, whether a piece is wanted, how many there are -/
def gon (g : Nat → Int32) (key : Int32) (s b p : Nat) (gl : Int32) (st : List Int32) (wa pc : Int32) : Option (Option (List Int32 × Int32 × Int32)) :=
  if s = 3 then (if wa = 1 then (if (g b = 40 ∧ cn1 40 st < 8) ∨ (g b = 33 ∧ cn1 33 st < 8) then some (some (g b :: st, 1, pc)) else some none)
    else if g b = 41 ∧ 0 < cn1 40 st then (if tp (unw 1 st) = 40 then some (some (snots (unw 1 st).tail, 0, pc)) else none)
    else if rk (g b) = 0 then some none
    else if rk (g b) = 3 then (if rk (tp (unw 4 st)) = 3 then some none else some (some (g b :: unw 4 st, 1, pc)))
    else some (some (g b :: unw (rk (g b)) st, 1, pc)))
  else if wa = 1 ∧ gl = 0 ∧ pceB g key s b p = true then some (some (snots st, 0, pc + 1)) else some none
/-- behind a fault: where it is, is known -/
def FA (h0 h : List pC) (n b : Nat) (key : Int32) : Prop := ∃ (s p gl : Int32) (st : List Int32) (br no wa pc : Int32), CR h0 h (nI n) s (nI b) p gl st br no wa key pc
theorem CS.fa {n s b p : Nat} {gl wa key pc : Int32} {st : List Int32} (C : CS h0 h n s b p gl st wa key pc) : FA h0 h n b key := ⟨_, _, _, _, _, _, _, _, C⟩
theorem go_ah {n b p : Nat} {gl key pc v : Int32} {st : List Int32} {h1 : List pC} (pt : pint h0 77 = some (96, f)) (fg : ∀ j : Nat, j < 96 → f j = g j) (hn : n ≤ 96) (hb : b < n) (C : CS h0 h n 3 b p gl st 1 key pc) (q : Run prog E pV1 (d + 4) mX2_takeAhead [.ref 76, .int (g b)] h (some (.int v), h1, 0, 0)) (hv : v = 0 ∨ v = 1) : Run prog E pV1 (d + 5) mX2_goesOn [.ref 76, .ref 3] h (some (.int v), h1, 0, 0) := by
  have ⟨gs, ls, sg, ln, H, F, W, hS⟩ := C
  have ⟨f0, f1, f2, f3, f4, f5, f6, f7, f8, f9, f10⟩ := F
  have ⟨w0, w1, w2, w3⟩ := W
  refine ⟨Nat.le_of_ble_eq_true rfl, ⟨_, _, rfl⟩, ?_⟩
  show RA prog E pV1 (d + 5) mX2_goesOn 0 [some (.ref 76), some (.ref 3)] [] h (some (.int v), h1, 0, 0)
  rcases hv with rfl | rfl
  · skip
    have r := byA_x (E := E) (d := d + 3) (i := b) H f0 f1 pt fg hn (show b ≤ 96 by omega)
    rw [if_pos hb] at r
    refine RA.steps (i' := 1) (L' := [some (.ref 76), some (.ref 3)]) (st' := [.ref 76]) (h' := h) 1 rfl ?_
    refine RA.getf rfl H.1 rfl f2 ?_
    refine RA.steps (i' := 3) (L' := [some (.ref 76), some (.ref 3)]) (st' := [.int 3, .int (nI 3)]) (h' := h) 1 rfl ?_
    refine RA.if2F rfl (by decide +kernel) ?_
    refine RA.steps (i' := 5) (L' := [some (.ref 76), some (.ref 3)]) (st' := [.ref 76]) (h' := h) 1 rfl ?_
    refine RA.getf rfl H.1 rfl f10 ?_
    refine RA.if1F rfl rfl ?_
    refine RA.steps (i' := 10) (L' := [some (.ref 76), some (.ref 3)]) (st' := [.ref 76, .ref 76, .ref 76]) (h' := h) 3 rfl ?_
    refine RA.getf rfl H.1 rfl f3 ?_
    refine RA.call0 (N := mX2_byteAt) (as := [.ref 76, .int (nI b)]) (rest := [.ref 76]) rfl rfl (pcallV rfl rfl H.1 rfl rfl (Nat.le_of_ble_eq_true rfl)) r ?_
    refine RA.call0 (N := mX2_takeAhead) (as := [.ref 76, .int (g b)]) (rest := []) rfl rfl (pcallV rfl rfl H.1 rfl rfl (Nat.le_of_ble_eq_true rfl)) q ?_
    refine RA.steps (i' := 21) (L' := [some (.ref 76), some (.ref 3)]) (st' := [.int 0]) (h' := h1) 1 rfl ?_
    exact RA.ret rfl rfl
  · skip
    have r := byA_x (E := E) (d := d + 3) (i := b) H f0 f1 pt fg hn (show b ≤ 96 by omega)
    rw [if_pos hb] at r
    refine RA.steps (i' := 1) (L' := [some (.ref 76), some (.ref 3)]) (st' := [.ref 76]) (h' := h) 1 rfl ?_
    refine RA.getf rfl H.1 rfl f2 ?_
    refine RA.steps (i' := 3) (L' := [some (.ref 76), some (.ref 3)]) (st' := [.int 3, .int (nI 3)]) (h' := h) 1 rfl ?_
    refine RA.if2F rfl (by decide +kernel) ?_
    refine RA.steps (i' := 5) (L' := [some (.ref 76), some (.ref 3)]) (st' := [.ref 76]) (h' := h) 1 rfl ?_
    refine RA.getf rfl H.1 rfl f10 ?_
    refine RA.if1F rfl rfl ?_
    refine RA.steps (i' := 10) (L' := [some (.ref 76), some (.ref 3)]) (st' := [.ref 76, .ref 76, .ref 76]) (h' := h) 3 rfl ?_
    refine RA.getf rfl H.1 rfl f3 ?_
    refine RA.call0 (N := mX2_byteAt) (as := [.ref 76, .int (nI b)]) (rest := [.ref 76]) rfl rfl (pcallV rfl rfl H.1 rfl rfl (Nat.le_of_ble_eq_true rfl)) r ?_
    refine RA.call0 (N := mX2_takeAhead) (as := [.ref 76, .int (g b)]) (rest := []) rfl rfl (pcallV rfl rfl H.1 rfl rfl (Nat.le_of_ble_eq_true rfl)) q ?_
    refine RA.steps (i' := 21) (L' := [some (.ref 76), some (.ref 3)]) (st' := [.int 1]) (h' := h1) 1 rfl ?_
    exact RA.ret rfl rfl
theorem go_bh {n b p : Nat} {gl key pc v : Int32} {st : List Int32} {h1 : List pC} (pt : pint h0 77 = some (96, f)) (fg : ∀ j : Nat, j < 96 → f j = g j) (hn : n ≤ 96) (hb : b < n) (C : CS h0 h n 3 b p gl st 0 key pc) (q : Run prog E pV1 (d + 4) mX2_takeBehind [.ref 76, .ref 3, .int (g b)] h (some (.int v), h1, 0, 0)) (hv : v = 0 ∨ v = 1) : Run prog E pV1 (d + 5) mX2_goesOn [.ref 76, .ref 3] h (some (.int v), h1, 0, 0) := by
  have ⟨gs, ls, sg, ln, H, F, W, hS⟩ := C
  have ⟨f0, f1, f2, f3, f4, f5, f6, f7, f8, f9, f10⟩ := F
  have ⟨w0, w1, w2, w3⟩ := W
  refine ⟨Nat.le_of_ble_eq_true rfl, ⟨_, _, rfl⟩, ?_⟩
  show RA prog E pV1 (d + 5) mX2_goesOn 0 [some (.ref 76), some (.ref 3)] [] h (some (.int v), h1, 0, 0)
  rcases hv with rfl | rfl
  · skip
    have r := byA_x (E := E) (d := d + 3) (i := b) H f0 f1 pt fg hn (show b ≤ 96 by omega)
    rw [if_pos hb] at r
    refine RA.steps (i' := 1) (L' := [some (.ref 76), some (.ref 3)]) (st' := [.ref 76]) (h' := h) 1 rfl ?_
    refine RA.getf rfl H.1 rfl f2 ?_
    refine RA.steps (i' := 3) (L' := [some (.ref 76), some (.ref 3)]) (st' := [.int 3, .int (nI 3)]) (h' := h) 1 rfl ?_
    refine RA.if2F rfl (by decide +kernel) ?_
    refine RA.steps (i' := 5) (L' := [some (.ref 76), some (.ref 3)]) (st' := [.ref 76]) (h' := h) 1 rfl ?_
    refine RA.getf rfl H.1 rfl f10 ?_
    refine RA.if1T rfl rfl ?_
    refine RA.steps (i' := 18) (L' := [some (.ref 76), some (.ref 3)]) (st' := [.ref 76, .ref 76, .ref 3, .ref 76]) (h' := h) 4 rfl ?_
    refine RA.getf rfl H.1 rfl f3 ?_
    refine RA.call0 (N := mX2_byteAt) (as := [.ref 76, .int (nI b)]) (rest := [.ref 3, .ref 76]) rfl rfl (pcallV rfl rfl H.1 rfl rfl (Nat.le_of_ble_eq_true rfl)) r ?_
    refine RA.call0 (N := mX2_takeBehind) (as := [.ref 76, .ref 3, .int (g b)]) (rest := []) rfl rfl (pcallV rfl rfl H.1 rfl rfl (Nat.le_of_ble_eq_true rfl)) q ?_
    exact RA.ret rfl rfl
  · skip
    have r := byA_x (E := E) (d := d + 3) (i := b) H f0 f1 pt fg hn (show b ≤ 96 by omega)
    rw [if_pos hb] at r
    refine RA.steps (i' := 1) (L' := [some (.ref 76), some (.ref 3)]) (st' := [.ref 76]) (h' := h) 1 rfl ?_
    refine RA.getf rfl H.1 rfl f2 ?_
    refine RA.steps (i' := 3) (L' := [some (.ref 76), some (.ref 3)]) (st' := [.int 3, .int (nI 3)]) (h' := h) 1 rfl ?_
    refine RA.if2F rfl (by decide +kernel) ?_
    refine RA.steps (i' := 5) (L' := [some (.ref 76), some (.ref 3)]) (st' := [.ref 76]) (h' := h) 1 rfl ?_
    refine RA.getf rfl H.1 rfl f10 ?_
    refine RA.if1T rfl rfl ?_
    refine RA.steps (i' := 18) (L' := [some (.ref 76), some (.ref 3)]) (st' := [.ref 76, .ref 76, .ref 3, .ref 76]) (h' := h) 4 rfl ?_
    refine RA.getf rfl H.1 rfl f3 ?_
    refine RA.call0 (N := mX2_byteAt) (as := [.ref 76, .int (nI b)]) (rest := [.ref 3, .ref 76]) rfl rfl (pcallV rfl rfl H.1 rfl rfl (Nat.le_of_ble_eq_true rfl)) r ?_
    refine RA.call0 (N := mX2_takeBehind) (as := [.ref 76, .ref 3, .int (g b)]) (rest := []) rfl rfl (pcallV rfl rfl H.1 rfl rfl (Nat.le_of_ble_eq_true rfl)) q ?_
    exact RA.ret rfl rfl
theorem go_w0 {n s b p : Nat} {gl wa key pc : Int32} {st : List Int32} {h1 : List pC} (s3 : s ≠ 3) (s4 : s ≤ 3) (C : CS h0 h n s b p gl st wa key pc) (wh : wa = 0) : Run prog E pV1 (d + 5) mX2_goesOn [.ref 76, .ref 3] h (some (.int 0), h, 0, 0) := by
  have ⟨gs, ls, sg, ln, H, F, W, hS⟩ := C
  have ⟨f0, f1, f2, f3, f4, f5, f6, f7, f8, f9, f10⟩ := F
  have ⟨w0, w1, w2, w3⟩ := W
  refine ⟨Nat.le_of_ble_eq_true rfl, ⟨_, _, rfl⟩, ?_⟩
  show RA prog E pV1 (d + 5) mX2_goesOn 0 [some (.ref 76), some (.ref 3)] [] h (some (.int 0), h, 0, 0)
  refine RA.steps (i' := 1) (L' := [some (.ref 76), some (.ref 3)]) (st' := [.ref 76]) (h' := h) 1 rfl ?_
  refine RA.getf rfl H.1 rfl f2 ?_
  refine RA.steps (i' := 3) (L' := [some (.ref 76), some (.ref 3)]) (st' := [.int 3, .int (nI s)]) (h' := h) 1 rfl ?_
  refine RA.if2T rfl (decide_eq_true (fun z => s3 ((nI_eq (by omega) (by decide)).mp (show nI s = nI 3 from z)))) ?_
  refine RA.steps (i' := 23) (L' := [some (.ref 76), some (.ref 3)]) (st' := [.ref 76]) (h' := h) 1 rfl ?_
  refine RA.getf rfl H.1 rfl f10 ?_
  refine RA.if1T rfl (decide_eq_true wh) ?_
  refine RA.steps (i' := 35) (L' := [some (.ref 76), some (.ref 3)]) (st' := [.int 0]) (h' := h) 1 rfl ?_
  exact RA.ret rfl rfl
theorem go_w1 {n s b p : Nat} {gl wa key pc : Int32} {st : List Int32} {h1 : List pC} (s3 : s ≠ 3) (s4 : s ≤ 3) (C : CS h0 h n s b p gl st wa key pc) (wh : ¬ wa = 0) (g0 : ¬ gl = 0) : Run prog E pV1 (d + 5) mX2_goesOn [.ref 76, .ref 3] h (some (.int 0), h, 0, 0) := by
  have ⟨gs, ls, sg, ln, H, F, W, hS⟩ := C
  have ⟨f0, f1, f2, f3, f4, f5, f6, f7, f8, f9, f10⟩ := F
  have ⟨w0, w1, w2, w3⟩ := W
  refine ⟨Nat.le_of_ble_eq_true rfl, ⟨_, _, rfl⟩, ?_⟩
  show RA prog E pV1 (d + 5) mX2_goesOn 0 [some (.ref 76), some (.ref 3)] [] h (some (.int 0), h, 0, 0)
  refine RA.steps (i' := 1) (L' := [some (.ref 76), some (.ref 3)]) (st' := [.ref 76]) (h' := h) 1 rfl ?_
  refine RA.getf rfl H.1 rfl f2 ?_
  refine RA.steps (i' := 3) (L' := [some (.ref 76), some (.ref 3)]) (st' := [.int 3, .int (nI s)]) (h' := h) 1 rfl ?_
  refine RA.if2T rfl (decide_eq_true (fun z => s3 ((nI_eq (by omega) (by decide)).mp (show nI s = nI 3 from z)))) ?_
  refine RA.steps (i' := 23) (L' := [some (.ref 76), some (.ref 3)]) (st' := [.ref 76]) (h' := h) 1 rfl ?_
  refine RA.getf rfl H.1 rfl f10 ?_
  refine RA.if1F rfl (decide_eq_false wh) ?_
  refine RA.steps (i' := 26) (L' := [some (.ref 76), some (.ref 3)]) (st' := [.ref 76]) (h' := h) 1 rfl ?_
  refine RA.getf rfl H.1 rfl f5 ?_
  refine RA.if1T rfl (decide_eq_true g0) ?_
  refine RA.steps (i' := 35) (L' := [some (.ref 76), some (.ref 3)]) (st' := [.int 0]) (h' := h) 1 rfl ?_
  exact RA.ret rfl rfl
theorem go_w2 {n s b p : Nat} {gl wa key pc : Int32} {st : List Int32} {h1 : List pC} (s3 : s ≠ 3) (s4 : s ≤ 3) (C : CS h0 h n s b p gl st wa key pc) (wh : ¬ wa = 0) (g0 : gl = 0) (q : Run prog E pV1 (d + 4) mX2_takePiece [.ref 76, .ref 3] h (some (.int 1), h1, 0, 0)) : Run prog E pV1 (d + 5) mX2_goesOn [.ref 76, .ref 3] h (some (.int 1), h1, 0, 0) := by
  have ⟨gs, ls, sg, ln, H, F, W, hS⟩ := C
  have ⟨f0, f1, f2, f3, f4, f5, f6, f7, f8, f9, f10⟩ := F
  have ⟨w0, w1, w2, w3⟩ := W
  refine ⟨Nat.le_of_ble_eq_true rfl, ⟨_, _, rfl⟩, ?_⟩
  show RA prog E pV1 (d + 5) mX2_goesOn 0 [some (.ref 76), some (.ref 3)] [] h (some (.int 1), h1, 0, 0)
  refine RA.steps (i' := 1) (L' := [some (.ref 76), some (.ref 3)]) (st' := [.ref 76]) (h' := h) 1 rfl ?_
  refine RA.getf rfl H.1 rfl f2 ?_
  refine RA.steps (i' := 3) (L' := [some (.ref 76), some (.ref 3)]) (st' := [.int 3, .int (nI s)]) (h' := h) 1 rfl ?_
  refine RA.if2T rfl (decide_eq_true (fun z => s3 ((nI_eq (by omega) (by decide)).mp (show nI s = nI 3 from z)))) ?_
  refine RA.steps (i' := 23) (L' := [some (.ref 76), some (.ref 3)]) (st' := [.ref 76]) (h' := h) 1 rfl ?_
  refine RA.getf rfl H.1 rfl f10 ?_
  refine RA.if1F rfl (decide_eq_false wh) ?_
  refine RA.steps (i' := 26) (L' := [some (.ref 76), some (.ref 3)]) (st' := [.ref 76]) (h' := h) 1 rfl ?_
  refine RA.getf rfl H.1 rfl f5 ?_
  refine RA.if1F rfl (decide_eq_false (fun z => z g0)) ?_
  refine RA.steps (i' := 30) (L' := [some (.ref 76), some (.ref 3)]) (st' := [.ref 3, .ref 76]) (h' := h) 2 rfl ?_
  refine RA.call0 (N := mX2_takePiece) (as := [.ref 76, .ref 3]) (rest := []) rfl rfl (pcallV rfl rfl H.1 rfl rfl (Nat.le_of_ble_eq_true rfl)) q ?_
  refine RA.if1F rfl rfl ?_
  refine RA.steps (i' := 35) (L' := [some (.ref 76), some (.ref 3)]) (st' := [.int 1]) (h' := h1) 2 rfl ?_
  exact RA.ret rfl rfl
theorem go_w3 {n s b p : Nat} {gl wa key pc : Int32} {st : List Int32} {h1 : List pC} (s3 : s ≠ 3) (s4 : s ≤ 3) (C : CS h0 h n s b p gl st wa key pc) (wh : ¬ wa = 0) (g0 : gl = 0) (q : Run prog E pV1 (d + 4) mX2_takePiece [.ref 76, .ref 3] h (some (.int 0), h1, 0, 0)) : Run prog E pV1 (d + 5) mX2_goesOn [.ref 76, .ref 3] h (some (.int 0), h1, 0, 0) := by
  have ⟨gs, ls, sg, ln, H, F, W, hS⟩ := C
  have ⟨f0, f1, f2, f3, f4, f5, f6, f7, f8, f9, f10⟩ := F
  have ⟨w0, w1, w2, w3⟩ := W
  refine ⟨Nat.le_of_ble_eq_true rfl, ⟨_, _, rfl⟩, ?_⟩
  show RA prog E pV1 (d + 5) mX2_goesOn 0 [some (.ref 76), some (.ref 3)] [] h (some (.int 0), h1, 0, 0)
  refine RA.steps (i' := 1) (L' := [some (.ref 76), some (.ref 3)]) (st' := [.ref 76]) (h' := h) 1 rfl ?_
  refine RA.getf rfl H.1 rfl f2 ?_
  refine RA.steps (i' := 3) (L' := [some (.ref 76), some (.ref 3)]) (st' := [.int 3, .int (nI s)]) (h' := h) 1 rfl ?_
  refine RA.if2T rfl (decide_eq_true (fun z => s3 ((nI_eq (by omega) (by decide)).mp (show nI s = nI 3 from z)))) ?_
  refine RA.steps (i' := 23) (L' := [some (.ref 76), some (.ref 3)]) (st' := [.ref 76]) (h' := h) 1 rfl ?_
  refine RA.getf rfl H.1 rfl f10 ?_
  refine RA.if1F rfl (decide_eq_false wh) ?_
  refine RA.steps (i' := 26) (L' := [some (.ref 76), some (.ref 3)]) (st' := [.ref 76]) (h' := h) 1 rfl ?_
  refine RA.getf rfl H.1 rfl f5 ?_
  refine RA.if1F rfl (decide_eq_false (fun z => z g0)) ?_
  refine RA.steps (i' := 30) (L' := [some (.ref 76), some (.ref 3)]) (st' := [.ref 3, .ref 76]) (h' := h) 2 rfl ?_
  refine RA.call0 (N := mX2_takePiece) (as := [.ref 76, .ref 3]) (rest := []) rfl rfl (pcallV rfl rfl H.1 rfl rfl (Nat.le_of_ble_eq_true rfl)) q ?_
  refine RA.if1T rfl rfl ?_
  refine RA.steps (i' := 35) (L' := [some (.ref 76), some (.ref 3)]) (st' := [.int 0]) (h' := h1) 1 rfl ?_
  exact RA.ret rfl rfl
theorem unw_tp {st : List Int32} (ht : tp (unw 1 st) = 40) : unw 1 st = 40 :: (unw 1 st).tail := by
  cases e : unw 1 st with
  | nil =>
    rw [e] at ht
    exact absurd ht (by decide)
  | cons x k =>
    rw [e] at ht
    have ht : x = 40 := ht
    rw [ht]
    rfl
/-- the word's own digits -/
theorem rnk_all (g : Nat → Int32) (n k : Nat) : ∀ (m p i : Nat), p ≤ i → i < rnk g n k m p → kd g n i = k
  | 0, p, i, h1, h2 => absurd h2 (by show ¬ i < p; omega)
  | m + 1, p, i, h1, h2 => by
    rw [rnk_s] at h2
    by_cases c : kd g n p = k
    · rw [if_pos c] at h2
      by_cases e : i = p
      · rw [e]
        exact c
      · exact rnk_all g n k m (p + 1) i (by omega) h2
    · rw [if_neg c] at h2
      exact absurd h2 (by omega)
theorem kd_bD {n i : Nat} (e : kd g n i = 2) : bD (g i) := by
  rcases kd_cases g n i with ⟨c, ek⟩ | ⟨c, cl, ek⟩ | ⟨c, cl, cd, ek⟩ | ⟨c, cl, cd, ek⟩
  · omega
  · omega
  · exact cd
  · omega
theorem kd_bL {n i : Nat} (e : kd g n i = 1) : bL (g i) := by
  rcases kd_cases g n i with ⟨c, ek⟩ | ⟨c, cl, ek⟩ | ⟨c, cl, cd, ek⟩ | ⟨c, cl, cd, ek⟩
  · omega
  · exact cl
  · omega
  · omega
theorem bA_at {n b : Nat} (fg : ∀ j : Nat, j < 96 → f j = g j) (hb : b < n) (hn : n ≤ 96) : bA 96 f (nI n) (nI b) = g b := by
  unfold bA
  rw [if_neg (Int32.not_lt.mpr (nI_cl (by omega)).1), if_neg (Int32.not_le.mpr (nI_lt hb (by omega))), if_neg (show ¬ Int32.ofNat 96 ≤ nI b from Int32.not_le.mpr (show nI b < nI 96 from nI_lt (by omega) (by decide))), (nI_cl (by omega)).2]
  exact fg b (by omega)
/-- a word or a number where it is wanted, and stands for itself -/
theorem pce_x {n s b : Nat} {gl wa key pc : Int32} {st : List Int32} (pt : pint h0 77 = some (96, f)) (fg : ∀ j : Nat, j < 96 → f j = g j) (hn : n ≤ 96) (hd : 6 ≤ d) (hk : key = 0 ∨ key = 1 ∨ key = 2) (hs : kd g n b = s) (s1 : s = 1 ∨ s = 2) (hb : b ≤ n) (hl : st.length ≤ 96) (C : CS h0 h n s b (wEnd g n b) gl st wa key pc) : (pceB g key s b (wEnd g n b) = true ∧ ∃ h1 : List pC, Run prog E pV1 (d + 4) mX2_takePiece [.ref 76, .ref 3] h (some (.int 1), h1, 0, 0) ∧ CS h0 h1 n s b (wEnd g n b) gl (snots st) 0 key (pc + 1)) ∨ (pceB g key s b (wEnd g n b) = false ∧ Run prog E pV1 (d + 4) mX2_takePiece [.ref 76, .ref 3] h (some (.int 0), h, 0, 0)) := by
  have el := wEnd_le (g := g) (n := n) (b := b) hb
  rcases s1 with rfl | rfl
  · have cl := kd_bL hs
    have hbn : b < n := by
      have := el.2.2 (by omega)
      omega
    have ⟨gs, ls, sg, ln, H, F, W, hS⟩ := C
    have ⟨f0, f1, f2, f3, f4, f5, f6, f7, f8, f9, f10⟩ := F
    have q := rdO_of H.1 f0 f1 f3 f4 (H.pi (by decide) (by decide) (by decide) (by decide) pt) (Nat.le_of_ble_eq_true rfl)
    have pv : pV1 mX2_nameRead [.ref 76, .int key] h = some (some (.int (nrV (bA 96 f (nI n)) (nI b) (nI (wEnd g n b)) key))) := by
      show (match rdO h 76 with
        | some q => some (some (Value.int (nrV (bA q.1 q.2.1 q.2.2.1) q.2.2.2.1 q.2.2.2.2 key)))
        | none => none) = _
      rw [q]
    have nsub : nI (wEnd g n b) - nI b = nI (wEnd g n b - b) := nIsub el.1 (by omega)
    by_cases c1 : wEnd g n b - b = 1
    · have nm := nr_name (B := bA 96 f (nI n)) (sv := nI b) (pv := nI (wEnd g n b)) hk (by rw [nsub, c1]; exact nI1) (bA_at fg hbn hn) cl
      rw [nm.1] at pv
      cases e : nmB key (g b) with
      | true =>
        rw [e, if_pos rfl] at pv
        exact Or.inl ⟨by unfold pceB; rw [if_neg (by decide), c1, e]; rfl, tpc_wy pv nm.2 hd hl C⟩
      | false =>
        rw [e, if_neg (by decide)] at pv
        exact Or.inr ⟨by unfold pceB; rw [if_neg (by decide), e, Bool.and_false], tpc_wn pv rfl hd C⟩
    · rw [nr_long (fun z => c1 ((nI_eq (by omega) (by decide)).mp (show nI (wEnd g n b - b) = nI 1 by rw [← nsub, z]; exact nI1.symm)))] at pv
      exact Or.inr ⟨by unfold pceB; rw [if_neg (by decide), decide_eq_false c1, Bool.false_and], tpc_wn pv rfl hd C⟩
  · have hbn : b < n := by
      have := el.2.2 (by omega)
      omega
    by_cases c4 : wEnd g n b - b ≤ 4
    · have ee := wEnd_k hs (by decide) (by decide)
      obtain ⟨v, nv, hv⟩ := nrd_y (E := E) (d := d + 1) pt fg hn el.1 el.2.1 c4 (fun i hi hi2 => kd_bD (n := n) (rnk_all g n 2 (n - b) b i hi (by rw [← ee]; exact hi2))) C
      exact Or.inl ⟨by unfold pceB; rw [if_pos rfl]; exact decide_eq_true c4, tpc_dy nv hv hd hl C⟩
    · have nv := nrd_n (E := E) (d := d + 1) el.1 (by omega) (by omega) C
      exact Or.inr ⟨by unfold pceB; rw [if_pos rfl]; exact decide_eq_false c4, tpc_dn nv rfl hd C⟩
/-- goesOn is that function -/
theorem gon_x {n s b : Nat} {gl wa key pc : Int32} {st : List Int32} {r : Option (List Int32 × Int32 × Int32)} (pt : pint h0 77 = some (96, f)) (fg : ∀ j : Nat, j < 96 → f j = g j) (hn : n ≤ 96) (hd : 6 ≤ d) (hk : key = 0 ∨ key = 1 ∨ key = 2) (hs : kd g n b = s) (s0 : s ≠ 0) (hb : b ≤ n) (hl : st.length < 96) (hw : wa = 0 ∨ wa = 1) (C : CS h0 h n s b (wEnd g n b) gl st wa key pc) (hr : gon g key s b (wEnd g n b) gl st wa pc = some r) : (r = none ∧ ∃ h1 : List pC, Run prog E pV1 (d + 5) mX2_goesOn [.ref 76, .ref 3] h (some (.int 0), h1, 0, 0) ∧ FA h0 h1 n b key) ∨ ∃ (st2 : List Int32) (wa2 pc2 : Int32) (h1 : List pC), r = some (st2, wa2, pc2) ∧ Run prog E pV1 (d + 5) mX2_goesOn [.ref 76, .ref 3] h (some (.int 1), h1, 0, 0) ∧ CS h0 h1 n s b (wEnd g n b) gl st2 wa2 key pc2 := by
  have el := wEnd_le (g := g) (n := n) (b := b) hb
  have hbn : b < n := by
    have := el.2.2 (by omega)
    omega
  have s4 : s ≤ 3 := by
    rw [← hs]
    rcases kd_cases g n b with z | z | z | z <;> omega
  have a40 := cn1_le 40 st
  have a33 := cn1_le 33 st
  unfold gon at hr
  by_cases s3 : s = 3
  · subst s3
    rw [if_pos rfl] at hr
    rcases hw with rfl | rfl
    · rw [if_neg (by decide)] at hr
      by_cases c1 : g b = 41 ∧ 0 < cn1 40 st
      · rw [if_pos c1] at hr
        by_cases c2 : tp (unw 1 st) = 40
        · rw [if_pos c2] at hr
          cases hr
          obtain ⟨h1, q, C1⟩ := tb_41 (E := E) (d := d) c1.2 (unw_tp c2) (by omega) C
          rw [← c1.1] at q
          exact Or.inr ⟨_, _, _, h1, rfl, go_bh pt fg hn hbn C q (by first | exact Or.inl rfl | exact Or.inr rfl), C1⟩
        · rw [if_neg c2] at hr
          cases hr
      rw [if_neg c1] at hr
      by_cases c3 : rk (g b) = 0
      · rw [if_pos c3] at hr
        cases hr
        exact Or.inl ⟨rfl, h, go_bh pt fg hn hbn C (tb_n0 (E := E) (d := d) c3 c1 C) (by first | exact Or.inl rfl | exact Or.inr rfl), C.fa⟩
      rw [if_neg c3] at hr
      by_cases c4 : rk (g b) = 3
      · rw [if_pos c4] at hr
        by_cases c5 : rk (tp (unw 4 st)) = 3
        · rw [if_pos c5] at hr
          cases hr
          obtain ⟨h1, q, st2, br2, no2, C1⟩ := tb_n3 (E := E) (d := d) c4 c5 (by omega) C
          exact Or.inl ⟨rfl, h1, go_bh pt fg hn hbn C q (by first | exact Or.inl rfl | exact Or.inr rfl), ⟨_, _, _, _, _, _, _, _, C1⟩⟩
        · rw [if_neg c5] at hr
          cases hr
          obtain ⟨h1, q, C1⟩ := tb_test (E := E) (d := d) c4 c5 hl C
          exact Or.inr ⟨_, _, _, h1, rfl, go_bh pt fg hn hbn C q (by first | exact Or.inl rfl | exact Or.inr rfl), C1⟩
      · rw [if_neg c4] at hr
        cases hr
        obtain ⟨h1, q, C1⟩ := tb_op (E := E) (d := d) c3 c4 hl C
        exact Or.inr ⟨_, _, _, h1, rfl, go_bh pt fg hn hbn C q (by first | exact Or.inl rfl | exact Or.inr rfl), C1⟩
    · rw [if_pos rfl] at hr
      by_cases c1 : (g b = 40 ∧ cn1 40 st < 8) ∨ (g b = 33 ∧ cn1 33 st < 8)
      · rw [if_pos c1] at hr
        cases hr
        rcases c1 with c1 | c1
        · obtain ⟨h1, q, C1⟩ := ta_40 (E := E) (d := d + 2) c1.2 hl C
          rw [← c1.1] at q
          refine Or.inr ⟨_, _, _, h1, rfl, go_ah pt fg hn hbn C q (by first | exact Or.inl rfl | exact Or.inr rfl), ?_⟩
          rw [c1.1]
          exact C1
        · obtain ⟨h1, q, C1⟩ := ta_33 (E := E) (d := d + 2) c1.2 hl C
          rw [← c1.1] at q
          refine Or.inr ⟨_, _, _, h1, rfl, go_ah pt fg hn hbn C q (by first | exact Or.inl rfl | exact Or.inr rfl), ?_⟩
          rw [c1.1]
          exact C1
      · rw [if_neg c1] at hr
        cases hr
        exact Or.inl ⟨rfl, h, go_ah pt fg hn hbn C (ta_n (E := E) (d := d + 2) (fun z => c1 (Or.inl z)) (fun z => c1 (Or.inr z)) (by omega) C) (by first | exact Or.inl rfl | exact Or.inr rfl), C.fa⟩
  · rw [if_neg s3] at hr
    rcases hw with rfl | rfl
    · rw [if_neg (fun z => absurd z.1 (by decide))] at hr
      cases hr
      exact Or.inl ⟨rfl, h, go_w0 (h1 := h) s3 s4 C rfl, C.fa⟩
    · by_cases c1 : gl = 0
      · rcases pce_x (E := E) pt fg hn hd hk hs (by omega) hb (by omega) C with ⟨e, h1, q, C1⟩ | ⟨e, q⟩
        · rw [if_pos ⟨rfl, c1, e⟩] at hr
          cases hr
          exact Or.inr ⟨_, _, _, h1, rfl, go_w2 s3 s4 C (by decide) c1 q, C1⟩
        · rw [if_neg (fun z => by rw [e] at z; exact absurd z.2.2 (by decide))] at hr
          cases hr
          exact Or.inl ⟨rfl, h, go_w3 s3 s4 C (by decide) c1 q, C.fa⟩
      · rw [if_neg (fun z => c1 z.2.1)] at hr
        cases hr
        exact Or.inl ⟨rfl, h, go_w1 (h1 := h) s3 s4 C (by decide) c1, C.fa⟩
end GON
