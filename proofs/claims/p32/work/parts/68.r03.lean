/-! ===== the class's reader: signs that wait ===== -/
section STK
variable {E : pX} {Φ : Option Value → List pC → Prop} {d : Nat} {h0 h : List pC}
/-- how much a sign binds -/
def rk (c : Int32) : Nat := if c = 124 then 1 else if c = 38 then 2 else if c = 60 ∨ c = 61 ∨ c = 62 then 3 else if c = 43 ∨ c = 45 then 4 else if c = 42 ∨ c = 47 then 5 else 0
theorem rk_le (c : Int32) : rk c ≤ 5 := by
  unfold rk
  repeat' split
  all_goals omega
/-- signs wait: the last on top -/
def SgS (sg : Nat → Int32) : List Int32 → Prop
  | [] => True
  | c :: s => sg s.length = c ∧ SgS sg s
theorem SgS.up {sg : Nat → Int32} {k : Nat} {c : Int32} : ∀ {s : List Int32}, s.length ≤ k → SgS sg s → SgS (va_up sg k c) s
  | [], _, _ => trivial
  | x :: s, hk, q => ⟨(va_up_ne sg c (show s.length ≠ k by have : (x :: s).length = s.length + 1 := rfl; omega)).trans q.1, SgS.up (by have : (x :: s).length = s.length + 1 := rfl; omega) q.2⟩
def tp : List Int32 → Int32
  | [] => 0
  | c :: _ => c
def cn1 (c : Int32) : List Int32 → Nat
  | [] => 0
  | x :: s => if x = c then cn1 c s + 1 else cn1 c s
theorem cn1_le (c : Int32) : ∀ s : List Int32, cn1 c s ≤ s.length
  | [] => Nat.le_refl 0
  | x :: s => by
    have ih := cn1_le c s
    have e : (x :: s).length = s.length + 1 := rfl
    rw [cn1, e]
    split <;> omega
/-- signs of rank r or more join -/
def unw (r : Nat) : List Int32 → List Int32
  | [] => []
  | c :: s => if r ≤ rk c then unw r s else c :: s
/-- `!` joins -/
def snots : List Int32 → List Int32
  | [] => []
  | c :: s => if c = 33 then snots s else c :: s
theorem unw_len (r : Nat) : ∀ s : List Int32, (unw r s).length ≤ s.length
  | [] => Nat.le_refl 0
  | c :: s => by
    have ih := unw_len r s
    have e : (c :: s).length = s.length + 1 := rfl
    rw [unw]
    split
    · omega
    · exact Nat.le_refl _
theorem snots_len : ∀ s : List Int32, (snots s).length ≤ s.length
  | [] => Nat.le_refl 0
  | c :: s => by
    have ih := snots_len s
    have e : (c :: s).length = s.length + 1 := rfl
    rw [snots]
    split
    · omega
    · exact Nat.le_refl _
/-- the reader and the draft -/
def CR (h0 h : List pC) (n s b p gl : Int32) (st : List Int32) (br no wa key pc : Int32) : Prop := ∃ (gs ls : List Value) (sg : Nat → Int32) (ln : Int32), CM h0 h gs ls sg ∧ RF gs n s b p gl (nI st.length) br no wa ∧ LF ls ln key pc ∧ SgS sg st
theorem rankOf_x (c : Int32) : Run prog E pV1 (d + 1) mX2_rankOf [.int c] h (some (.int (nI (rk c))), h, 0, 0) := by
  refine ⟨Nat.le_of_ble_eq_true rfl, ⟨_, _, rfl⟩, ?_⟩
  by_cases c38 : c = 38
  · subst c38
    rw [show rk 38 = 2 by decide]
    show RA prog E pV1 (d + 1) mX2_rankOf 0 [some (.int 38)] [] h (some (.int (nI 2)), h, 0, 0)
    refine RA.steps (i' := 1) (L' := [some (.int 38)]) (st' := [.int 38]) (h' := h) 1 rfl ?_
    refine RA.sw (x := 4) rfl rfl rfl rfl (by decide) ?_
    refine RA.steps (i' := 5) (L' := [some (.int 38)]) (st' := [.int 2]) (h' := h) 1 rfl ?_
    exact RA.ret rfl rfl
  by_cases c42 : c = 42
  · subst c42
    rw [show rk 42 = 5 by decide]
    show RA prog E pV1 (d + 1) mX2_rankOf 0 [some (.int 42)] [] h (some (.int (nI 5)), h, 0, 0)
    refine RA.steps (i' := 1) (L' := [some (.int 42)]) (st' := [.int 42]) (h' := h) 1 rfl ?_
    refine RA.sw (x := 10) rfl rfl rfl rfl (by decide) ?_
    refine RA.steps (i' := 11) (L' := [some (.int 42)]) (st' := [.int 5]) (h' := h) 1 rfl ?_
    exact RA.ret rfl rfl
  by_cases c43 : c = 43
  · subst c43
    rw [show rk 43 = 4 by decide]
    show RA prog E pV1 (d + 1) mX2_rankOf 0 [some (.int 43)] [] h (some (.int (nI 4)), h, 0, 0)
    refine RA.steps (i' := 1) (L' := [some (.int 43)]) (st' := [.int 43]) (h' := h) 1 rfl ?_
    refine RA.sw (x := 8) rfl rfl rfl rfl (by decide) ?_
    refine RA.steps (i' := 9) (L' := [some (.int 43)]) (st' := [.int 4]) (h' := h) 1 rfl ?_
    exact RA.ret rfl rfl
  by_cases c45 : c = 45
  · subst c45
    rw [show rk 45 = 4 by decide]
    show RA prog E pV1 (d + 1) mX2_rankOf 0 [some (.int 45)] [] h (some (.int (nI 4)), h, 0, 0)
    refine RA.steps (i' := 1) (L' := [some (.int 45)]) (st' := [.int 45]) (h' := h) 1 rfl ?_
    refine RA.sw (x := 8) rfl rfl rfl rfl (by decide) ?_
    refine RA.steps (i' := 9) (L' := [some (.int 45)]) (st' := [.int 4]) (h' := h) 1 rfl ?_
    exact RA.ret rfl rfl
  by_cases c47 : c = 47
  · subst c47
    rw [show rk 47 = 5 by decide]
    show RA prog E pV1 (d + 1) mX2_rankOf 0 [some (.int 47)] [] h (some (.int (nI 5)), h, 0, 0)
    refine RA.steps (i' := 1) (L' := [some (.int 47)]) (st' := [.int 47]) (h' := h) 1 rfl ?_
    refine RA.sw (x := 10) rfl rfl rfl rfl (by decide) ?_
    refine RA.steps (i' := 11) (L' := [some (.int 47)]) (st' := [.int 5]) (h' := h) 1 rfl ?_
    exact RA.ret rfl rfl
  by_cases c60 : c = 60
  · subst c60
    rw [show rk 60 = 3 by decide]
    show RA prog E pV1 (d + 1) mX2_rankOf 0 [some (.int 60)] [] h (some (.int (nI 3)), h, 0, 0)
    refine RA.steps (i' := 1) (L' := [some (.int 60)]) (st' := [.int 60]) (h' := h) 1 rfl ?_
    refine RA.sw (x := 6) rfl rfl rfl rfl (by decide) ?_
    refine RA.steps (i' := 7) (L' := [some (.int 60)]) (st' := [.int 3]) (h' := h) 1 rfl ?_
    exact RA.ret rfl rfl
  by_cases c61 : c = 61
  · subst c61
    rw [show rk 61 = 3 by decide]
    show RA prog E pV1 (d + 1) mX2_rankOf 0 [some (.int 61)] [] h (some (.int (nI 3)), h, 0, 0)
    refine RA.steps (i' := 1) (L' := [some (.int 61)]) (st' := [.int 61]) (h' := h) 1 rfl ?_
    refine RA.sw (x := 6) rfl rfl rfl rfl (by decide) ?_
    refine RA.steps (i' := 7) (L' := [some (.int 61)]) (st' := [.int 3]) (h' := h) 1 rfl ?_
    exact RA.ret rfl rfl
  by_cases c62 : c = 62
  · subst c62
    rw [show rk 62 = 3 by decide]
    show RA prog E pV1 (d + 1) mX2_rankOf 0 [some (.int 62)] [] h (some (.int (nI 3)), h, 0, 0)
    refine RA.steps (i' := 1) (L' := [some (.int 62)]) (st' := [.int 62]) (h' := h) 1 rfl ?_
    refine RA.sw (x := 6) rfl rfl rfl rfl (by decide) ?_
    refine RA.steps (i' := 7) (L' := [some (.int 62)]) (st' := [.int 3]) (h' := h) 1 rfl ?_
    exact RA.ret rfl rfl
  by_cases c124 : c = 124
  · subst c124
    rw [show rk 124 = 1 by decide]
    show RA prog E pV1 (d + 1) mX2_rankOf 0 [some (.int 124)] [] h (some (.int (nI 1)), h, 0, 0)
    refine RA.steps (i' := 1) (L' := [some (.int 124)]) (st' := [.int 124]) (h' := h) 1 rfl ?_
    refine RA.sw (x := 2) rfl rfl rfl rfl (by decide) ?_
    refine RA.steps (i' := 3) (L' := [some (.int 124)]) (st' := [.int 1]) (h' := h) 1 rfl ?_
    exact RA.ret rfl rfl
  have ne : ∀ k : Int32, ¬ c = k → ¬ c.toInt = k.toInt := fun k hk z => hk (Int32.toInt_inj.mp z)
  have e : psw c.toInt [(38, 4), (42, 10), (43, 8), (45, 8), (47, 10), (60, 6), (61, 6), (62, 6), (124, 2)] 12 = 12 := by
    rw [psw, if_neg (fun z : c.toInt = 38 => c38 (Int32.toInt_inj.mp (z.trans (show (38 : Int) = (38 : Int32).toInt by decide)))), psw, if_neg (fun z : c.toInt = 42 => c42 (Int32.toInt_inj.mp (z.trans (show (42 : Int) = (42 : Int32).toInt by decide)))), psw, if_neg (fun z : c.toInt = 43 => c43 (Int32.toInt_inj.mp (z.trans (show (43 : Int) = (43 : Int32).toInt by decide)))), psw, if_neg (fun z : c.toInt = 45 => c45 (Int32.toInt_inj.mp (z.trans (show (45 : Int) = (45 : Int32).toInt by decide)))), psw, if_neg (fun z : c.toInt = 47 => c47 (Int32.toInt_inj.mp (z.trans (show (47 : Int) = (47 : Int32).toInt by decide)))), psw, if_neg (fun z : c.toInt = 60 => c60 (Int32.toInt_inj.mp (z.trans (show (60 : Int) = (60 : Int32).toInt by decide)))), psw, if_neg (fun z : c.toInt = 61 => c61 (Int32.toInt_inj.mp (z.trans (show (61 : Int) = (61 : Int32).toInt by decide)))), psw, if_neg (fun z : c.toInt = 62 => c62 (Int32.toInt_inj.mp (z.trans (show (62 : Int) = (62 : Int32).toInt by decide)))), psw, if_neg (fun z : c.toInt = 124 => c124 (Int32.toInt_inj.mp (z.trans (show (124 : Int) = (124 : Int32).toInt by decide)))), psw]
  rw [show rk c = 0 by unfold rk; rw [if_neg c124, if_neg c38, if_neg (fun z => z.elim c60 (fun z => z.elim c61 c62)), if_neg (fun z => z.elim c43 c45), if_neg (fun z => z.elim c42 c47)]]
  show RA prog E pV1 (d + 1) mX2_rankOf 0 [some (.int c)] [] h (some (.int (nI 0)), h, 0, 0)
  refine RA.steps (i' := 1) (L' := [some (.int c)]) (st' := [.int c]) (h' := h) 1 rfl ?_
  refine RA.sw (x := 12) rfl rfl rfl rfl e ?_
  refine RA.steps (i' := 13) (L' := [some (.int c)]) (st' := [.int 0]) (h' := h) 1 rfl ?_
  exact RA.ret rfl rfl
theorem peek_x {n s b p gl br no wa key pc : Int32} {st : List Int32} (hl : st.length ≤ 96) (C : CR h0 h n s b p gl st br no wa key pc) : Run prog E pV1 (d + 1) mX2_peek [.ref 76] h (some (.int (tp st)), h, 0, 0) := by
  obtain ⟨gs, ls, sg, ln, H, ⟨f0, f1, f2, f3, f4, f5, f6, f7, f8, f9, f10⟩, ⟨w0, w1, w2, w3⟩, hS⟩ := C
  refine ⟨Nat.le_of_ble_eq_true rfl, ⟨_, _, rfl⟩, ?_⟩
  cases st with
  | nil =>
    show RA prog E pV1 (d + 1) mX2_peek 0 [some (.ref 76)] [] h (some (.int 0), h, 0, 0)
    have f7 : gs[7]? = some (.int (nI 0)) := f7
    refine RA.steps (i' := 1) (L' := [some (.ref 76)]) (st' := [.ref 76]) (h' := h) 1 rfl ?_
    refine RA.getf rfl H.1 rfl f7 ?_
    refine RA.if1T rfl (decide_eq_true (show nI 0 ≤ 0 by decide +kernel)) ?_
    refine RA.steps (i' := 18) (L' := [some (.ref 76)]) (st' := [.int 0]) (h' := h) 1 rfl ?_
    exact RA.ret rfl rfl
  | cons c k =>
    have ek : (c :: k).length = k.length + 1 := rfl
    rw [ek] at f7 hl
    have e1 : nI (k.length + 1) - 1 = nI k.length := by
      rw [← nI1, nIsub (by omega) (by omega)]
      rfl
    show RA prog E pV1 (d + 1) mX2_peek 0 [some (.ref 76)] [] h (some (.int c), h, 0, 0)
    refine RA.steps (i' := 1) (L' := [some (.ref 76)]) (st' := [.ref 76]) (h' := h) 1 rfl ?_
    refine RA.getf rfl H.1 rfl f7 ?_
    refine RA.if1F rfl (decide_eq_false (Int32.not_le.mpr (nI_p0 (by omega) (by omega)))) ?_
    refine RA.steps (i' := 4) (L' := [some (.ref 76)]) (st' := [.ref 76]) (h' := h) 1 rfl ?_
    refine RA.getf rfl H.1 rfl f7 ?_
    refine RA.steps (i' := 6) (L' := [some (.ref 76)]) (st' := [.ref 76, .int (nI (k.length + 1))]) (h' := h) 1 rfl ?_
    refine RA.getf rfl H.1 rfl f6 ?_
    refine RA.alenI rfl H.2.2.1 ?_
    refine RA.if2F rfl (decide_eq_false (Int32.not_lt.mpr (nI_le (show k.length + 1 ≤ 96 by omega) (by decide)))) ?_
    refine RA.steps (i' := 10) (L' := [some (.ref 76)]) (st' := [.ref 76]) (h' := h) 1 rfl ?_
    refine RA.getf rfl H.1 rfl f6 ?_
    refine RA.steps (i' := 12) (L' := [some (.ref 76)]) (st' := [.ref 76, .ref 78]) (h' := h) 1 rfl ?_
    refine RA.getf rfl H.1 rfl f7 ?_
    refine RA.steps (i' := 15) (L' := [some (.ref 76)]) (st' := [.int ((nI (k.length + 1)) - 1), .ref 78]) (h' := h) 2 rfl ?_
    rw [e1]
    refine RA.iald (w := c) rfl H.2.2.1 ⟨(nI_cl (by omega)).1, by rw [(nI_cl (by omega)).2]; show k.length < 96; omega⟩ (by rw [(nI_cl (by omega)).2]; exact hS.1) ?_
    refine RA.steps (i' := 18) (L' := [some (.ref 76)]) (st' := [.int c]) (h' := h) 1 rfl ?_
    exact RA.ret rfl rfl
theorem push_x {n s b p gl br no wa key pc : Int32} {st : List Int32} (c : Int32) (hl : st.length < 96) (C : CR h0 h n s b p gl st br no wa key pc) : ∃ h1 : List pC, Run prog E pV1 (d + 1) mX2_push [.ref 76, .int c] h (none, h1, 0, 0) ∧ CR h0 h1 n s b p gl (c :: st) br no wa key pc := by
  have key : GX E (fun r_ h1 => r_ = none ∧ CR h0 h1 n s b p gl (c :: st) br no wa key pc) (d + 1) mX2_push 0 [some (.ref 76), some (.int c)] [] h := by
    have ⟨gs, ls, sg, ln, H, F, W, hS⟩ := C
    have ⟨f0, f1, f2, f3, f4, f5, f6, f7, f8, f9, f10⟩ := F
    have ⟨w0, w1, w2, w3⟩ := W
    refine GX.lift (fun _ q_ => RA.steps (i' := 1) (L' := [some (.ref 76), some (.int c)]) (st' := [.ref 76]) (h' := h) 1 rfl q_) ?_
    refine GX.lift (fun _ q_ => RA.getf rfl H.1 rfl f7 q_) ?_
    refine GX.lift (fun _ q_ => RA.if1F rfl (decide_eq_false (Int32.not_lt.mpr (nI_cl (by omega)).1)) q_) ?_
    refine GX.lift (fun _ q_ => RA.steps (i' := 4) (L' := [some (.ref 76), some (.int c)]) (st' := [.ref 76]) (h' := h) 1 rfl q_) ?_
    refine GX.lift (fun _ q_ => RA.getf rfl H.1 rfl f7 q_) ?_
    refine GX.lift (fun _ q_ => RA.steps (i' := 6) (L' := [some (.ref 76), some (.int c)]) (st' := [.ref 76, .int (nI st.length)]) (h' := h) 1 rfl q_) ?_
    refine GX.lift (fun _ q_ => RA.getf rfl H.1 rfl f6 q_) ?_
    refine GX.lift (fun _ q_ => RA.alenI rfl H.2.2.1 q_) ?_
    refine GX.lift (fun _ q_ => RA.if2F rfl (decide_eq_false (Int32.not_le.mpr (nI_lt (show st.length < 96 by omega) (by decide)))) q_) ?_
    refine GX.lift (fun _ q_ => RA.steps (i' := 10) (L' := [some (.ref 76), some (.int c)]) (st' := [.ref 76]) (h' := h) 1 rfl q_) ?_
    refine GX.lift (fun _ q_ => RA.getf rfl H.1 rfl f6 q_) ?_
    refine GX.lift (fun _ q_ => RA.steps (i' := 12) (L' := [some (.ref 76), some (.int c)]) (st' := [.ref 76, .ref 78]) (h' := h) 1 rfl q_) ?_
    refine GX.lift (fun _ q_ => RA.getf rfl H.1 rfl f7 q_) ?_
    refine GX.lift (fun _ q_ => RA.steps (i' := 14) (L' := [some (.ref 76), some (.int c)]) (st' := [.int c, .int (nI st.length), .ref 78]) (h' := h) 1 rfl q_) ?_
    refine GX.sS rfl H ⟨(nI_cl (by omega)).1, by rw [(nI_cl (by omega)).2]; omega⟩ (fun h_1 H_1 => ?_)
    refine GX.lift (fun _ q_ => RA.steps (i' := 17) (L' := [some (.ref 76), some (.int c)]) (st' := [.ref 76, .ref 76]) (h' := h_1) 2 rfl q_) ?_
    refine GX.lift (fun _ q_ => RA.getf rfl H_1.1 rfl f7 q_) ?_
    refine GX.lift (fun _ q_ => RA.steps (i' := 20) (L' := [some (.ref 76), some (.int c)]) (st' := [.int ((nI st.length) + 1), .ref 76]) (h' := h_1) 2 rfl q_) ?_
    rw [(nI_1 st.length)]
    refine GX.pR rfl H_1 rfl (fun h_2 H_2 => ?_)
    refine GX.ret rfl rfl ?_
    refine ⟨rfl, _, ls, _, ln, H_2, F.p7 (nI (st.length + 1)), W, ?_⟩
    rw [(nI_cl (by omega)).2]
    exact ⟨va_up_self sg st.length c, hS.up (Nat.le_refl _)⟩
  obtain ⟨r_, h1, q, rfl, C1⟩ := key
  exact ⟨h1, ⟨Nat.le_of_ble_eq_true rfl, ⟨_, _, rfl⟩, q⟩, C1⟩
theorem add_x {gs ls : List Value} {sg : Nat → Int32} {ln key pc : Int32} (c : Int32) (H : CM h0 h gs ls sg) (W : LF ls ln key pc) : ∃ h1 : List pC, Run prog E pV1 (d + 1) mX0_add [.ref 3, .int c] h (none, h1, 0, 0) ∧ ∃ (ls1 : List Value) (ln1 : Int32), CM h0 h1 gs ls1 sg ∧ LF ls1 ln1 key pc := by
  have ⟨w0, w1, w2, w3⟩ := W
  have key : GX E (fun r_ h1 => r_ = none ∧ ∃ (ls1 : List Value) (ln1 : Int32), CM h0 h1 gs ls1 sg ∧ LF ls1 ln1 key pc) (d + 1) mX0_add 0 [some (.ref 3), some (.int c)] [] h := by
    by_cases c1 : ln < 0
    · refine GX.lift (fun _ q_ => RA.steps (i' := 1) (L' := [some (.ref 3), some (.int c)]) (st' := [.ref 3]) (h' := h) 1 rfl q_) ?_
      refine GX.lift (fun _ q_ => RA.getf rfl H.2.1 rfl w1 q_) ?_
      refine GX.lift (fun _ q_ => RA.if1T rfl (decide_eq_true c1) q_) ?_
      refine GX.ret rfl rfl ?_
      exact ⟨rfl, ls, ln, H, W⟩
    obtain ⟨cd, hcd⟩ := H.2.2.2.1
    by_cases c2 : nI 96 ≤ ln
    · refine GX.lift (fun _ q_ => RA.steps (i' := 1) (L' := [some (.ref 3), some (.int c)]) (st' := [.ref 3]) (h' := h) 1 rfl q_) ?_
      refine GX.lift (fun _ q_ => RA.getf rfl H.2.1 rfl w1 q_) ?_
      refine GX.lift (fun _ q_ => RA.if1F rfl (decide_eq_false c1) q_) ?_
      refine GX.lift (fun _ q_ => RA.steps (i' := 4) (L' := [some (.ref 3), some (.int c)]) (st' := [.ref 3]) (h' := h) 1 rfl q_) ?_
      refine GX.lift (fun _ q_ => RA.getf rfl H.2.1 rfl w1 q_) ?_
      refine GX.lift (fun _ q_ => RA.steps (i' := 6) (L' := [some (.ref 3), some (.int c)]) (st' := [.ref 3, .int ln]) (h' := h) 1 rfl q_) ?_
      refine GX.lift (fun _ q_ => RA.getf rfl H.2.1 rfl w0 q_) ?_
      refine GX.lift (fun _ q_ => RA.alenI rfl hcd q_) ?_
      refine GX.lift (fun _ q_ => RA.if2T rfl (decide_eq_true c2) q_) ?_
      refine GX.ret rfl rfl ?_
      exact ⟨rfl, ls, ln, H, W⟩
    have c3 := Int32.le_iff_toInt_le.mp (Int32.not_lt.mp c1)
    have c4 := Int32.lt_iff_toInt_lt.mp (Int32.not_le.mp c2)
    rw [show (0 : Int32).toInt = 0 by decide] at c3
    rw [nI_toInt (by decide)] at c4
    obtain ⟨k, rfl, hk⟩ := nIof (x := ln) c3 (by omega)
    refine GX.lift (fun _ q_ => RA.steps (i' := 1) (L' := [some (.ref 3), some (.int c)]) (st' := [.ref 3]) (h' := h) 1 rfl q_) ?_
    refine GX.lift (fun _ q_ => RA.getf rfl H.2.1 rfl w1 q_) ?_
    refine GX.lift (fun _ q_ => RA.if1F rfl (decide_eq_false c1) q_) ?_
    refine GX.lift (fun _ q_ => RA.steps (i' := 4) (L' := [some (.ref 3), some (.int c)]) (st' := [.ref 3]) (h' := h) 1 rfl q_) ?_
    refine GX.lift (fun _ q_ => RA.getf rfl H.2.1 rfl w1 q_) ?_
    refine GX.lift (fun _ q_ => RA.steps (i' := 6) (L' := [some (.ref 3), some (.int c)]) (st' := [.ref 3, .int (nI k)]) (h' := h) 1 rfl q_) ?_
    refine GX.lift (fun _ q_ => RA.getf rfl H.2.1 rfl w0 q_) ?_
    refine GX.lift (fun _ q_ => RA.alenI rfl hcd q_) ?_
    refine GX.lift (fun _ q_ => RA.if2F rfl (decide_eq_false c2) q_) ?_
    refine GX.lift (fun _ q_ => RA.steps (i' := 10) (L' := [some (.ref 3), some (.int c)]) (st' := [.ref 3]) (h' := h) 1 rfl q_) ?_
    refine GX.lift (fun _ q_ => RA.getf rfl H.2.1 rfl w0 q_) ?_
    refine GX.lift (fun _ q_ => RA.steps (i' := 12) (L' := [some (.ref 3), some (.int c)]) (st' := [.ref 3, .ref 4]) (h' := h) 1 rfl q_) ?_
    refine GX.lift (fun _ q_ => RA.getf rfl H.2.1 rfl w1 q_) ?_
    refine GX.lift (fun _ q_ => RA.steps (i' := 14) (L' := [some (.ref 3), some (.int c)]) (st' := [.int c, .int (nI k), .ref 4]) (h' := h) 1 rfl q_) ?_
    refine GX.sC rfl H ⟨(nI_cl (by omega)).1, by rw [(nI_cl (by omega)).2]; omega⟩ (fun h_1 H_1 => ?_)
    refine GX.lift (fun _ q_ => RA.steps (i' := 17) (L' := [some (.ref 3), some (.int c)]) (st' := [.ref 3, .ref 3]) (h' := h_1) 2 rfl q_) ?_
    refine GX.lift (fun _ q_ => RA.getf rfl H_1.2.1 rfl w1 q_) ?_
    refine GX.lift (fun _ q_ => RA.steps (i' := 20) (L' := [some (.ref 3), some (.int c)]) (st' := [.int ((nI k) + 1), .ref 3]) (h' := h_1) 2 rfl q_) ?_
    rw [(nI_1 k)]
    refine GX.pW rfl H_1 rfl (fun h_2 H_2 => ?_)
    refine GX.ret rfl rfl ?_
    exact ⟨rfl, _, _, H_2, W.p1 (nI (k + 1))⟩
  obtain ⟨r_, h1, q, rfl, C1⟩ := key
  exact ⟨h1, ⟨Nat.le_of_ble_eq_true rfl, ⟨_, _, rfl⟩, q⟩, C1⟩
theorem unwind_l {n s b p gl br no wa key pc : Int32} {r : Nat} (hr : r ≤ 6) : ∀ (st : List Int32), st.length ≤ 96 → ∀ h : List pC, CR h0 h n s b p gl st br no wa key pc → (∀ h1 : List pC, CR h0 h1 n s b p gl (unw r st) br no wa key pc → Φ none h1) → GX E Φ (d + 2) mX2_unwind 0 [some (.ref 76), some (.ref 3), some (.int (nI r))] [] h := by
  intro st
  induction st with
  | nil =>
    intro hl h C K
    have ⟨gs, ls, sg, ln, H, F, W, hS⟩ := C
    have ⟨f0, f1, f2, f3, f4, f5, f6, f7, f8, f9, f10⟩ := F
    have ⟨w0, w1, w2, w3⟩ := W
    have f7 : gs[7]? = some (.int (nI 0)) := f7
    refine GX.lift (fun _ q_ => RA.steps (i' := 1) (L' := [some (.ref 76), some (.ref 3), some (.int (nI r))]) (st' := [.ref 76]) (h' := h) 1 rfl q_) ?_
    refine GX.lift (fun _ q_ => RA.getf rfl H.1 rfl f7 q_) ?_
    refine GX.lift (fun _ q_ => RA.if1T rfl (decide_eq_true (show nI 0 ≤ 0 by decide +kernel)) q_) ?_
    refine GX.ret rfl rfl ?_
    exact K _ C
  | cons c k ih =>
    intro hl h C K
    have ⟨gs, ls, sg, ln, H, F, W, hS⟩ := C
    have ⟨f0, f1, f2, f3, f4, f5, f6, f7, f8, f9, f10⟩ := F
    have ⟨w0, w1, w2, w3⟩ := W
    have ek : (c :: k).length = k.length + 1 := rfl
    rw [ek] at f7
    have hl2 := hl
    rw [ek] at hl2
    have e1 : nI (k.length + 1) - 1 = nI k.length := by
      rw [← nI1, nIsub (by omega) (by omega)]
      rfl
    have pk := peek_x (E := E) (d := d) hl C
    refine GX.lift (fun _ q_ => RA.steps (i' := 1) (L' := [some (.ref 76), some (.ref 3), some (.int (nI r))]) (st' := [.ref 76]) (h' := h) 1 rfl q_) ?_
    refine GX.lift (fun _ q_ => RA.getf rfl H.1 rfl f7 q_) ?_
    refine GX.lift (fun _ q_ => RA.if1F rfl (decide_eq_false (Int32.not_le.mpr (nI_p0 (by omega) (by omega)))) q_) ?_
    refine GX.lift (fun _ q_ => RA.steps (i' := 4) (L' := [some (.ref 76), some (.ref 3), some (.int (nI r))]) (st' := [.ref 76]) (h' := h) 1 rfl q_) ?_
    refine GX.lift (fun _ q_ => RA.call0 (N := mX2_peek) (as := [.ref 76]) (rest := []) rfl rfl (pcallV rfl rfl H.1 rfl rfl (Nat.le_of_ble_eq_true rfl)) pk q_) ?_
    refine GX.lift (fun _ q_ => RA.call0 (N := mX2_rankOf) (as := [.int c]) (rest := []) rfl rfl rfl (rankOf_x c) q_) ?_
    refine GX.lift (fun _ q_ => RA.steps (i' := 7) (L' := [some (.ref 76), some (.ref 3), some (.int (nI r))]) (st' := [.int (nI r), .int (nI (rk c))]) (h' := h) 1 rfl q_) ?_
    by_cases cr : r ≤ rk c
    · obtain ⟨h1, q1, ls1, ln1, H1, W1⟩ := add_x (E := E) (d := d) (-c) H W
      rw [unw, if_pos cr] at K
      refine GX.lift (fun _ q_ => RA.if2F rfl (decide_eq_false (Int32.not_lt.mpr (nI_le cr (by have := rk_le c; omega)))) q_) ?_
      refine GX.lift (fun _ q_ => RA.steps (i' := 10) (L' := [some (.ref 76), some (.ref 3), some (.int (nI r))]) (st' := [.ref 76, .ref 3]) (h' := h) 2 rfl q_) ?_
      refine GX.lift (fun _ q_ => RA.call0 (N := mX2_peek) (as := [.ref 76]) (rest := [.ref 3]) rfl rfl (pcallV rfl rfl H.1 rfl rfl (Nat.le_of_ble_eq_true rfl)) pk q_) ?_
      refine GX.lift (fun _ q_ => RA.steps (i' := 12) (L' := [some (.ref 76), some (.ref 3), some (.int (nI r))]) (st' := [.int (-c), .ref 3]) (h' := h) 1 rfl q_) ?_
      refine GX.lift (fun _ q_ => RA.call0 (N := mX0_add) (as := [.ref 3, .int (-c)]) (rest := []) rfl rfl (pcallV rfl rfl H.2.1 rfl rfl (Nat.le_of_ble_eq_true rfl)) q1 q_) ?_
      refine GX.lift (fun _ q_ => RA.steps (i' := 15) (L' := [some (.ref 76), some (.ref 3), some (.int (nI r))]) (st' := [.ref 76, .ref 76]) (h' := h1) 2 rfl q_) ?_
      refine GX.lift (fun _ q_ => RA.getf rfl H1.1 rfl f7 q_) ?_
      refine GX.lift (fun _ q_ => RA.steps (i' := 18) (L' := [some (.ref 76), some (.ref 3), some (.int (nI r))]) (st' := [.int ((nI (k.length + 1)) - 1), .ref 76]) (h' := h1) 2 rfl q_) ?_
      rw [e1]
      refine GX.pR rfl H1 rfl (fun h1_1 H1_1 => ?_)
      refine GX.lift (fun _ q_ => RA.steps (i' := 0) (L' := [some (.ref 76), some (.ref 3), some (.int (nI r))]) (st' := []) (h' := h1_1) 1 rfl q_) ?_
      exact ih (by omega) _ ⟨_, ls1, sg, ln1, H1_1, F.p7 (nI k.length), W1, hS.2⟩ K
    · rw [unw, if_neg cr] at K
      refine GX.lift (fun _ q_ => RA.if2T rfl (decide_eq_true (nI_lt (show rk c < r by omega) (by omega))) q_) ?_
      refine GX.ret rfl rfl ?_
      exact K _ C
theorem unwind_x {n s b p gl br no wa key pc : Int32} {st : List Int32} {r : Nat} (hr : r ≤ 6) (hl : st.length ≤ 96) (C : CR h0 h n s b p gl st br no wa key pc) : ∃ h1 : List pC, Run prog E pV1 (d + 2) mX2_unwind [.ref 76, .ref 3, .int (nI r)] h (none, h1, 0, 0) ∧ CR h0 h1 n s b p gl (unw r st) br no wa key pc := by
  have key : GX E (fun r_ h1 => r_ = none ∧ CR h0 h1 n s b p gl (unw r st) br no wa key pc) (d + 2) mX2_unwind 0 [some (.ref 76), some (.ref 3), some (.int (nI r))] [] h := unwind_l hr st hl h C (fun h1 C1 => ⟨rfl, C1⟩)
  obtain ⟨r_, h1, q, rfl, C1⟩ := key
  exact ⟨h1, ⟨Nat.le_of_ble_eq_true rfl, ⟨_, _, rfl⟩, q⟩, C1⟩
/-- what is left of the count of `!` -/
def sno : List Int32 → Int32 → Int32
  | [], x => x
  | c :: s, x => if c = 33 then sno s (x - 1) else x
theorem sno_cn : ∀ (s : List Int32) (k : Nat), cn1 33 s ≤ k → k < 100000 → sno s (nI k) = nI (k + cn1 33 (snots s) - cn1 33 s)
  | [], k, _, _ => by
    show nI k = nI (k + 0 - 0)
    rw [Nat.add_zero, Nat.sub_zero]
  | c :: s, k, h1, h2 => by
    rw [sno, snots]
    by_cases e : c = 33
    · rw [cn1, if_pos e] at h1
      rw [if_pos e, if_pos e, cn1, if_pos e]
      have e1 : nI k - 1 = nI (k - 1) := by rw [← nI1, nIsub (by omega) h2]
      rw [e1, sno_cn s (k - 1) (by omega) (by omega)]
      congr 1
      omega
    · rw [if_neg e, if_neg e]
      congr 1
      omega
theorem endPiece_l {n s b p gl br wa key pc : Int32} : ∀ (st : List Int32), st.length ≤ 96 → ∀ (h : List pC) (no : Int32), CR h0 h n s b p gl st br no wa key pc → (∀ h1 : List pC, CR h0 h1 n s b p gl (snots st) br (sno st no) 0 key pc → Φ none h1) → GX E Φ (d + 2) mX2_endPiece 0 [some (.ref 76), some (.ref 3)] [] h := by
  intro st
  induction st with
  | nil =>
    intro hl h no C K
    have ⟨gs, ls, sg, ln, H, F, W, hS⟩ := C
    have ⟨f0, f1, f2, f3, f4, f5, f6, f7, f8, f9, f10⟩ := F
    have ⟨w0, w1, w2, w3⟩ := W
    have f7 : gs[7]? = some (.int (nI 0)) := f7
    refine GX.lift (fun _ q_ => RA.steps (i' := 1) (L' := [some (.ref 76), some (.ref 3)]) (st' := [.ref 76]) (h' := h) 1 rfl q_) ?_
    refine GX.lift (fun _ q_ => RA.getf rfl H.1 rfl f7 q_) ?_
    refine GX.lift (fun _ q_ => RA.if1T rfl (decide_eq_true (show nI 0 ≤ 0 by decide +kernel)) q_) ?_
    refine GX.lift (fun _ q_ => RA.steps (i' := 27) (L' := [some (.ref 76), some (.ref 3)]) (st' := [.int 0, .ref 76]) (h' := h) 2 rfl q_) ?_
    refine GX.pR rfl H rfl (fun h_1 H_1 => ?_)
    refine GX.ret rfl rfl ?_
    exact K _ ⟨_, ls, sg, ln, H_1, F.p10 0, W, hS⟩
  | cons c k ih =>
    intro hl h no C K
    have ⟨gs, ls, sg, ln, H, F, W, hS⟩ := C
    have ⟨f0, f1, f2, f3, f4, f5, f6, f7, f8, f9, f10⟩ := F
    have ⟨w0, w1, w2, w3⟩ := W
    have ek : (c :: k).length = k.length + 1 := rfl
    rw [ek] at f7
    have hl2 := hl
    rw [ek] at hl2
    have e1 : nI (k.length + 1) - 1 = nI k.length := by
      rw [← nI1, nIsub (by omega) (by omega)]
      rfl
    have pk := peek_x (E := E) (d := d) hl C
    refine GX.lift (fun _ q_ => RA.steps (i' := 1) (L' := [some (.ref 76), some (.ref 3)]) (st' := [.ref 76]) (h' := h) 1 rfl q_) ?_
    refine GX.lift (fun _ q_ => RA.getf rfl H.1 rfl f7 q_) ?_
    refine GX.lift (fun _ q_ => RA.if1F rfl (decide_eq_false (Int32.not_le.mpr (nI_p0 (by omega) (by omega)))) q_) ?_
    refine GX.lift (fun _ q_ => RA.steps (i' := 4) (L' := [some (.ref 76), some (.ref 3)]) (st' := [.ref 76]) (h' := h) 1 rfl q_) ?_
    refine GX.lift (fun _ q_ => RA.call0 (N := mX2_peek) (as := [.ref 76]) (rest := []) rfl rfl (pcallV rfl rfl H.1 rfl rfl (Nat.le_of_ble_eq_true rfl)) pk q_) ?_
    refine GX.lift (fun _ q_ => RA.steps (i' := 6) (L' := [some (.ref 76), some (.ref 3)]) (st' := [.int 33, .int c]) (h' := h) 1 rfl q_) ?_
    by_cases cr : c = 33
    · obtain ⟨h1, q1, ls1, ln1, H1, W1⟩ := add_x (E := E) (d := d) (-c) H W
      rw [snots, if_pos cr, sno, if_pos cr] at K
      refine GX.lift (fun _ q_ => RA.if2F rfl (decide_eq_false (fun z => z cr)) q_) ?_
      refine GX.lift (fun _ q_ => RA.steps (i' := 9) (L' := [some (.ref 76), some (.ref 3)]) (st' := [.ref 76, .ref 3]) (h' := h) 2 rfl q_) ?_
      refine GX.lift (fun _ q_ => RA.call0 (N := mX2_peek) (as := [.ref 76]) (rest := [.ref 3]) rfl rfl (pcallV rfl rfl H.1 rfl rfl (Nat.le_of_ble_eq_true rfl)) pk q_) ?_
      refine GX.lift (fun _ q_ => RA.steps (i' := 11) (L' := [some (.ref 76), some (.ref 3)]) (st' := [.int (-c), .ref 3]) (h' := h) 1 rfl q_) ?_
      refine GX.lift (fun _ q_ => RA.call0 (N := mX0_add) (as := [.ref 3, .int (-c)]) (rest := []) rfl rfl (pcallV rfl rfl H.2.1 rfl rfl (Nat.le_of_ble_eq_true rfl)) q1 q_) ?_
      refine GX.lift (fun _ q_ => RA.steps (i' := 14) (L' := [some (.ref 76), some (.ref 3)]) (st' := [.ref 76, .ref 76]) (h' := h1) 2 rfl q_) ?_
      refine GX.lift (fun _ q_ => RA.getf rfl H1.1 rfl f7 q_) ?_
      refine GX.lift (fun _ q_ => RA.steps (i' := 17) (L' := [some (.ref 76), some (.ref 3)]) (st' := [.int ((nI (k.length + 1)) - 1), .ref 76]) (h' := h1) 2 rfl q_) ?_
      rw [e1]
      refine GX.pR rfl H1 rfl (fun h1_1 H1_1 => ?_)
      refine GX.lift (fun _ q_ => RA.steps (i' := 20) (L' := [some (.ref 76), some (.ref 3)]) (st' := [.ref 76, .ref 76]) (h' := h1_1) 2 rfl q_) ?_
      refine GX.lift (fun _ q_ => RA.getf rfl H1_1.1 rfl ((fsn (by decide)).trans f9) q_) ?_
      refine GX.lift (fun _ q_ => RA.steps (i' := 23) (L' := [some (.ref 76), some (.ref 3)]) (st' := [.int (no - 1), .ref 76]) (h' := h1_1) 2 rfl q_) ?_
      refine GX.pR rfl H1_1 rfl (fun h1_2 H1_2 => ?_)
      refine GX.lift (fun _ q_ => RA.steps (i' := 0) (L' := [some (.ref 76), some (.ref 3)]) (st' := []) (h' := h1_2) 1 rfl q_) ?_
      exact ih (by omega) _ (no - 1) ⟨_, ls1, sg, ln1, H1_2, (F.p7 (nI k.length)).p9 (no - 1), W1, hS.2⟩ K
    · rw [snots, if_neg cr, sno, if_neg cr] at K
      refine GX.lift (fun _ q_ => RA.if2T rfl (decide_eq_true cr) q_) ?_
      refine GX.lift (fun _ q_ => RA.steps (i' := 27) (L' := [some (.ref 76), some (.ref 3)]) (st' := [.int 0, .ref 76]) (h' := h) 2 rfl q_) ?_
      refine GX.pR rfl H rfl (fun h_1 H_1 => ?_)
      refine GX.ret rfl rfl ?_
      exact K _ ⟨_, ls, sg, ln, H_1, F.p10 0, W, hS⟩
theorem endPiece_x {n s b p gl br no wa key pc : Int32} {st : List Int32} (hl : st.length ≤ 96) (C : CR h0 h n s b p gl st br no wa key pc) : ∃ h1 : List pC, Run prog E pV1 (d + 2) mX2_endPiece [.ref 76, .ref 3] h (none, h1, 0, 0) ∧ CR h0 h1 n s b p gl (snots st) br (sno st no) 0 key pc := by
  have key : GX E (fun r_ h1 => r_ = none ∧ CR h0 h1 n s b p gl (snots st) br (sno st no) 0 key pc) (d + 2) mX2_endPiece 0 [some (.ref 76), some (.ref 3)] [] h := endPiece_l st hl h no C (fun h1 C1 => ⟨rfl, C1⟩)
  obtain ⟨r_, h1, q, rfl, C1⟩ := key
  exact ⟨h1, ⟨Nat.le_of_ble_eq_true rfl, ⟨_, _, rfl⟩, q⟩, C1⟩
end STK
/-! ===== the class's reader: one turn ===== -/
section TRN
variable {E : pX} {Φ : Option Value → List pC → Prop} {d : Nat} {h0 h : List pC}
/-- the reader, with its counts -/
def CS (h0 h : List pC) (n s b p : Nat) (gl : Int32) (st : List Int32) (wa key pc : Int32) : Prop := CR h0 h (nI n) (nI s) (nI b) (nI p) gl st (nI (cn1 40 st)) (nI (cn1 33 st)) wa key pc
theorem rk_40 : rk 40 = 0 := by decide
theorem rk_33 : rk 33 = 0 := by decide
theorem rk_41 : rk 41 = 0 := by decide
theorem unw_cn {c : Int32} (hc : rk c = 0) {r : Nat} (hr : 1 ≤ r) : ∀ s : List Int32, cn1 c (unw r s) = cn1 c s
  | [] => rfl
  | x :: s => by
    have ih := unw_cn hc hr s
    rw [unw]
    by_cases e : r ≤ rk x
    · rw [if_pos e, ih, cn1, if_neg (fun q => by rw [q] at e; omega)]
    · rw [if_neg e]
theorem snots_cn : ∀ s : List Int32, cn1 40 (snots s) = cn1 40 s
  | [] => rfl
  | x :: s => by
    have ih := snots_cn s
    rw [snots]
    by_cases e : x = 33
    · rw [if_pos e, ih, cn1, if_neg (fun q => by rw [q] at e; exact absurd e (by decide))]
    · rw [if_neg e]
theorem sno_c (s : List Int32) (hl : s.length ≤ 96) : sno s (nI (cn1 33 s)) = nI (cn1 33 (snots s)) := by
  have a := cn1_le 33 s
  rw [sno_cn s (cn1 33 s) (Nat.le_refl _) (by omega)]
  congr 1
  omega
theorem cn_c1 {c : Int32} {s : List Int32} : cn1 c (c :: s) = cn1 c s + 1 := by rw [cn1, if_pos rfl]
theorem cn_c0 {c x : Int32} {s : List Int32} (hx : ¬ x = c) : cn1 c (x :: s) = cn1 c s := by rw [cn1, if_neg hx]
theorem ta_40 {n s b p : Nat} {gl wa key pc : Int32} {st : List Int32} (h8 : cn1 40 st < 8) (hl : st.length < 96) (C : CS h0 h n s b p gl st wa key pc) : ∃ h1 : List pC, Run prog E pV1 (d + 2) mX2_takeAhead [.ref 76, .int 40] h (some (.int 1), h1, 0, 0) ∧ CS h0 h1 n s b p gl (40 :: st) wa key pc := by
  have key : GX E (fun r_ h1 => r_ = some (.int 1) ∧ CS h0 h1 n s b p gl (40 :: st) wa key pc) (d + 2) mX2_takeAhead 0 [some (.ref 76), some (.int 40)] [] h := by
    have ⟨gs, ls, sg, ln, H, F, W, hS⟩ := C
    have ⟨f0, f1, f2, f3, f4, f5, f6, f7, f8, f9, f10⟩ := F
    have ⟨w0, w1, w2, w3⟩ := W
    refine GX.lift (fun _ q_ => RA.steps (i' := 2) (L' := [some (.ref 76), some (.int 40)]) (st' := [.int 40, .int 40]) (h' := h) 2 rfl q_) ?_
    refine GX.lift (fun _ q_ => RA.if2F rfl rfl q_) ?_
    refine GX.lift (fun _ q_ => RA.steps (i' := 4) (L' := [some (.ref 76), some (.int 40)]) (st' := [.ref 76]) (h' := h) 1 rfl q_) ?_
    refine GX.lift (fun _ q_ => RA.getf rfl H.1 rfl f8 q_) ?_
    refine GX.lift (fun _ q_ => RA.steps (i' := 6) (L' := [some (.ref 76), some (.int 40)]) (st' := [.int 8, .int (nI (cn1 40 st))]) (h' := h) 1 rfl q_) ?_
    refine GX.lift (fun _ q_ => RA.if2F rfl (decide_eq_false (Int32.not_le.mpr (show nI (cn1 40 st) < nI 8 from nI_lt h8 (by decide)))) q_) ?_
    refine GX.lift (fun _ q_ => RA.steps (i' := 9) (L' := [some (.ref 76), some (.int 40)]) (st' := [.ref 76, .ref 76]) (h' := h) 2 rfl q_) ?_
    refine GX.lift (fun _ q_ => RA.getf rfl H.1 rfl f8 q_) ?_
    refine GX.lift (fun _ q_ => RA.steps (i' := 12) (L' := [some (.ref 76), some (.int 40)]) (st' := [.int ((nI (cn1 40 st)) + 1), .ref 76]) (h' := h) 2 rfl q_) ?_
    rw [(nI_1 (cn1 40 st))]
    refine GX.pR rfl H rfl (fun h_1 H_1 => ?_)
    refine GX.lift (fun _ q_ => RA.steps (i' := 15) (L' := [some (.ref 76), some (.int 40)]) (st' := [.int 40, .ref 76]) (h' := h_1) 2 rfl q_) ?_
    obtain ⟨h1, q1, C1⟩ := push_x (E := E) (d := d) 40 hl ⟨_, ls, sg, ln, H_1, F.p8 (nI (cn1 40 st + 1)), W, hS⟩
    refine GX.lift (fun _ q_ => RA.call0 (N := mX2_push) (as := [.ref 76, .int 40]) (rest := []) rfl rfl (pcallV rfl rfl H_1.1 rfl rfl (Nat.le_of_ble_eq_true rfl)) q1 q_) ?_
    refine GX.lift (fun _ q_ => RA.steps (i' := 17) (L' := [some (.ref 76), some (.int 40)]) (st' := [.int 1]) (h' := h1) 1 rfl q_) ?_
    refine GX.ret rfl rfl ?_
    refine ⟨rfl, ?_⟩
    unfold CS
    rw [cn_c1, cn_c0 (by decide)]
    exact C1
  obtain ⟨r_, h1, q, rfl, C1⟩ := key
  exact ⟨h1, ⟨Nat.le_of_ble_eq_true rfl, ⟨_, _, rfl⟩, q⟩, C1⟩
theorem ta_33 {n s b p : Nat} {gl wa key pc : Int32} {st : List Int32} (h8 : cn1 33 st < 8) (hl : st.length < 96) (C : CS h0 h n s b p gl st wa key pc) : ∃ h1 : List pC, Run prog E pV1 (d + 2) mX2_takeAhead [.ref 76, .int 33] h (some (.int 1), h1, 0, 0) ∧ CS h0 h1 n s b p gl (33 :: st) wa key pc := by
  have key : GX E (fun r_ h1 => r_ = some (.int 1) ∧ CS h0 h1 n s b p gl (33 :: st) wa key pc) (d + 2) mX2_takeAhead 0 [some (.ref 76), some (.int 33)] [] h := by
    have ⟨gs, ls, sg, ln, H, F, W, hS⟩ := C
    have ⟨f0, f1, f2, f3, f4, f5, f6, f7, f8, f9, f10⟩ := F
    have ⟨w0, w1, w2, w3⟩ := W
    refine GX.lift (fun _ q_ => RA.steps (i' := 2) (L' := [some (.ref 76), some (.int 33)]) (st' := [.int 40, .int 33]) (h' := h) 2 rfl q_) ?_
    refine GX.lift (fun _ q_ => RA.if2T rfl rfl q_) ?_
    refine GX.lift (fun _ q_ => RA.steps (i' := 20) (L' := [some (.ref 76), some (.int 33)]) (st' := [.int 33, .int 33]) (h' := h) 2 rfl q_) ?_
    refine GX.lift (fun _ q_ => RA.if2F rfl rfl q_) ?_
    refine GX.lift (fun _ q_ => RA.steps (i' := 22) (L' := [some (.ref 76), some (.int 33)]) (st' := [.ref 76]) (h' := h) 1 rfl q_) ?_
    refine GX.lift (fun _ q_ => RA.getf rfl H.1 rfl f9 q_) ?_
    refine GX.lift (fun _ q_ => RA.steps (i' := 24) (L' := [some (.ref 76), some (.int 33)]) (st' := [.int 8, .int (nI (cn1 33 st))]) (h' := h) 1 rfl q_) ?_
    refine GX.lift (fun _ q_ => RA.if2F rfl (decide_eq_false (Int32.not_le.mpr (show nI (cn1 33 st) < nI 8 from nI_lt h8 (by decide)))) q_) ?_
    refine GX.lift (fun _ q_ => RA.steps (i' := 27) (L' := [some (.ref 76), some (.int 33)]) (st' := [.ref 76, .ref 76]) (h' := h) 2 rfl q_) ?_
    refine GX.lift (fun _ q_ => RA.getf rfl H.1 rfl f9 q_) ?_
    refine GX.lift (fun _ q_ => RA.steps (i' := 30) (L' := [some (.ref 76), some (.int 33)]) (st' := [.int ((nI (cn1 33 st)) + 1), .ref 76]) (h' := h) 2 rfl q_) ?_
    rw [(nI_1 (cn1 33 st))]
    refine GX.pR rfl H rfl (fun h_1 H_1 => ?_)
    refine GX.lift (fun _ q_ => RA.steps (i' := 33) (L' := [some (.ref 76), some (.int 33)]) (st' := [.int 33, .ref 76]) (h' := h_1) 2 rfl q_) ?_
    obtain ⟨h1, q1, C1⟩ := push_x (E := E) (d := d) 33 hl ⟨_, ls, sg, ln, H_1, F.p9 (nI (cn1 33 st + 1)), W, hS⟩
    refine GX.lift (fun _ q_ => RA.call0 (N := mX2_push) (as := [.ref 76, .int 33]) (rest := []) rfl rfl (pcallV rfl rfl H_1.1 rfl rfl (Nat.le_of_ble_eq_true rfl)) q1 q_) ?_
    refine GX.lift (fun _ q_ => RA.steps (i' := 35) (L' := [some (.ref 76), some (.int 33)]) (st' := [.int 1]) (h' := h1) 1 rfl q_) ?_
    refine GX.ret rfl rfl ?_
    refine ⟨rfl, ?_⟩
    unfold CS
    rw [cn_c0 (by decide), cn_c1]
    exact C1
  obtain ⟨r_, h1, q, rfl, C1⟩ := key
  exact ⟨h1, ⟨Nat.le_of_ble_eq_true rfl, ⟨_, _, rfl⟩, q⟩, C1⟩
theorem ta_n {n s b p : Nat} {gl wa key pc : Int32} {st : List Int32} {c : Int32} (hc : ¬ (c = 40 ∧ cn1 40 st < 8)) (hc2 : ¬ (c = 33 ∧ cn1 33 st < 8)) (hl : st.length ≤ 96) (C : CS h0 h n s b p gl st wa key pc) : Run prog E pV1 (d + 2) mX2_takeAhead [.ref 76, .int c] h (some (.int 0), h, 0, 0) := by
  have ⟨gs, ls, sg, ln, H, F, W, hS⟩ := C
  have ⟨f0, f1, f2, f3, f4, f5, f6, f7, f8, f9, f10⟩ := F
  have ⟨w0, w1, w2, w3⟩ := W
  have l1 := cn1_le 40 st
  have l2 := cn1_le 33 st
  refine ⟨Nat.le_of_ble_eq_true rfl, ⟨_, _, rfl⟩, ?_⟩
  show RA prog E pV1 (d + 2) mX2_takeAhead 0 [some (.ref 76), some (.int c)] [] h (some (.int 0), h, 0, 0)
  by_cases a1 : c = 40
  · have a8 : ¬ cn1 40 st < 8 := fun z => hc ⟨a1, z⟩
    have b1 : ¬ c = 33 := fun z => absurd (a1.symm.trans z) (by decide)
    refine RA.steps (i' := 2) (L' := [some (.ref 76), some (.int c)]) (st' := [.int 40, .int c]) (h' := h) 2 rfl ?_
    refine RA.if2F rfl (decide_eq_false (fun z => z a1)) ?_
    refine RA.steps (i' := 4) (L' := [some (.ref 76), some (.int c)]) (st' := [.ref 76]) (h' := h) 1 rfl ?_
    refine RA.getf rfl H.1 rfl f8 ?_
    refine RA.steps (i' := 6) (L' := [some (.ref 76), some (.int c)]) (st' := [.int 8, .int (nI (cn1 40 st))]) (h' := h) 1 rfl ?_
    refine RA.if2T rfl (decide_eq_true (show nI 8 ≤ nI (cn1 40 st) from nI_le (by omega) (by omega))) ?_
    refine RA.steps (i' := 20) (L' := [some (.ref 76), some (.int c)]) (st' := [.int 33, .int c]) (h' := h) 2 rfl ?_
    refine RA.if2T rfl (decide_eq_true b1) ?_
    refine RA.steps (i' := 37) (L' := [some (.ref 76), some (.int c)]) (st' := [.int 0]) (h' := h) 1 rfl ?_
    exact RA.ret rfl rfl
  by_cases b1 : c = 33
  · have b8 : ¬ cn1 33 st < 8 := fun z => hc2 ⟨b1, z⟩
    refine RA.steps (i' := 2) (L' := [some (.ref 76), some (.int c)]) (st' := [.int 40, .int c]) (h' := h) 2 rfl ?_
    refine RA.if2T rfl (decide_eq_true a1) ?_
    refine RA.steps (i' := 20) (L' := [some (.ref 76), some (.int c)]) (st' := [.int 33, .int c]) (h' := h) 2 rfl ?_
    refine RA.if2F rfl (decide_eq_false (fun z => z b1)) ?_
    refine RA.steps (i' := 22) (L' := [some (.ref 76), some (.int c)]) (st' := [.ref 76]) (h' := h) 1 rfl ?_
    refine RA.getf rfl H.1 rfl f9 ?_
    refine RA.steps (i' := 24) (L' := [some (.ref 76), some (.int c)]) (st' := [.int 8, .int (nI (cn1 33 st))]) (h' := h) 1 rfl ?_
    refine RA.if2T rfl (decide_eq_true (show nI 8 ≤ nI (cn1 33 st) from nI_le (by omega) (by omega))) ?_
    refine RA.steps (i' := 37) (L' := [some (.ref 76), some (.int c)]) (st' := [.int 0]) (h' := h) 1 rfl ?_
    exact RA.ret rfl rfl
  · skip
    refine RA.steps (i' := 2) (L' := [some (.ref 76), some (.int c)]) (st' := [.int 40, .int c]) (h' := h) 2 rfl ?_
    refine RA.if2T rfl (decide_eq_true a1) ?_
    refine RA.steps (i' := 20) (L' := [some (.ref 76), some (.int c)]) (st' := [.int 33, .int c]) (h' := h) 2 rfl ?_
    refine RA.if2T rfl (decide_eq_true b1) ?_
    refine RA.steps (i' := 37) (L' := [some (.ref 76), some (.int c)]) (st' := [.int 0]) (h' := h) 1 rfl ?_
    exact RA.ret rfl rfl
theorem tb_41 {n s b p : Nat} {gl wa key pc : Int32} {st : List Int32} {s2 : List Int32} (h4 : 0 < cn1 40 st) (hu : unw 1 st = 40 :: s2) (hl : st.length ≤ 96) (C : CS h0 h n s b p gl st wa key pc) : ∃ h1 : List pC, Run prog E pV1 (d + 4) mX2_takeBehind [.ref 76, .ref 3, .int 41] h (some (.int 1), h1, 0, 0) ∧ CS h0 h1 n s b p gl (snots s2) 0 key pc := by
  have key : GX E (fun r_ h1 => r_ = some (.int 1) ∧ CS h0 h1 n s b p gl (snots s2) 0 key pc) (d + 4) mX2_takeBehind 0 [some (.ref 76), some (.ref 3), some (.int 41), none] [] h := by
    have ⟨gs, ls, sg, ln, H, F, W, hS⟩ := C
    have ⟨f0, f1, f2, f3, f4, f5, f6, f7, f8, f9, f10⟩ := F
    have ⟨w0, w1, w2, w3⟩ := W
    obtain ⟨h1, q1, C1⟩ := unwind_x (E := E) (d := d + 1) (r := 1) (by decide) hl C
    rw [hu] at C1
    obtain ⟨gs1, ls1, sg1, ln1, H1, F1, W1, hS1⟩ := C1
    have ek : ((40 : Int32) :: s2).length = s2.length + 1 := rfl
    rw [ek] at F1
    have ⟨e0, e1, e2, e3, e4, e5, e6, e7, e8, e9, e10⟩ := F1
    have u1 := unw_cn rk_40 (r := 1) (Nat.le_refl 1) st
    rw [hu, cn_c1] at u1
    have u2 := unw_cn rk_33 (r := 1) (Nat.le_refl 1) st
    rw [hu, cn_c0 (by decide)] at u2
    have ul := unw_len 1 st
    rw [hu, ek] at ul
    have a1 := cn1_le 40 st
    have d7 : nI (s2.length + 1) - 1 = nI s2.length := by
      rw [← nI1, nIsub (by omega) (by omega)]
      rfl
    have d8 : nI (cn1 40 st) - 1 = nI (cn1 40 s2) := by
      rw [← nI1, nIsub (by omega) (by omega)]
      congr 1
      omega
    refine GX.lift (fun _ q_ => RA.steps (i' := 2) (L' := [some (.ref 76), some (.ref 3), some (.int 41), none]) (st' := [.int 41, .int 41]) (h' := h) 2 rfl q_) ?_
    refine GX.lift (fun _ q_ => RA.if2F rfl rfl q_) ?_
    refine GX.lift (fun _ q_ => RA.steps (i' := 4) (L' := [some (.ref 76), some (.ref 3), some (.int 41), none]) (st' := [.ref 76]) (h' := h) 1 rfl q_) ?_
    refine GX.lift (fun _ q_ => RA.getf rfl H.1 rfl f8 q_) ?_
    refine GX.lift (fun _ q_ => RA.if1F rfl (decide_eq_false (Int32.not_le.mpr (nI_p0 h4 (by omega)))) q_) ?_
    refine GX.lift (fun _ q_ => RA.steps (i' := 9) (L' := [some (.ref 76), some (.ref 3), some (.int 41), none]) (st' := [.int 1, .ref 3, .ref 76]) (h' := h) 3 rfl q_) ?_
    refine GX.lift (fun _ q_ => RA.call0 (N := mX2_unwind) (as := [.ref 76, .ref 3, .int 1]) (rest := []) rfl rfl (pcallV rfl rfl H.1 rfl rfl (Nat.le_of_ble_eq_true rfl)) q1 q_) ?_
    refine GX.lift (fun _ q_ => RA.steps (i' := 12) (L' := [some (.ref 76), some (.ref 3), some (.int 41), none]) (st' := [.ref 76, .ref 76]) (h' := h1) 2 rfl q_) ?_
    refine GX.lift (fun _ q_ => RA.getf rfl H1.1 rfl e7 q_) ?_
    refine GX.lift (fun _ q_ => RA.steps (i' := 15) (L' := [some (.ref 76), some (.ref 3), some (.int 41), none]) (st' := [.int ((nI (s2.length + 1)) - 1), .ref 76]) (h' := h1) 2 rfl q_) ?_
    rw [d7]
    refine GX.pR rfl H1 rfl (fun h1_1 H1_1 => ?_)
    refine GX.lift (fun _ q_ => RA.steps (i' := 18) (L' := [some (.ref 76), some (.ref 3), some (.int 41), none]) (st' := [.ref 76, .ref 76]) (h' := h1_1) 2 rfl q_) ?_
    refine GX.lift (fun _ q_ => RA.getf rfl H1_1.1 rfl ((fsn (by decide)).trans e8) q_) ?_
    refine GX.lift (fun _ q_ => RA.steps (i' := 21) (L' := [some (.ref 76), some (.ref 3), some (.int 41), none]) (st' := [.int ((nI (cn1 40 st)) - 1), .ref 76]) (h' := h1_1) 2 rfl q_) ?_
    rw [d8]
    refine GX.pR rfl H1_1 rfl (fun h1_2 H1_2 => ?_)
    refine GX.lift (fun _ q_ => RA.steps (i' := 24) (L' := [some (.ref 76), some (.ref 3), some (.int 41), none]) (st' := [.ref 3, .ref 76]) (h' := h1_2) 2 rfl q_) ?_
    obtain ⟨h2, q2, C2⟩ := endPiece_x (E := E) (d := d + 1) (st := s2) (by omega) ⟨_, ls1, sg1, ln1, H1_2, (F1.p7 (nI s2.length)).p8 (nI (cn1 40 s2)), W1, hS1.2⟩
    refine GX.lift (fun _ q_ => RA.call0 (N := mX2_endPiece) (as := [.ref 76, .ref 3]) (rest := []) rfl rfl (pcallV rfl rfl H1_2.1 rfl rfl (Nat.le_of_ble_eq_true rfl)) q2 q_) ?_
    refine GX.lift (fun _ q_ => RA.steps (i' := 26) (L' := [some (.ref 76), some (.ref 3), some (.int 41), none]) (st' := [.int 1]) (h' := h2) 1 rfl q_) ?_
    refine GX.ret rfl rfl ?_
    refine ⟨rfl, ?_⟩
    unfold CS
    rw [snots_cn, ← sno_c s2 (by omega), u2]
    exact C2
  obtain ⟨r_, h1, q, rfl, C1⟩ := key
  exact ⟨h1, ⟨Nat.le_of_ble_eq_true rfl, ⟨_, _, rfl⟩, q⟩, C1⟩
theorem tb_op {n s b p : Nat} {gl wa key pc : Int32} {st : List Int32} {c : Int32} (hk : rk c ≠ 0) (k3 : rk c ≠ 3) (hl : st.length < 96) (C : CS h0 h n s b p gl st wa key pc) : ∃ h1 : List pC, Run prog E pV1 (d + 4) mX2_takeBehind [.ref 76, .ref 3, .int c] h (some (.int 1), h1, 0, 0) ∧ CS h0 h1 n s b p gl (c :: unw (rk c) st) 1 key pc := by
  have c41 : ¬ c = 41 := fun z => hk (by rw [z]; decide)
  have r5 := rk_le c
  have hl : st.length ≤ 95 := by omega
  have key : GX E (fun r_ h1 => r_ = some (.int 1) ∧ CS h0 h1 n s b p gl (c :: unw (rk c) st) 1 key pc) (d + 4) mX2_takeBehind 0 [some (.ref 76), some (.ref 3), some (.int c), none] [] h := by
    have ⟨gs, ls, sg, ln, H, F, W, hS⟩ := C
    have ⟨f0, f1, f2, f3, f4, f5, f6, f7, f8, f9, f10⟩ := F
    have ⟨w0, w1, w2, w3⟩ := W
    obtain ⟨h1, q1, C1⟩ := unwind_x (E := E) (d := d + 1) (r := (rk c)) (by omega) (by omega) C
    have ul := unw_len (rk c) st
    have u1 := unw_cn rk_40 (r := (rk c)) (by omega) st
    have u2 := unw_cn rk_33 (r := (rk c)) (by omega) st
    obtain ⟨gs1, ls1, sg1, ln1, H1, F1, W1, hS1⟩ := C1
    have pk := peek_x (E := E) (d := d + 2) (by omega) (show CR h0 h1 _ _ _ _ _ _ _ _ _ _ _ from ⟨gs1, ls1, sg1, ln1, H1, F1, W1, hS1⟩)
    refine GX.lift (fun _ q_ => RA.steps (i' := 2) (L' := [some (.ref 76), some (.ref 3), some (.int c), none]) (st' := [.int 41, .int c]) (h' := h) 2 rfl q_) ?_
    refine GX.lift (fun _ q_ => RA.if2T rfl (decide_eq_true c41) q_) ?_
    refine GX.lift (fun _ q_ => RA.steps (i' := 28) (L' := [some (.ref 76), some (.ref 3), some (.int c), none]) (st' := [.int c]) (h' := h) 1 rfl q_) ?_
    refine GX.lift (fun _ q_ => RA.call0 (N := mX2_rankOf) (as := [.int c]) (rest := []) rfl rfl rfl (rankOf_x c) q_) ?_
    refine GX.lift (fun _ q_ => RA.steps (i' := 31) (L' := [some (.ref 76), some (.ref 3), some (.int c), some (.int (nI (rk c)))]) (st' := [.int (nI (rk c))]) (h' := h) 2 rfl q_) ?_
    refine GX.lift (fun _ q_ => RA.if1T rfl (decide_eq_true (fun z => hk ((nI_eq (by omega) (by decide)).mp (z.trans nI_0.symm)))) q_) ?_
    refine GX.lift (fun _ q_ => RA.steps (i' := 38) (L' := [some (.ref 76), some (.ref 3), some (.int c), some (.int (nI (rk c)))]) (st' := [.int 3, .int (nI (rk c)), .ref 3, .ref 76]) (h' := h) 4 rfl q_) ?_
    refine GX.lift (fun _ q_ => RA.if2T rfl (decide_eq_true (fun z => k3 ((nI_eq (by omega) (by decide)).mp (show nI (rk c) = nI 3 from z)))) q_) ?_
    refine GX.lift (fun _ q_ => RA.steps (i' := 44) (L' := [some (.ref 76), some (.ref 3), some (.int c), some (.int (nI (rk c)))]) (st' := [.int (nI (rk c)), .ref 3, .ref 76]) (h' := h) 1 rfl q_) ?_
    refine GX.lift (fun _ q_ => RA.call0 (N := mX2_unwind) (as := [.ref 76, .ref 3, .int (nI (rk c))]) (rest := []) rfl rfl (pcallV rfl rfl H.1 rfl rfl (Nat.le_of_ble_eq_true rfl)) q1 q_) ?_
    refine GX.lift (fun _ q_ => RA.steps (i' := 47) (L' := [some (.ref 76), some (.ref 3), some (.int c), some (.int (nI (rk c)))]) (st' := [.int 3, .int (nI (rk c))]) (h' := h1) 2 rfl q_) ?_
    refine GX.lift (fun _ q_ => RA.if2T rfl (decide_eq_true (fun z => k3 ((nI_eq (by omega) (by decide)).mp (show nI (rk c) = nI 3 from z)))) q_) ?_
    refine GX.lift (fun _ q_ => RA.steps (i' := 57) (L' := [some (.ref 76), some (.ref 3), some (.int c), some (.int (nI (rk c)))]) (st' := [.int c, .ref 76]) (h' := h1) 2 rfl q_) ?_
    obtain ⟨h2, q2, C2⟩ := push_x (E := E) (d := d + 2) c (by omega) (show CR h0 h1 _ _ _ _ _ _ _ _ _ _ _ from ⟨gs1, ls1, sg1, ln1, H1, F1, W1, hS1⟩)
    have ⟨gs2, ls2, sg2, ln2, H2, F2, W2, hS2⟩ := C2
    refine GX.lift (fun _ q_ => RA.call0 (N := mX2_push) (as := [.ref 76, .int c]) (rest := []) rfl rfl (pcallV rfl rfl H1.1 rfl rfl (Nat.le_of_ble_eq_true rfl)) q2 q_) ?_
    refine GX.lift (fun _ q_ => RA.steps (i' := 60) (L' := [some (.ref 76), some (.ref 3), some (.int c), some (.int (nI (rk c)))]) (st' := [.int 1, .ref 76]) (h' := h2) 2 rfl q_) ?_
    refine GX.pR rfl H2 rfl (fun h2_1 H2_1 => ?_)
    refine GX.lift (fun _ q_ => RA.steps (i' := 62) (L' := [some (.ref 76), some (.ref 3), some (.int c), some (.int (nI (rk c)))]) (st' := [.int 1]) (h' := h2_1) 1 rfl q_) ?_
    refine GX.ret rfl rfl ?_
    refine ⟨rfl, ?_⟩
    unfold CS
    rw [cn_c0 (fun z => by rw [z] at hk; exact hk rk_40), cn_c0 (fun z => by rw [z] at hk; exact hk rk_33), u1, u2]
    exact ⟨_, ls2, sg2, ln2, H2_1, F2.p10 1, W2, hS2⟩
  obtain ⟨r_, h1, q, rfl, C1⟩ := key
  exact ⟨h1, ⟨Nat.le_of_ble_eq_true rfl, ⟨_, _, rfl⟩, q⟩, C1⟩
theorem tb_test {n s b p : Nat} {gl wa key pc : Int32} {st : List Int32} {c : Int32} (k3 : rk c = 3) (ht : rk (tp (unw 4 st)) ≠ 3) (hl : st.length < 96) (C : CS h0 h n s b p gl st wa key pc) : ∃ h1 : List pC, Run prog E pV1 (d + 4) mX2_takeBehind [.ref 76, .ref 3, .int c] h (some (.int 1), h1, 0, 0) ∧ CS h0 h1 n s b p gl (c :: unw 4 st) 1 key pc := by
  have hk : rk c ≠ 0 := by omega
  have c41 : ¬ c = 41 := fun z => hk (by rw [z]; decide)
  have r5 := rk_le c
  have hl : st.length ≤ 95 := by omega
  have key : GX E (fun r_ h1 => r_ = some (.int 1) ∧ CS h0 h1 n s b p gl (c :: unw 4 st) 1 key pc) (d + 4) mX2_takeBehind 0 [some (.ref 76), some (.ref 3), some (.int c), none] [] h := by
    have ⟨gs, ls, sg, ln, H, F, W, hS⟩ := C
    have ⟨f0, f1, f2, f3, f4, f5, f6, f7, f8, f9, f10⟩ := F
    have ⟨w0, w1, w2, w3⟩ := W
    obtain ⟨h1, q1, C1⟩ := unwind_x (E := E) (d := d + 1) (r := 4) (by decide) (by omega) C
    have ul := unw_len 4 st
    have u1 := unw_cn rk_40 (r := 4) (by omega) st
    have u2 := unw_cn rk_33 (r := 4) (by omega) st
    obtain ⟨gs1, ls1, sg1, ln1, H1, F1, W1, hS1⟩ := C1
    have pk := peek_x (E := E) (d := d + 2) (by omega) (show CR h0 h1 _ _ _ _ _ _ _ _ _ _ _ from ⟨gs1, ls1, sg1, ln1, H1, F1, W1, hS1⟩)
    refine GX.lift (fun _ q_ => RA.steps (i' := 2) (L' := [some (.ref 76), some (.ref 3), some (.int c), none]) (st' := [.int 41, .int c]) (h' := h) 2 rfl q_) ?_
    refine GX.lift (fun _ q_ => RA.if2T rfl (decide_eq_true c41) q_) ?_
    refine GX.lift (fun _ q_ => RA.steps (i' := 28) (L' := [some (.ref 76), some (.ref 3), some (.int c), none]) (st' := [.int c]) (h' := h) 1 rfl q_) ?_
    refine GX.lift (fun _ q_ => RA.call0 (N := mX2_rankOf) (as := [.int c]) (rest := []) rfl rfl rfl (rankOf_x c) q_) ?_
    refine GX.lift (fun _ q_ => RA.steps (i' := 31) (L' := [some (.ref 76), some (.ref 3), some (.int c), some (.int (nI (rk c)))]) (st' := [.int (nI (rk c))]) (h' := h) 2 rfl q_) ?_
    refine GX.lift (fun _ q_ => RA.if1T rfl (decide_eq_true (fun z => hk ((nI_eq (by omega) (by decide)).mp (z.trans nI_0.symm)))) q_) ?_
    refine GX.lift (fun _ q_ => RA.steps (i' := 38) (L' := [some (.ref 76), some (.ref 3), some (.int c), some (.int (nI (rk c)))]) (st' := [.int 3, .int (nI (rk c)), .ref 3, .ref 76]) (h' := h) 4 rfl q_) ?_
    refine GX.lift (fun _ q_ => RA.if2F rfl (decide_eq_false (fun z => z (by rw [k3]; decide +kernel))) q_) ?_
    refine GX.lift (fun _ q_ => RA.steps (i' := 42) (L' := [some (.ref 76), some (.ref 3), some (.int c), some (.int (nI (rk c)))]) (st' := [.int ((nI (rk c)) + 1), .ref 3, .ref 76]) (h' := h) 3 rfl q_) ?_
    rw [(show nI (rk c) + 1 = nI 4 by rw [k3]; decide +kernel)]
    refine GX.lift (fun _ q_ => RA.steps (i' := 44) (L' := [some (.ref 76), some (.ref 3), some (.int c), some (.int (nI (rk c)))]) (st' := [.int (nI 4), .ref 3, .ref 76]) (h' := h) 1 rfl q_) ?_
    refine GX.lift (fun _ q_ => RA.call0 (N := mX2_unwind) (as := [.ref 76, .ref 3, .int (nI 4)]) (rest := []) rfl rfl (pcallV rfl rfl H.1 rfl rfl (Nat.le_of_ble_eq_true rfl)) q1 q_) ?_
    refine GX.lift (fun _ q_ => RA.steps (i' := 47) (L' := [some (.ref 76), some (.ref 3), some (.int c), some (.int (nI (rk c)))]) (st' := [.int 3, .int (nI (rk c))]) (h' := h1) 2 rfl q_) ?_
    refine GX.lift (fun _ q_ => RA.if2F rfl (decide_eq_false (fun z => z (by rw [k3]; decide +kernel))) q_) ?_
    refine GX.lift (fun _ q_ => RA.steps (i' := 49) (L' := [some (.ref 76), some (.ref 3), some (.int c), some (.int (nI (rk c)))]) (st' := [.ref 76]) (h' := h1) 1 rfl q_) ?_
    refine GX.lift (fun _ q_ => RA.call0 (N := mX2_peek) (as := [.ref 76]) (rest := []) rfl rfl (pcallV rfl rfl H1.1 rfl rfl (Nat.le_of_ble_eq_true rfl)) pk q_) ?_
    refine GX.lift (fun _ q_ => RA.call0 (N := mX2_rankOf) (as := [.int (tp (unw 4 st))]) (rest := []) rfl rfl rfl (rankOf_x (tp (unw 4 st))) q_) ?_
    refine GX.lift (fun _ q_ => RA.steps (i' := 52) (L' := [some (.ref 76), some (.ref 3), some (.int c), some (.int (nI (rk c)))]) (st' := [.int 3, .int (nI (rk (tp (unw 4 st))))]) (h' := h1) 1 rfl q_) ?_
    refine GX.lift (fun _ q_ => RA.if2T rfl (decide_eq_true (fun z => ht ((nI_eq (by have := rk_le (tp (unw 4 st)); omega) (by decide)).mp (show nI (rk (tp (unw 4 st))) = nI 3 from z)))) q_) ?_
    refine GX.lift (fun _ q_ => RA.steps (i' := 57) (L' := [some (.ref 76), some (.ref 3), some (.int c), some (.int (nI (rk c)))]) (st' := [.int c, .ref 76]) (h' := h1) 2 rfl q_) ?_
    obtain ⟨h2, q2, C2⟩ := push_x (E := E) (d := d + 2) c (by omega) (show CR h0 h1 _ _ _ _ _ _ _ _ _ _ _ from ⟨gs1, ls1, sg1, ln1, H1, F1, W1, hS1⟩)
    have ⟨gs2, ls2, sg2, ln2, H2, F2, W2, hS2⟩ := C2
    refine GX.lift (fun _ q_ => RA.call0 (N := mX2_push) (as := [.ref 76, .int c]) (rest := []) rfl rfl (pcallV rfl rfl H1.1 rfl rfl (Nat.le_of_ble_eq_true rfl)) q2 q_) ?_
    refine GX.lift (fun _ q_ => RA.steps (i' := 60) (L' := [some (.ref 76), some (.ref 3), some (.int c), some (.int (nI (rk c)))]) (st' := [.int 1, .ref 76]) (h' := h2) 2 rfl q_) ?_
    refine GX.pR rfl H2 rfl (fun h2_1 H2_1 => ?_)
    refine GX.lift (fun _ q_ => RA.steps (i' := 62) (L' := [some (.ref 76), some (.ref 3), some (.int c), some (.int (nI (rk c)))]) (st' := [.int 1]) (h' := h2_1) 1 rfl q_) ?_
    refine GX.ret rfl rfl ?_
    refine ⟨rfl, ?_⟩
    unfold CS
    rw [cn_c0 (fun z => by rw [z] at hk; exact hk rk_40), cn_c0 (fun z => by rw [z] at hk; exact hk rk_33), u1, u2]
    exact ⟨_, ls2, sg2, ln2, H2_1, F2.p10 1, W2, hS2⟩
  obtain ⟨r_, h1, q, rfl, C1⟩ := key
  exact ⟨h1, ⟨Nat.le_of_ble_eq_true rfl, ⟨_, _, rfl⟩, q⟩, C1⟩
theorem tb_n3 {n s b p : Nat} {gl wa key pc : Int32} {st : List Int32} {c : Int32} (k3 : rk c = 3) (ht : rk (tp (unw 4 st)) = 3) (hl : st.length ≤ 96) (C : CS h0 h n s b p gl st wa key pc) : ∃ h1 : List pC, Run prog E pV1 (d + 4) mX2_takeBehind [.ref 76, .ref 3, .int c] h (some (.int 0), h1, 0, 0) ∧ (∃ (st2 : List Int32) (br2 no2 : Int32), CR h0 h1 (nI n) (nI s) (nI b) (nI p) gl st2 br2 no2 wa key pc) := by
  have hk : rk c ≠ 0 := by omega
  have c41 : ¬ c = 41 := fun z => hk (by rw [z]; decide)
  have r5 := rk_le c
  have key : GX E (fun r_ h1 => r_ = some (.int 0) ∧ (∃ (st2 : List Int32) (br2 no2 : Int32), CR h0 h1 (nI n) (nI s) (nI b) (nI p) gl st2 br2 no2 wa key pc)) (d + 4) mX2_takeBehind 0 [some (.ref 76), some (.ref 3), some (.int c), none] [] h := by
    have ⟨gs, ls, sg, ln, H, F, W, hS⟩ := C
    have ⟨f0, f1, f2, f3, f4, f5, f6, f7, f8, f9, f10⟩ := F
    have ⟨w0, w1, w2, w3⟩ := W
    obtain ⟨h1, q1, C1⟩ := unwind_x (E := E) (d := d + 1) (r := 4) (by decide) hl C
    have ul := unw_len 4 st
    have u1 := unw_cn rk_40 (r := 4) (by omega) st
    have u2 := unw_cn rk_33 (r := 4) (by omega) st
    obtain ⟨gs1, ls1, sg1, ln1, H1, F1, W1, hS1⟩ := C1
    have pk := peek_x (E := E) (d := d + 2) (by omega) (show CR h0 h1 _ _ _ _ _ _ _ _ _ _ _ from ⟨gs1, ls1, sg1, ln1, H1, F1, W1, hS1⟩)
    refine GX.lift (fun _ q_ => RA.steps (i' := 2) (L' := [some (.ref 76), some (.ref 3), some (.int c), none]) (st' := [.int 41, .int c]) (h' := h) 2 rfl q_) ?_
    refine GX.lift (fun _ q_ => RA.if2T rfl (decide_eq_true c41) q_) ?_
    refine GX.lift (fun _ q_ => RA.steps (i' := 28) (L' := [some (.ref 76), some (.ref 3), some (.int c), none]) (st' := [.int c]) (h' := h) 1 rfl q_) ?_
    refine GX.lift (fun _ q_ => RA.call0 (N := mX2_rankOf) (as := [.int c]) (rest := []) rfl rfl rfl (rankOf_x c) q_) ?_
    refine GX.lift (fun _ q_ => RA.steps (i' := 31) (L' := [some (.ref 76), some (.ref 3), some (.int c), some (.int (nI (rk c)))]) (st' := [.int (nI (rk c))]) (h' := h) 2 rfl q_) ?_
    refine GX.lift (fun _ q_ => RA.if1T rfl (decide_eq_true (fun z => hk ((nI_eq (by omega) (by decide)).mp (z.trans nI_0.symm)))) q_) ?_
    refine GX.lift (fun _ q_ => RA.steps (i' := 38) (L' := [some (.ref 76), some (.ref 3), some (.int c), some (.int (nI (rk c)))]) (st' := [.int 3, .int (nI (rk c)), .ref 3, .ref 76]) (h' := h) 4 rfl q_) ?_
    refine GX.lift (fun _ q_ => RA.if2F rfl (decide_eq_false (fun z => z (by rw [k3]; decide +kernel))) q_) ?_
    refine GX.lift (fun _ q_ => RA.steps (i' := 42) (L' := [some (.ref 76), some (.ref 3), some (.int c), some (.int (nI (rk c)))]) (st' := [.int ((nI (rk c)) + 1), .ref 3, .ref 76]) (h' := h) 3 rfl q_) ?_
    rw [(show nI (rk c) + 1 = nI 4 by rw [k3]; decide +kernel)]
    refine GX.lift (fun _ q_ => RA.steps (i' := 44) (L' := [some (.ref 76), some (.ref 3), some (.int c), some (.int (nI (rk c)))]) (st' := [.int (nI 4), .ref 3, .ref 76]) (h' := h) 1 rfl q_) ?_
    refine GX.lift (fun _ q_ => RA.call0 (N := mX2_unwind) (as := [.ref 76, .ref 3, .int (nI 4)]) (rest := []) rfl rfl (pcallV rfl rfl H.1 rfl rfl (Nat.le_of_ble_eq_true rfl)) q1 q_) ?_
    refine GX.lift (fun _ q_ => RA.steps (i' := 47) (L' := [some (.ref 76), some (.ref 3), some (.int c), some (.int (nI (rk c)))]) (st' := [.int 3, .int (nI (rk c))]) (h' := h1) 2 rfl q_) ?_
    refine GX.lift (fun _ q_ => RA.if2F rfl (decide_eq_false (fun z => z (by rw [k3]; decide +kernel))) q_) ?_
    refine GX.lift (fun _ q_ => RA.steps (i' := 49) (L' := [some (.ref 76), some (.ref 3), some (.int c), some (.int (nI (rk c)))]) (st' := [.ref 76]) (h' := h1) 1 rfl q_) ?_
    refine GX.lift (fun _ q_ => RA.call0 (N := mX2_peek) (as := [.ref 76]) (rest := []) rfl rfl (pcallV rfl rfl H1.1 rfl rfl (Nat.le_of_ble_eq_true rfl)) pk q_) ?_
    refine GX.lift (fun _ q_ => RA.call0 (N := mX2_rankOf) (as := [.int (tp (unw 4 st))]) (rest := []) rfl rfl rfl (rankOf_x (tp (unw 4 st))) q_) ?_
    refine GX.lift (fun _ q_ => RA.steps (i' := 52) (L' := [some (.ref 76), some (.ref 3), some (.int c), some (.int (nI (rk c)))]) (st' := [.int 3, .int (nI (rk (tp (unw 4 st))))]) (h' := h1) 1 rfl q_) ?_
    refine GX.lift (fun _ q_ => RA.if2F rfl (decide_eq_false (fun z => z (by rw [ht]; decide +kernel))) q_) ?_
    refine GX.lift (fun _ q_ => RA.steps (i' := 54) (L' := [some (.ref 76), some (.ref 3), some (.int c), some (.int (nI (rk c)))]) (st' := [.int 0]) (h' := h1) 1 rfl q_) ?_
    refine GX.ret rfl rfl ?_
    exact ⟨rfl, _, _, _, gs1, ls1, sg1, ln1, H1, F1, W1, hS1⟩
  obtain ⟨r_, h1, q, rfl, C1⟩ := key
  exact ⟨h1, ⟨Nat.le_of_ble_eq_true rfl, ⟨_, _, rfl⟩, q⟩, C1⟩
theorem tb_n0 {n s b p : Nat} {gl wa key pc : Int32} {st : List Int32} {c : Int32} (hk : rk c = 0) (hc : ¬ (c = 41 ∧ 0 < cn1 40 st)) (C : CS h0 h n s b p gl st wa key pc) : Run prog E pV1 (d + 4) mX2_takeBehind [.ref 76, .ref 3, .int c] h (some (.int 0), h, 0, 0) := by
  have ⟨gs, ls, sg, ln, H, F, W, hS⟩ := C
  have ⟨f0, f1, f2, f3, f4, f5, f6, f7, f8, f9, f10⟩ := F
  have ⟨w0, w1, w2, w3⟩ := W
  refine ⟨Nat.le_of_ble_eq_true rfl, ⟨_, _, rfl⟩, ?_⟩
  show RA prog E pV1 (d + 4) mX2_takeBehind 0 [some (.ref 76), some (.ref 3), some (.int c), none] [] h (some (.int 0), h, 0, 0)
  by_cases a1 : c = 41
  · have a4 : ¬ 0 < cn1 40 st := fun z => hc ⟨a1, z⟩
    refine RA.steps (i' := 2) (L' := [some (.ref 76), some (.ref 3), some (.int c), none]) (st' := [.int 41, .int c]) (h' := h) 2 rfl ?_
    refine RA.if2F rfl (decide_eq_false (fun z => z a1)) ?_
    refine RA.steps (i' := 4) (L' := [some (.ref 76), some (.ref 3), some (.int c), none]) (st' := [.ref 76]) (h' := h) 1 rfl ?_
    refine RA.getf rfl H.1 rfl f8 ?_
    refine RA.if1T rfl (decide_eq_true (show nI (cn1 40 st) ≤ 0 by rw [show cn1 40 st = 0 by omega]; decide +kernel)) ?_
    refine RA.steps (i' := 28) (L' := [some (.ref 76), some (.ref 3), some (.int c), none]) (st' := [.int c]) (h' := h) 1 rfl ?_
    refine RA.call0 (N := mX2_rankOf) (as := [.int c]) (rest := []) rfl rfl rfl (rankOf_x c) ?_
    refine RA.steps (i' := 31) (L' := [some (.ref 76), some (.ref 3), some (.int c), some (.int (nI (rk c)))]) (st' := [.int (nI (rk c))]) (h' := h) 2 rfl ?_
    refine RA.if1F rfl (decide_eq_false (fun z => z (by rw [hk]; exact nI_0))) ?_
    refine RA.steps (i' := 33) (L' := [some (.ref 76), some (.ref 3), some (.int c), some (.int (nI (rk c)))]) (st' := [.int 0]) (h' := h) 1 rfl ?_
    exact RA.ret rfl rfl
  · skip
    refine RA.steps (i' := 2) (L' := [some (.ref 76), some (.ref 3), some (.int c), none]) (st' := [.int 41, .int c]) (h' := h) 2 rfl ?_
    refine RA.if2T rfl (decide_eq_true a1) ?_
    refine RA.steps (i' := 28) (L' := [some (.ref 76), some (.ref 3), some (.int c), none]) (st' := [.int c]) (h' := h) 1 rfl ?_
    refine RA.call0 (N := mX2_rankOf) (as := [.int c]) (rest := []) rfl rfl rfl (rankOf_x c) ?_
    refine RA.steps (i' := 31) (L' := [some (.ref 76), some (.ref 3), some (.int c), some (.int (nI (rk c)))]) (st' := [.int (nI (rk c))]) (h' := h) 2 rfl ?_
    refine RA.if1F rfl (decide_eq_false (fun z => z (by rw [hk]; exact nI_0))) ?_
    refine RA.steps (i' := 33) (L' := [some (.ref 76), some (.ref 3), some (.int c), some (.int (nI (rk c)))]) (st' := [.int 0]) (h' := h) 1 rfl ?_
    exact RA.ret rfl rfl
end TRN
