/-! ===== the class's reader: what is written, and what stands ===== -/
section CMX
variable {E : pX} {Φ : Option Value → List pC → Prop} {d i : Nat} {M : pM} {L : pL} {rest : List Value} {h0 h : List pC} {gs ls : List Value} {sg : Nat → Int32}
/-- the reader, its signs, the draft and its code alone are others -/
def CM (h0 h : List pC) (gs ls : List Value) (sg : Nat → Int32) : Prop := pobj h 76 = some (2, gs) ∧ pobj h 3 = some (0, ls) ∧ pint h 78 = some (96, sg) ∧ (∃ cd : Nat → Int32, pint h 4 = some (96, cd)) ∧ ∀ b : Nat, b ≠ 76 → b ≠ 3 → b ≠ 78 → b ≠ 4 → h[b]? = h0[b]?
theorem CM.pi {b : Nat} {x : Nat × (Nat → Int32)} (H : CM h0 h gs ls sg) (h1 : b ≠ 76) (h2 : b ≠ 3) (h3 : b ≠ 78) (h4 : b ≠ 4) (hp : pint h0 b = some x) : pint h b = some x := by
  unfold pint at hp ⊢
  rw [H.2.2.2.2 b h1 h2 h3 h4]
  exact hp
theorem GX.pR {n pc y : Nat} {v w : Value} {ts : List Nat} (he : (m_code M)[i]? = some (pc, .putfield n, 2, y, v, ts)) (H : CM h0 h gs ls sg) (hf : pfit (ptyp 2 y) w = true) (k : ∀ h', CM h0 h' (gs.set y w) ls sg → GX E Φ (d + 1) M (i + 1) L rest h') : GX E Φ (d + 1) M i L (w :: .ref 76 :: rest) h := by
  obtain ⟨H1, H2, H3, ⟨cd, H4⟩, H5⟩ := H
  exact GX.lift (fun _ q => RA.putf he H1 rfl hf q) (k _ ⟨pobj_set (pobj_lt H1), (pobj_ne (by decide)).trans H2, (pint_ne (by decide)).trans H3, ⟨cd, (pint_ne (by decide)).trans H4⟩, fun b h1 h2 h3 h4 => by rw [List.getElem?_set_ne (Ne.symm h1)]; exact H5 b h1 h2 h3 h4⟩)
theorem GX.pW {n pc y : Nat} {v w : Value} {ts : List Nat} (he : (m_code M)[i]? = some (pc, .putfield n, 0, y, v, ts)) (H : CM h0 h gs ls sg) (hf : pfit (ptyp 0 y) w = true) (k : ∀ h', CM h0 h' gs (ls.set y w) sg → GX E Φ (d + 1) M (i + 1) L rest h') : GX E Φ (d + 1) M i L (w :: .ref 3 :: rest) h := by
  obtain ⟨H1, H2, H3, ⟨cd, H4⟩, H5⟩ := H
  exact GX.lift (fun _ q => RA.putf he H2 rfl hf q) (k _ ⟨(pobj_ne (by decide)).trans H1, pobj_set (pobj_lt H2), (pint_ne (by decide)).trans H3, ⟨cd, (pint_ne (by decide)).trans H4⟩, fun b h1 h2 h3 h4 => by rw [List.getElem?_set_ne (Ne.symm h2)]; exact H5 b h1 h2 h3 h4⟩)
theorem GX.sS {pc x y : Nat} {v : Value} {w j : Int32} {ts : List Nat} (he : (m_code M)[i]? = some (pc, .iastore, x, y, v, ts)) (H : CM h0 h gs ls sg) (hj : 0 ≤ j ∧ j.toNatClampNeg < 96) (k : ∀ h', CM h0 h' gs ls (va_up sg j.toNatClampNeg w) → GX E Φ (d + 1) M (i + 1) L rest h') : GX E Φ (d + 1) M i L (.int w :: .int j :: .ref 78 :: rest) h := by
  obtain ⟨H1, H2, H3, ⟨cd, H4⟩, H5⟩ := H
  exact GX.lift (fun _ q => RA.iast he H3 hj q) (k _ ⟨(pobj_ne (by decide)).trans H1, (pobj_ne (by decide)).trans H2, pint_set (pint_lt H3), ⟨cd, (pint_ne (by decide)).trans H4⟩, fun b h1 h2 h3 h4 => by rw [List.getElem?_set_ne (Ne.symm h3)]; exact H5 b h1 h2 h3 h4⟩)
theorem GX.sC {pc x y : Nat} {v : Value} {w j : Int32} {ts : List Nat} (he : (m_code M)[i]? = some (pc, .iastore, x, y, v, ts)) (H : CM h0 h gs ls sg) (hj : 0 ≤ j ∧ j.toNatClampNeg < 96) (k : ∀ h', CM h0 h' gs ls sg → GX E Φ (d + 1) M (i + 1) L rest h') : GX E Φ (d + 1) M i L (.int w :: .int j :: .ref 4 :: rest) h := by
  obtain ⟨H1, H2, H3, ⟨cd, H4⟩, H5⟩ := H
  exact GX.lift (fun _ q => RA.iast he H4 hj q) (k _ ⟨(pobj_ne (by decide)).trans H1, (pobj_ne (by decide)).trans H2, (pint_ne (by decide)).trans H3, ⟨_, pint_set (pint_lt H4)⟩, fun b h1 h2 h3 h4 => by rw [List.getElem?_set_ne (Ne.symm h4)]; exact H5 b h1 h2 h3 h4⟩)
def RF (gs : List Value) (n s b p gl tp br no wa : Int32) : Prop := gs[0]? = some (.ref 77) ∧ gs[1]? = some (.int n) ∧ gs[2]? = some (.int s) ∧ gs[3]? = some (.int b) ∧ gs[4]? = some (.int p) ∧ gs[5]? = some (.int gl) ∧ gs[6]? = some (.ref 78) ∧ gs[7]? = some (.int tp) ∧ gs[8]? = some (.int br) ∧ gs[9]? = some (.int no) ∧ gs[10]? = some (.int wa)
theorem RF.p2 {n s b p gl tp br no wa : Int32} (x : Int32) (F : RF gs n s b p gl tp br no wa) : RF (gs.set 2 (.int x)) n x b p gl tp br no wa := by
  obtain ⟨f0, f1, f2, f3, f4, f5, f6, f7, f8, f9, f10⟩ := F
  exact ⟨((fsn (by decide)).trans f0), ((fsn (by decide)).trans f1), (fset f2), ((fsn (by decide)).trans f3), ((fsn (by decide)).trans f4), ((fsn (by decide)).trans f5), ((fsn (by decide)).trans f6), ((fsn (by decide)).trans f7), ((fsn (by decide)).trans f8), ((fsn (by decide)).trans f9), ((fsn (by decide)).trans f10)⟩
theorem RF.p3 {n s b p gl tp br no wa : Int32} (x : Int32) (F : RF gs n s b p gl tp br no wa) : RF (gs.set 3 (.int x)) n s x p gl tp br no wa := by
  obtain ⟨f0, f1, f2, f3, f4, f5, f6, f7, f8, f9, f10⟩ := F
  exact ⟨((fsn (by decide)).trans f0), ((fsn (by decide)).trans f1), ((fsn (by decide)).trans f2), (fset f3), ((fsn (by decide)).trans f4), ((fsn (by decide)).trans f5), ((fsn (by decide)).trans f6), ((fsn (by decide)).trans f7), ((fsn (by decide)).trans f8), ((fsn (by decide)).trans f9), ((fsn (by decide)).trans f10)⟩
theorem RF.p4 {n s b p gl tp br no wa : Int32} (x : Int32) (F : RF gs n s b p gl tp br no wa) : RF (gs.set 4 (.int x)) n s b x gl tp br no wa := by
  obtain ⟨f0, f1, f2, f3, f4, f5, f6, f7, f8, f9, f10⟩ := F
  exact ⟨((fsn (by decide)).trans f0), ((fsn (by decide)).trans f1), ((fsn (by decide)).trans f2), ((fsn (by decide)).trans f3), (fset f4), ((fsn (by decide)).trans f5), ((fsn (by decide)).trans f6), ((fsn (by decide)).trans f7), ((fsn (by decide)).trans f8), ((fsn (by decide)).trans f9), ((fsn (by decide)).trans f10)⟩
theorem RF.p5 {n s b p gl tp br no wa : Int32} (x : Int32) (F : RF gs n s b p gl tp br no wa) : RF (gs.set 5 (.int x)) n s b p x tp br no wa := by
  obtain ⟨f0, f1, f2, f3, f4, f5, f6, f7, f8, f9, f10⟩ := F
  exact ⟨((fsn (by decide)).trans f0), ((fsn (by decide)).trans f1), ((fsn (by decide)).trans f2), ((fsn (by decide)).trans f3), ((fsn (by decide)).trans f4), (fset f5), ((fsn (by decide)).trans f6), ((fsn (by decide)).trans f7), ((fsn (by decide)).trans f8), ((fsn (by decide)).trans f9), ((fsn (by decide)).trans f10)⟩
theorem RF.p7 {n s b p gl tp br no wa : Int32} (x : Int32) (F : RF gs n s b p gl tp br no wa) : RF (gs.set 7 (.int x)) n s b p gl x br no wa := by
  obtain ⟨f0, f1, f2, f3, f4, f5, f6, f7, f8, f9, f10⟩ := F
  exact ⟨((fsn (by decide)).trans f0), ((fsn (by decide)).trans f1), ((fsn (by decide)).trans f2), ((fsn (by decide)).trans f3), ((fsn (by decide)).trans f4), ((fsn (by decide)).trans f5), ((fsn (by decide)).trans f6), (fset f7), ((fsn (by decide)).trans f8), ((fsn (by decide)).trans f9), ((fsn (by decide)).trans f10)⟩
theorem RF.p8 {n s b p gl tp br no wa : Int32} (x : Int32) (F : RF gs n s b p gl tp br no wa) : RF (gs.set 8 (.int x)) n s b p gl tp x no wa := by
  obtain ⟨f0, f1, f2, f3, f4, f5, f6, f7, f8, f9, f10⟩ := F
  exact ⟨((fsn (by decide)).trans f0), ((fsn (by decide)).trans f1), ((fsn (by decide)).trans f2), ((fsn (by decide)).trans f3), ((fsn (by decide)).trans f4), ((fsn (by decide)).trans f5), ((fsn (by decide)).trans f6), ((fsn (by decide)).trans f7), (fset f8), ((fsn (by decide)).trans f9), ((fsn (by decide)).trans f10)⟩
theorem RF.p9 {n s b p gl tp br no wa : Int32} (x : Int32) (F : RF gs n s b p gl tp br no wa) : RF (gs.set 9 (.int x)) n s b p gl tp br x wa := by
  obtain ⟨f0, f1, f2, f3, f4, f5, f6, f7, f8, f9, f10⟩ := F
  exact ⟨((fsn (by decide)).trans f0), ((fsn (by decide)).trans f1), ((fsn (by decide)).trans f2), ((fsn (by decide)).trans f3), ((fsn (by decide)).trans f4), ((fsn (by decide)).trans f5), ((fsn (by decide)).trans f6), ((fsn (by decide)).trans f7), ((fsn (by decide)).trans f8), (fset f9), ((fsn (by decide)).trans f10)⟩
theorem RF.p10 {n s b p gl tp br no wa : Int32} (x : Int32) (F : RF gs n s b p gl tp br no wa) : RF (gs.set 10 (.int x)) n s b p gl tp br no x := by
  obtain ⟨f0, f1, f2, f3, f4, f5, f6, f7, f8, f9, f10⟩ := F
  exact ⟨((fsn (by decide)).trans f0), ((fsn (by decide)).trans f1), ((fsn (by decide)).trans f2), ((fsn (by decide)).trans f3), ((fsn (by decide)).trans f4), ((fsn (by decide)).trans f5), ((fsn (by decide)).trans f6), ((fsn (by decide)).trans f7), ((fsn (by decide)).trans f8), ((fsn (by decide)).trans f9), (fset f10)⟩
theorem RF.s {gs : List Value} {n s s2 b p gl tp br no wa : Int32} (e : s = s2) (F : RF gs n s b p gl tp br no wa) : RF gs n s2 b p gl tp br no wa := by
  subst e
  exact F
def LF (ls : List Value) (ln key pc : Int32) : Prop := ls[0]? = some (.ref 4) ∧ ls[1]? = some (.int ln) ∧ ls[2]? = some (.int key) ∧ ls[3]? = some (.int pc)
theorem LF.p1 {ln key pc : Int32} (x : Int32) (F : LF ls ln key pc) : LF (ls.set 1 (.int x)) x key pc := by
  obtain ⟨w0, w1, w2, w3⟩ := F
  exact ⟨((fsn (by decide)).trans w0), (fset w1), ((fsn (by decide)).trans w2), ((fsn (by decide)).trans w3)⟩
theorem LF.p2 {ln key pc : Int32} (x : Int32) (F : LF ls ln key pc) : LF (ls.set 2 (.int x)) ln x pc := by
  obtain ⟨w0, w1, w2, w3⟩ := F
  exact ⟨((fsn (by decide)).trans w0), ((fsn (by decide)).trans w1), (fset w2), ((fsn (by decide)).trans w3)⟩
theorem LF.p3 {ln key pc : Int32} (x : Int32) (F : LF ls ln key pc) : LF (ls.set 3 (.int x)) ln key x := by
  obtain ⟨w0, w1, w2, w3⟩ := F
  exact ⟨((fsn (by decide)).trans w0), ((fsn (by decide)).trans w1), ((fsn (by decide)).trans w2), (fset w3)⟩
end CMX
/-! ===== nextWord of the class, exactly ===== -/
section NWX
variable {E : pX} {Φ : Option Value → List pC → Prop} {d : Nat} {h0 h : List pC} {f g : Nat → Int32} {ls : List Value} {sg : Nat → Int32}
theorem byA_x {n i : Nat} {gs : List Value} (H : CM h0 h gs ls sg) (f0 : gs[0]? = some (.ref 77)) (f1 : gs[1]? = some (.int (nI n))) (pt : pint h0 77 = some (96, f)) (fg : ∀ j : Nat, j < 96 → f j = g j) (hn : n ≤ 96) (hi : i ≤ 96) : Run prog E pV1 (d + 1) mX2_byteAt [.ref 76, .int (nI i)] h (some (.int (if i < n then g i else -1)), h, 0, 0) := by
  refine ⟨Nat.le_of_ble_eq_true rfl, ⟨_, _, rfl⟩, ?_⟩
  show RA prog E pV1 (d + 1) mX2_byteAt 0 [some (.ref 76), some (.int (nI i))] [] h (some (.int (if i < n then g i else -1)), h, 0, 0)
  by_cases c : i < n
  · rw [if_pos c]
    refine RA.steps (i' := 1) (L' := [some (.ref 76), some (.int (nI i))]) (st' := [.int (nI i)]) (h' := h) 1 rfl ?_
    refine RA.if1F rfl (decide_eq_false (Int32.not_lt.mpr (nI_cl (by omega)).1)) ?_
    refine RA.steps (i' := 4) (L' := [some (.ref 76), some (.int (nI i))]) (st' := [.ref 76, .int (nI i)]) (h' := h) 2 rfl ?_
    refine RA.getf rfl H.1 rfl f1 ?_
    refine RA.if2F rfl (decide_eq_false (Int32.not_le.mpr (nI_lt c (by omega)))) ?_
    refine RA.steps (i' := 8) (L' := [some (.ref 76), some (.int (nI i))]) (st' := [.ref 76, .int (nI i)]) (h' := h) 2 rfl ?_
    refine RA.getf rfl H.1 rfl f0 ?_
    refine RA.alenI rfl (H.pi (by decide) (by decide) (by decide) (by decide) pt) ?_
    refine RA.if2F rfl (decide_eq_false (Int32.not_le.mpr (nI_lt (show i < 96 by omega) (by decide)))) ?_
    refine RA.steps (i' := 12) (L' := [some (.ref 76), some (.int (nI i))]) (st' := [.ref 76]) (h' := h) 1 rfl ?_
    refine RA.getf rfl H.1 rfl f0 ?_
    refine RA.steps (i' := 14) (L' := [some (.ref 76), some (.int (nI i))]) (st' := [.int (nI i), .ref 77]) (h' := h) 1 rfl ?_
    refine RA.iald (w := (g i)) rfl (H.pi (by decide) (by decide) (by decide) (by decide) pt) ⟨(nI_cl (by omega)).1, by rw [(nI_cl (by omega)).2]; show i < 96; omega⟩ (by rw [(nI_cl (by omega)).2]; exact fg _ (by omega)) ?_
    refine RA.steps (i' := 17) (L' := [some (.ref 76), some (.int (nI i))]) (st' := [.int (g i)]) (h' := h) 1 rfl ?_
    exact RA.ret rfl rfl
  · rw [if_neg c]
    refine RA.steps (i' := 1) (L' := [some (.ref 76), some (.int (nI i))]) (st' := [.int (nI i)]) (h' := h) 1 rfl ?_
    refine RA.if1F rfl (decide_eq_false (Int32.not_lt.mpr (nI_cl (by omega)).1)) ?_
    refine RA.steps (i' := 4) (L' := [some (.ref 76), some (.int (nI i))]) (st' := [.ref 76, .int (nI i)]) (h' := h) 2 rfl ?_
    refine RA.getf rfl H.1 rfl f1 ?_
    refine RA.if2T rfl (decide_eq_true (nI_le (show n ≤ i by omega) (by omega))) ?_
    refine RA.steps (i' := 17) (L' := [some (.ref 76), some (.int (nI i))]) (st' := [.int (-1)]) (h' := h) 1 rfl ?_
    exact RA.ret rfl rfl
theorem isL2_x (c : Int32) : Run prog E pV1 (d + 1) mX2_isLetter [.int c] h (some (.int (if bL c then 1 else 0)), h, 0, 0) := by
  refine ⟨Nat.le_of_ble_eq_true rfl, ⟨_, _, rfl⟩, ?_⟩
  show RA prog E pV1 (d + 1) mX2_isLetter 0 [some (.int c)] [] h (some (.int (if bL c then 1 else 0)), h, 0, 0)
  by_cases c1 : c < 97
  · rw [if_neg (fun q => absurd q.1 (Int32.not_le.mpr c1))]
    refine RA.steps (i' := 2) (L' := [some (.int c)]) (st' := [.int 97, .int c]) (h' := h) 2 rfl ?_
    refine RA.if2T rfl (decide_eq_true c1) ?_
    refine RA.steps (i' := 9) (L' := [some (.int c)]) (st' := [.int 0]) (h' := h) 1 rfl ?_
    exact RA.ret rfl rfl
  by_cases c2 : (122 : Int32) < c
  · rw [if_neg (fun q => absurd q.2 (Int32.not_le.mpr c2))]
    refine RA.steps (i' := 2) (L' := [some (.int c)]) (st' := [.int 97, .int c]) (h' := h) 2 rfl ?_
    refine RA.if2F rfl (decide_eq_false c1) ?_
    refine RA.steps (i' := 5) (L' := [some (.int c)]) (st' := [.int 122, .int c]) (h' := h) 2 rfl ?_
    refine RA.if2T rfl (decide_eq_true c2) ?_
    refine RA.steps (i' := 9) (L' := [some (.int c)]) (st' := [.int 0]) (h' := h) 1 rfl ?_
    exact RA.ret rfl rfl
  · rw [if_pos ⟨Int32.not_lt.mp c1, Int32.not_lt.mp c2⟩]
    refine RA.steps (i' := 2) (L' := [some (.int c)]) (st' := [.int 97, .int c]) (h' := h) 2 rfl ?_
    refine RA.if2F rfl (decide_eq_false c1) ?_
    refine RA.steps (i' := 5) (L' := [some (.int c)]) (st' := [.int 122, .int c]) (h' := h) 2 rfl ?_
    refine RA.if2F rfl (decide_eq_false c2) ?_
    refine RA.steps (i' := 9) (L' := [some (.int c)]) (st' := [.int 1]) (h' := h) 2 rfl ?_
    exact RA.ret rfl rfl
theorem srt_x {n i : Nat} (hg : ∀ j : Nat, j < 96 → (0 : Int32) ≤ g j) (hn : n ≤ 96) : Run prog E pV1 (d + 2) mX2_sortOf [.int (if i < n then g i else -1)] h (some (.int (nI (kd g n i))), h, 0, 0) := by
  refine ⟨Nat.le_of_ble_eq_true rfl, ⟨_, _, rfl⟩, ?_⟩
  by_cases ci : i < n
  rotate_left
  · rw [if_neg ci, kd_0 ci]
    have c0 : (-1 : Int32) < 0 := by decide
    show RA prog E pV1 (d + 2) mX2_sortOf 0 [some (.int (-1))] [] h (some (.int (nI 0)), h, 0, 0)
    refine RA.steps (i' := 1) (L' := [some (.int (-1))]) (st' := [.int (-1)]) (h' := h) 1 rfl ?_
    refine RA.if1F rfl (decide_eq_false (Int32.not_le.mpr c0)) ?_
    refine RA.steps (i' := 3) (L' := [some (.int (-1))]) (st' := [.int 0]) (h' := h) 1 rfl ?_
    exact RA.ret rfl rfl
  rw [if_pos ci]
  have c0 : ¬ g i < 0 := Int32.not_lt.mpr (hg i (by omega))
  have r := isL2_x (E := E) (d := d) (h := h) (g i)
  by_cases cl : bL (g i)
  · rw [if_pos cl] at r
    rw [kd_1 ci cl]
    show RA prog E pV1 (d + 2) mX2_sortOf 0 [some (.int (g i))] [] h (some (.int (nI 1)), h, 0, 0)
    refine RA.steps (i' := 1) (L' := [some (.int (g i))]) (st' := [.int (g i)]) (h' := h) 1 rfl ?_
    refine RA.if1T rfl (decide_eq_true (Int32.not_lt.mp c0)) ?_
    refine RA.steps (i' := 5) (L' := [some (.int (g i))]) (st' := [.int (g i)]) (h' := h) 1 rfl ?_
    refine RA.call0 (N := mX2_isLetter) (as := [.int (g i)]) (rest := []) rfl rfl rfl r ?_
    refine RA.if1F rfl rfl ?_
    refine RA.steps (i' := 8) (L' := [some (.int (g i))]) (st' := [.int 1]) (h' := h) 1 rfl ?_
    exact RA.ret rfl rfl
  rw [if_neg cl] at r
  by_cases c1 : g i < 48
  · rw [kd_3 ci cl (fun q => absurd q.1 (Int32.not_le.mpr c1))]
    show RA prog E pV1 (d + 2) mX2_sortOf 0 [some (.int (g i))] [] h (some (.int (nI 3)), h, 0, 0)
    refine RA.steps (i' := 1) (L' := [some (.int (g i))]) (st' := [.int (g i)]) (h' := h) 1 rfl ?_
    refine RA.if1T rfl (decide_eq_true (Int32.not_lt.mp c0)) ?_
    refine RA.steps (i' := 5) (L' := [some (.int (g i))]) (st' := [.int (g i)]) (h' := h) 1 rfl ?_
    refine RA.call0 (N := mX2_isLetter) (as := [.int (g i)]) (rest := []) rfl rfl rfl r ?_
    refine RA.if1T rfl rfl ?_
    refine RA.steps (i' := 11) (L' := [some (.int (g i))]) (st' := [.int 48, .int (g i)]) (h' := h) 2 rfl ?_
    refine RA.if2T rfl (decide_eq_true c1) ?_
    refine RA.steps (i' := 18) (L' := [some (.int (g i))]) (st' := [.int 3]) (h' := h) 1 rfl ?_
    exact RA.ret rfl rfl
  by_cases c2 : (57 : Int32) < g i
  · rw [kd_3 ci cl (fun q => absurd q.2 (Int32.not_le.mpr c2))]
    show RA prog E pV1 (d + 2) mX2_sortOf 0 [some (.int (g i))] [] h (some (.int (nI 3)), h, 0, 0)
    refine RA.steps (i' := 1) (L' := [some (.int (g i))]) (st' := [.int (g i)]) (h' := h) 1 rfl ?_
    refine RA.if1T rfl (decide_eq_true (Int32.not_lt.mp c0)) ?_
    refine RA.steps (i' := 5) (L' := [some (.int (g i))]) (st' := [.int (g i)]) (h' := h) 1 rfl ?_
    refine RA.call0 (N := mX2_isLetter) (as := [.int (g i)]) (rest := []) rfl rfl rfl r ?_
    refine RA.if1T rfl rfl ?_
    refine RA.steps (i' := 11) (L' := [some (.int (g i))]) (st' := [.int 48, .int (g i)]) (h' := h) 2 rfl ?_
    refine RA.if2F rfl (decide_eq_false c1) ?_
    refine RA.steps (i' := 14) (L' := [some (.int (g i))]) (st' := [.int 57, .int (g i)]) (h' := h) 2 rfl ?_
    refine RA.if2T rfl (decide_eq_true c2) ?_
    refine RA.steps (i' := 18) (L' := [some (.int (g i))]) (st' := [.int 3]) (h' := h) 1 rfl ?_
    exact RA.ret rfl rfl
  · rw [kd_2 ci cl ⟨Int32.not_lt.mp c1, Int32.not_lt.mp c2⟩]
    show RA prog E pV1 (d + 2) mX2_sortOf 0 [some (.int (g i))] [] h (some (.int (nI 2)), h, 0, 0)
    refine RA.steps (i' := 1) (L' := [some (.int (g i))]) (st' := [.int (g i)]) (h' := h) 1 rfl ?_
    refine RA.if1T rfl (decide_eq_true (Int32.not_lt.mp c0)) ?_
    refine RA.steps (i' := 5) (L' := [some (.int (g i))]) (st' := [.int (g i)]) (h' := h) 1 rfl ?_
    refine RA.call0 (N := mX2_isLetter) (as := [.int (g i)]) (rest := []) rfl rfl rfl r ?_
    refine RA.if1T rfl rfl ?_
    refine RA.steps (i' := 11) (L' := [some (.int (g i))]) (st' := [.int 48, .int (g i)]) (h' := h) 2 rfl ?_
    refine RA.if2F rfl (decide_eq_false c1) ?_
    refine RA.steps (i' := 14) (L' := [some (.int (g i))]) (st' := [.int 57, .int (g i)]) (h' := h) 2 rfl ?_
    refine RA.if2F rfl (decide_eq_false c2) ?_
    refine RA.steps (i' := 18) (L' := [some (.int (g i))]) (st' := [.int 2]) (h' := h) 2 rfl ?_
    exact RA.ret rfl rfl
theorem nw_s1 {n p : Nat} {s b gl tp br no wa : Int32} {gs : List Value} (H : CM h0 h gs ls sg) (F : RF gs (nI n) s b (nI p) gl tp br no wa) (k : GX E Φ (d + 4) mX2_nextWord 15 [some (.ref 76), some (.int (if s = 1 ∨ s = 2 then (1 : Int32) else 0)), some (.int (nI p))] [] h) : GX E Φ (d + 4) mX2_nextWord 0 [some (.ref 76), none, none] [] h := by
  have ⟨f0, f1, f2, f3, f4, f5, f6, f7, f8, f9, f10⟩ := F
  by_cases c1 : s = 1
  · rw [if_pos (Or.inl c1)] at k
    refine GX.lift (fun _ q_ => RA.steps (i' := 1) (L' := [some (.ref 76), none, none]) (st' := [.ref 76]) (h' := h) 1 rfl q_) ?_
    refine GX.lift (fun _ q_ => RA.getf rfl H.1 rfl f2 q_) ?_
    refine GX.lift (fun _ q_ => RA.steps (i' := 3) (L' := [some (.ref 76), none, none]) (st' := [.int 1, .int s]) (h' := h) 1 rfl q_) ?_
    refine GX.lift (fun _ q_ => RA.if2T rfl (decide_eq_true c1) q_) ?_
    refine GX.lift (fun _ q_ => RA.steps (i' := 13) (L' := [some (.ref 76), some (.int 1), none]) (st' := [.ref 76]) (h' := h) 4 rfl q_) ?_
    refine GX.lift (fun _ q_ => RA.getf rfl H.1 rfl f4 q_) ?_
    refine GX.lift (fun _ q_ => RA.steps (i' := 15) (L' := [some (.ref 76), some (.int 1), some (.int (nI p))]) (st' := []) (h' := h) 1 rfl q_) ?_
    exact k
  by_cases c2 : s = 2
  · rw [if_pos (Or.inr c2)] at k
    refine GX.lift (fun _ q_ => RA.steps (i' := 1) (L' := [some (.ref 76), none, none]) (st' := [.ref 76]) (h' := h) 1 rfl q_) ?_
    refine GX.lift (fun _ q_ => RA.getf rfl H.1 rfl f2 q_) ?_
    refine GX.lift (fun _ q_ => RA.steps (i' := 3) (L' := [some (.ref 76), none, none]) (st' := [.int 1, .int s]) (h' := h) 1 rfl q_) ?_
    refine GX.lift (fun _ q_ => RA.if2F rfl (decide_eq_false c1) q_) ?_
    refine GX.lift (fun _ q_ => RA.steps (i' := 5) (L' := [some (.ref 76), none, none]) (st' := [.ref 76]) (h' := h) 1 rfl q_) ?_
    refine GX.lift (fun _ q_ => RA.getf rfl H.1 rfl f2 q_) ?_
    refine GX.lift (fun _ q_ => RA.steps (i' := 7) (L' := [some (.ref 76), none, none]) (st' := [.int 2, .int s]) (h' := h) 1 rfl q_) ?_
    refine GX.lift (fun _ q_ => RA.if2F rfl (decide_eq_false (fun z => z c2)) q_) ?_
    refine GX.lift (fun _ q_ => RA.steps (i' := 13) (L' := [some (.ref 76), some (.int 1), none]) (st' := [.ref 76]) (h' := h) 4 rfl q_) ?_
    refine GX.lift (fun _ q_ => RA.getf rfl H.1 rfl f4 q_) ?_
    refine GX.lift (fun _ q_ => RA.steps (i' := 15) (L' := [some (.ref 76), some (.int 1), some (.int (nI p))]) (st' := []) (h' := h) 1 rfl q_) ?_
    exact k
  · rw [if_neg (fun z => z.elim c1 c2)] at k
    refine GX.lift (fun _ q_ => RA.steps (i' := 1) (L' := [some (.ref 76), none, none]) (st' := [.ref 76]) (h' := h) 1 rfl q_) ?_
    refine GX.lift (fun _ q_ => RA.getf rfl H.1 rfl f2 q_) ?_
    refine GX.lift (fun _ q_ => RA.steps (i' := 3) (L' := [some (.ref 76), none, none]) (st' := [.int 1, .int s]) (h' := h) 1 rfl q_) ?_
    refine GX.lift (fun _ q_ => RA.if2F rfl (decide_eq_false c1) q_) ?_
    refine GX.lift (fun _ q_ => RA.steps (i' := 5) (L' := [some (.ref 76), none, none]) (st' := [.ref 76]) (h' := h) 1 rfl q_) ?_
    refine GX.lift (fun _ q_ => RA.getf rfl H.1 rfl f2 q_) ?_
    refine GX.lift (fun _ q_ => RA.steps (i' := 7) (L' := [some (.ref 76), none, none]) (st' := [.int 2, .int s]) (h' := h) 1 rfl q_) ?_
    refine GX.lift (fun _ q_ => RA.if2T rfl (decide_eq_true c2) q_) ?_
    refine GX.lift (fun _ q_ => RA.steps (i' := 13) (L' := [some (.ref 76), some (.int 0), none]) (st' := [.ref 76]) (h' := h) 3 rfl q_) ?_
    refine GX.lift (fun _ q_ => RA.getf rfl H.1 rfl f4 q_) ?_
    refine GX.lift (fun _ q_ => RA.steps (i' := 15) (L' := [some (.ref 76), some (.int 0), some (.int (nI p))]) (st' := []) (h' := h) 1 rfl q_) ?_
    exact k
theorem nw_s2 {n : Nat} {s b gl tp br no wa : Int32} {x1 x2 : Option Value} (pt : pint h0 77 = some (96, f)) (fg : ∀ j : Nat, j < 96 → f j = g j) (hn : n ≤ 96) : ∀ (m q : Nat) (h : List pC) (gs : List Value), CM h0 h gs ls sg → RF gs (nI n) s b (nI q) gl tp br no wa → q + m = n → (∀ (h' : List pC) (gs' : List Value), CM h0 h' gs' ls sg → RF gs' (nI n) s b (nI (skp g n m q)) gl tp br no wa → GX E Φ (d + 4) mX2_nextWord 33 [some (.ref 76), x1, x2] [] h') → GX E Φ (d + 4) mX2_nextWord 15 [some (.ref 76), x1, x2] [] h := by
  intro m
  induction m with
  | zero =>
    intro q h gs H F hq K
    have ⟨f0, f1, f2, f3, f4, f5, f6, f7, f8, f9, f10⟩ := F
    refine GX.lift (fun _ q_ => RA.steps (i' := 16) (L' := [some (.ref 76), x1, x2]) (st' := [.ref 76]) (h' := h) 1 rfl q_) ?_
    refine GX.lift (fun _ q_ => RA.getf rfl H.1 rfl f4 q_) ?_
    refine GX.lift (fun _ q_ => RA.steps (i' := 18) (L' := [some (.ref 76), x1, x2]) (st' := [.ref 76, .int (nI q)]) (h' := h) 1 rfl q_) ?_
    refine GX.lift (fun _ q_ => RA.getf rfl H.1 rfl f1 q_) ?_
    refine GX.lift (fun _ q_ => RA.if2T rfl (decide_eq_true (nI_le (show n ≤ q by omega) (by omega))) q_) ?_
    exact K _ _ H F
  | succ m ih =>
    intro q h gs H F hq K
    have ⟨f0, f1, f2, f3, f4, f5, f6, f7, f8, f9, f10⟩ := F
    have r := byA_x (E := E) (d := d + 2) (i := q) H f0 f1 pt fg hn (show q ≤ 96 by omega)
    rw [if_pos (show q < n by omega)] at r
    refine GX.lift (fun _ q_ => RA.steps (i' := 16) (L' := [some (.ref 76), x1, x2]) (st' := [.ref 76]) (h' := h) 1 rfl q_) ?_
    refine GX.lift (fun _ q_ => RA.getf rfl H.1 rfl f4 q_) ?_
    refine GX.lift (fun _ q_ => RA.steps (i' := 18) (L' := [some (.ref 76), x1, x2]) (st' := [.ref 76, .int (nI q)]) (h' := h) 1 rfl q_) ?_
    refine GX.lift (fun _ q_ => RA.getf rfl H.1 rfl f1 q_) ?_
    refine GX.lift (fun _ q_ => RA.if2F rfl (decide_eq_false (Int32.not_le.mpr (nI_lt (show q < n by omega) (by omega)))) q_) ?_
    refine GX.lift (fun _ q_ => RA.steps (i' := 22) (L' := [some (.ref 76), x1, x2]) (st' := [.ref 76, .ref 76]) (h' := h) 2 rfl q_) ?_
    refine GX.lift (fun _ q_ => RA.getf rfl H.1 rfl f4 q_) ?_
    refine GX.lift (fun _ q_ => RA.call0 (N := mX2_byteAt) (as := [.ref 76, .int (nI q)]) (rest := []) rfl rfl (pcallV rfl rfl H.1 rfl rfl (Nat.le_of_ble_eq_true rfl)) r q_) ?_
    refine GX.lift (fun _ q_ => RA.steps (i' := 25) (L' := [some (.ref 76), x1, x2]) (st' := [.int 32, .int (g q)]) (h' := h) 1 rfl q_) ?_
    by_cases c : g q = 32
    · rw [skp_s, if_pos ⟨by omega, c⟩] at K
      refine GX.lift (fun _ q_ => RA.if2F rfl (decide_eq_false (fun z => z c)) q_) ?_
      refine GX.lift (fun _ q_ => RA.steps (i' := 28) (L' := [some (.ref 76), x1, x2]) (st' := [.ref 76, .ref 76]) (h' := h) 2 rfl q_) ?_
      refine GX.lift (fun _ q_ => RA.getf rfl H.1 rfl f4 q_) ?_
      refine GX.lift (fun _ q_ => RA.steps (i' := 31) (L' := [some (.ref 76), x1, x2]) (st' := [.int ((nI q) + 1), .ref 76]) (h' := h) 2 rfl q_) ?_
      rw [(nI_1 q)]
      refine GX.pR rfl H rfl (fun h_1 H_1 => ?_)
      refine GX.lift (fun _ q_ => RA.steps (i' := 15) (L' := [some (.ref 76), x1, x2]) (st' := []) (h' := h_1) 1 rfl q_) ?_
      exact ih (q + 1) _ _ H_1 (F.p4 (nI (q + 1))) (by omega) K
    · rw [skp_s, if_neg (fun z => c z.2)] at K
      refine GX.lift (fun _ q_ => RA.if2T rfl (decide_eq_true c) q_) ?_
      exact K _ _ H F
theorem nw_s5 {n : Nat} {k : Nat} {b gl tp br no wa : Int32} {x1 x2 : Option Value} (pt : pint h0 77 = some (96, f)) (fg : ∀ j : Nat, j < 96 → f j = g j) (hn : n ≤ 96) (hg : ∀ j : Nat, j < 96 → (0 : Int32) ≤ g j) (k3 : k ≠ 3) (k4 : k ≤ 3) : ∀ (m q : Nat) (h : List pC) (gs : List Value), CM h0 h gs ls sg → RF gs (nI n) (nI k) b (nI q) gl tp br no wa → q + m = n → (∀ (h' : List pC) (gs' : List Value), CM h0 h' gs' ls sg → RF gs' (nI n) (nI k) b (nI (rnk g n k m q)) gl tp br no wa → GX E Φ (d + 4) mX2_nextWord 88 [some (.ref 76), x1, x2] [] h') → GX E Φ (d + 4) mX2_nextWord 64 [some (.ref 76), x1, x2] [] h := by
  intro m
  induction m with
  | zero =>
    intro q h gs H F hq K
    have ⟨f0, f1, f2, f3, f4, f5, f6, f7, f8, f9, f10⟩ := F
    refine GX.lift (fun _ q_ => RA.steps (i' := 65) (L' := [some (.ref 76), x1, x2]) (st' := [.ref 76]) (h' := h) 1 rfl q_) ?_
    refine GX.lift (fun _ q_ => RA.getf rfl H.1 rfl f2 q_) ?_
    refine GX.lift (fun _ q_ => RA.steps (i' := 67) (L' := [some (.ref 76), x1, x2]) (st' := [.int 3, .int (nI k)]) (h' := h) 1 rfl q_) ?_
    refine GX.lift (fun _ q_ => RA.if2F rfl (decide_eq_false (fun z => k3 ((nI_eq (by omega) (by decide)).mp (show nI k = nI 3 from z)))) q_) ?_
    refine GX.lift (fun _ q_ => RA.steps (i' := 69) (L' := [some (.ref 76), x1, x2]) (st' := [.ref 76]) (h' := h) 1 rfl q_) ?_
    refine GX.lift (fun _ q_ => RA.getf rfl H.1 rfl f4 q_) ?_
    refine GX.lift (fun _ q_ => RA.steps (i' := 71) (L' := [some (.ref 76), x1, x2]) (st' := [.ref 76, .int (nI q)]) (h' := h) 1 rfl q_) ?_
    refine GX.lift (fun _ q_ => RA.getf rfl H.1 rfl f1 q_) ?_
    refine GX.lift (fun _ q_ => RA.if2T rfl (decide_eq_true (nI_le (show n ≤ q by omega) (by omega))) q_) ?_
    exact K _ _ H F
  | succ m ih =>
    intro q h gs H F hq K
    have ⟨f0, f1, f2, f3, f4, f5, f6, f7, f8, f9, f10⟩ := F
    have r := byA_x (E := E) (d := d + 2) (i := q) H f0 f1 pt fg hn (show q ≤ 96 by omega)
    have r2 := srt_x (E := E) (d := d + 1) (h := h) (n := n) (i := q) hg hn
    refine GX.lift (fun _ q_ => RA.steps (i' := 65) (L' := [some (.ref 76), x1, x2]) (st' := [.ref 76]) (h' := h) 1 rfl q_) ?_
    refine GX.lift (fun _ q_ => RA.getf rfl H.1 rfl f2 q_) ?_
    refine GX.lift (fun _ q_ => RA.steps (i' := 67) (L' := [some (.ref 76), x1, x2]) (st' := [.int 3, .int (nI k)]) (h' := h) 1 rfl q_) ?_
    refine GX.lift (fun _ q_ => RA.if2F rfl (decide_eq_false (fun z => k3 ((nI_eq (by omega) (by decide)).mp (show nI k = nI 3 from z)))) q_) ?_
    refine GX.lift (fun _ q_ => RA.steps (i' := 69) (L' := [some (.ref 76), x1, x2]) (st' := [.ref 76]) (h' := h) 1 rfl q_) ?_
    refine GX.lift (fun _ q_ => RA.getf rfl H.1 rfl f4 q_) ?_
    refine GX.lift (fun _ q_ => RA.steps (i' := 71) (L' := [some (.ref 76), x1, x2]) (st' := [.ref 76, .int (nI q)]) (h' := h) 1 rfl q_) ?_
    refine GX.lift (fun _ q_ => RA.getf rfl H.1 rfl f1 q_) ?_
    refine GX.lift (fun _ q_ => RA.if2F rfl (decide_eq_false (Int32.not_le.mpr (nI_lt (show q < n by omega) (by omega)))) q_) ?_
    refine GX.lift (fun _ q_ => RA.steps (i' := 75) (L' := [some (.ref 76), x1, x2]) (st' := [.ref 76, .ref 76]) (h' := h) 2 rfl q_) ?_
    refine GX.lift (fun _ q_ => RA.getf rfl H.1 rfl f4 q_) ?_
    refine GX.lift (fun _ q_ => RA.call0 (N := mX2_byteAt) (as := [.ref 76, .int (nI q)]) (rest := []) rfl rfl (pcallV rfl rfl H.1 rfl rfl (Nat.le_of_ble_eq_true rfl)) r q_) ?_
    refine GX.lift (fun _ q_ => RA.call0 (N := mX2_sortOf) (as := [.int (if q < n then g q else -1)]) (rest := []) rfl rfl rfl r2 q_) ?_
    refine GX.lift (fun _ q_ => RA.steps (i' := 79) (L' := [some (.ref 76), x1, x2]) (st' := [.ref 76, .int (nI (kd g n q))]) (h' := h) 1 rfl q_) ?_
    refine GX.lift (fun _ q_ => RA.getf rfl H.1 rfl f2 q_) ?_
    have k4 : kd g n q ≤ 3 := by rcases kd_cases g n q with z | z | z | z <;> omega
    by_cases c : kd g n q = k
    · rw [rnk_s, if_pos c] at K
      refine GX.lift (fun _ q_ => RA.if2F rfl (decide_eq_false (fun z => z (by rw [c]))) q_) ?_
      refine GX.lift (fun _ q_ => RA.steps (i' := 83) (L' := [some (.ref 76), x1, x2]) (st' := [.ref 76, .ref 76]) (h' := h) 2 rfl q_) ?_
      refine GX.lift (fun _ q_ => RA.getf rfl H.1 rfl f4 q_) ?_
      refine GX.lift (fun _ q_ => RA.steps (i' := 86) (L' := [some (.ref 76), x1, x2]) (st' := [.int ((nI q) + 1), .ref 76]) (h' := h) 2 rfl q_) ?_
      rw [(nI_1 q)]
      refine GX.pR rfl H rfl (fun h_1 H_1 => ?_)
      refine GX.lift (fun _ q_ => RA.steps (i' := 64) (L' := [some (.ref 76), x1, x2]) (st' := []) (h' := h_1) 1 rfl q_) ?_
      exact ih (q + 1) _ _ H_1 (F.p4 (nI (q + 1))) (by omega) K
    · rw [rnk_s, if_neg c] at K
      refine GX.lift (fun _ q_ => RA.if2T rfl (decide_eq_true (fun z => c ((nI_eq (by omega) (by omega)).mp z))) q_) ?_
      exact K _ _ H F
theorem nw_s3 {n p q : Nat} {s b gl tp br no wa x0 : Int32} {gs : List Value} (pt : pint h0 77 = some (96, f)) (fg : ∀ j : Nat, j < 96 → f j = g j) (hn : n ≤ 96) (hg : ∀ j : Nat, j < 96 → (0 : Int32) ≤ g j) (hp : p ≤ 96) (hq : q ≤ n) (H : CM h0 h gs ls sg) (F : RF gs (nI n) s b (nI q) gl tp br no wa) (K : ∀ (h' : List pC) (gs' : List Value), CM h0 h' gs' ls sg → RF gs' (nI n) (nI (kd g n q)) (nI q) (nI (wEnd g n q)) (if x0 = 0 then (0 : Int32) else if p = q then 1 else 0) tp br no wa → Φ none h') : GX E Φ (d + 4) mX2_nextWord 33 [some (.ref 76), some (.int x0), some (.int (nI p))] [] h := by
  generalize hgl0 : (if x0 = 0 then (0 : Int32) else if p = q then 1 else 0) = gl0 at K
  have ⟨f0, f1, f2, f3, f4, f5, f6, f7, f8, f9, f10⟩ := F
  have el := wEnd_le (g := g) (n := n) (b := q) hq
  have r2 := fun h : List pC => srt_x (E := E) (d := d + 1) (h := h) (n := n) (i := q) hg hn
  refine GX.lift (fun _ q_ => RA.steps (i' := 35) (L' := [some (.ref 76), some (.int x0), some (.int (nI p))]) (st' := [.ref 76, .ref 76]) (h' := h) 2 rfl q_) ?_
  refine GX.lift (fun _ q_ => RA.getf rfl H.1 rfl f4 q_) ?_
  refine GX.pR rfl H rfl (fun h_1 H_1 => ?_)
  refine GX.lift (fun _ q_ => RA.steps (i' := 40) (L' := [some (.ref 76), some (.int x0), some (.int (nI p))]) (st' := [.ref 76, .ref 76, .ref 76]) (h' := h_1) 3 rfl q_) ?_
  refine GX.lift (fun _ q_ => RA.getf rfl H_1.1 rfl (fset f3) q_) ?_
  have r := byA_x (E := E) (d := d + 2) (i := q) H_1 ((fsn (by decide)).trans f0) ((fsn (by decide)).trans f1) pt fg hn (show q ≤ 96 by omega)
  refine GX.lift (fun _ q_ => RA.call0 (N := mX2_byteAt) (as := [.ref 76, .int (nI q)]) (rest := [.ref 76]) rfl rfl (pcallV rfl rfl H_1.1 rfl rfl (Nat.le_of_ble_eq_true rfl)) r q_) ?_
  refine GX.lift (fun _ q_ => RA.call0 (N := mX2_sortOf) (as := [.int (if q < n then g q else -1)]) (rest := [.ref 76]) rfl rfl rfl (r2 h_1) q_) ?_
  refine GX.pR rfl H_1 rfl (fun h_2 H_2 => ?_)
  refine GX.lift (fun _ q_ => RA.steps (i' := 46) (L' := [some (.ref 76), some (.int x0), some (.int (nI p))]) (st' := [.int x0, .ref 76]) (h' := h_2) 2 rfl q_) ?_
  have hgl := hgl0
  by_cases cx : x0 = 0
  · rw [if_pos cx] at hgl
    subst hgl
    refine GX.lift (fun _ q_ => RA.if1T rfl (decide_eq_true cx) q_) ?_
    refine GX.lift (fun _ q_ => RA.steps (i' := 54) (L' := [some (.ref 76), some (.int x0), some (.int (nI p))]) (st' := [.int 0, .ref 76]) (h' := h_2) 1 rfl q_) ?_
    refine GX.pR rfl H_2 rfl (fun h_3 H_3 => ?_)
    rcases kd_cases g n q with ⟨c, ek⟩ | ⟨c, cl, ek⟩ | ⟨c, cl, cd, ek⟩ | ⟨c, cl, cd, ek⟩
    · refine GX.lift (fun _ q_ => RA.steps (i' := 56) (L' := [some (.ref 76), some (.int x0), some (.int (nI p))]) (st' := [.ref 76]) (h' := h_3) 1 rfl q_) ?_
      refine GX.lift (fun _ q_ => RA.getf rfl H_3.1 rfl ((fsn (by decide)).trans (fset ((fsn (by decide)).trans f2))) q_) ?_
      refine GX.lift (fun _ q_ => RA.if1T rfl (decide_eq_true (show nI (kd g n q) = 0 by rw [ek]; exact nI_0)) q_) ?_
      refine GX.lift (fun _ q_ => RA.steps (i' := 65) (L' := [some (.ref 76), some (.int x0), some (.int (nI p))]) (st' := [.ref 76]) (h' := h_3) 1 rfl q_) ?_
      refine GX.lift (fun _ q_ => RA.getf rfl H_3.1 rfl ((fsn (by decide)).trans (fset ((fsn (by decide)).trans f2))) q_) ?_
      refine GX.lift (fun _ q_ => RA.steps (i' := 67) (L' := [some (.ref 76), some (.int x0), some (.int (nI p))]) (st' := [.int 3, .int (nI (kd g n q))]) (h' := h_3) 1 rfl q_) ?_
      refine GX.lift (fun _ q_ => RA.if2F rfl (decide_eq_false (fun z => absurd ((nI_eq (by omega) (by decide)).mp (show nI (kd g n q) = nI 3 from z)) (by omega))) q_) ?_
      refine GX.lift (fun _ q_ => RA.steps (i' := 69) (L' := [some (.ref 76), some (.int x0), some (.int (nI p))]) (st' := [.ref 76]) (h' := h_3) 1 rfl q_) ?_
      refine GX.lift (fun _ q_ => RA.getf rfl H_3.1 rfl ((fsn (by decide)).trans ((fsn (by decide)).trans ((fsn (by decide)).trans f4))) q_) ?_
      refine GX.lift (fun _ q_ => RA.steps (i' := 71) (L' := [some (.ref 76), some (.int x0), some (.int (nI p))]) (st' := [.ref 76, .int (nI q)]) (h' := h_3) 1 rfl q_) ?_
      refine GX.lift (fun _ q_ => RA.getf rfl H_3.1 rfl ((fsn (by decide)).trans ((fsn (by decide)).trans ((fsn (by decide)).trans f1))) q_) ?_
      refine GX.lift (fun _ q_ => RA.if2T rfl (decide_eq_true (nI_le (show n ≤ q by omega) (by omega))) q_) ?_
      refine GX.ret rfl rfl ?_
      exact K _ _ H_3 (by rw [wEnd_0 ek]; exact (((F.p3 (nI q)).p2 (nI (kd g n q))).p5 0))
    · refine GX.lift (fun _ q_ => RA.steps (i' := 56) (L' := [some (.ref 76), some (.int x0), some (.int (nI p))]) (st' := [.ref 76]) (h' := h_3) 1 rfl q_) ?_
      refine GX.lift (fun _ q_ => RA.getf rfl H_3.1 rfl ((fsn (by decide)).trans (fset ((fsn (by decide)).trans f2))) q_) ?_
      refine GX.lift (fun _ q_ => RA.if1F rfl (decide_eq_false (fun z => absurd ((nI_eq (by omega) (by decide)).mp (show nI (kd g n q) = nI 0 from z.trans nI_0.symm)) (by omega))) q_) ?_
      refine GX.lift (fun _ q_ => RA.steps (i' := 60) (L' := [some (.ref 76), some (.int x0), some (.int (nI p))]) (st' := [.ref 76, .ref 76]) (h' := h_3) 2 rfl q_) ?_
      refine GX.lift (fun _ q_ => RA.getf rfl H_3.1 rfl ((fsn (by decide)).trans ((fsn (by decide)).trans ((fsn (by decide)).trans f4))) q_) ?_
      refine GX.lift (fun _ q_ => RA.steps (i' := 63) (L' := [some (.ref 76), some (.int x0), some (.int (nI p))]) (st' := [.int ((nI q) + 1), .ref 76]) (h' := h_3) 2 rfl q_) ?_
      rw [(nI_1 q)]
      refine GX.pR rfl H_3 rfl (fun h_4 H_4 => ?_)
      obtain ⟨m, hm⟩ : ∃ m : Nat, n - q = m + 1 := ⟨n - q - 1, by omega⟩
      have ee := wEnd_k ek (by decide) (by decide)
      rw [hm, rnk_s, if_pos ek] at ee
      refine nw_s5 (k := 1) pt fg hn hg (by decide) (by decide) m (q + 1) _ _ H_4 (RF.s (congrArg nI ek) ((((F.p3 (nI q)).p2 (nI (kd g n q))).p5 0).p4 (nI (q + 1)))) (by omega) (fun h' gs' H' F' => ?_)
      refine GX.ret rfl rfl ?_
      exact K _ _ H' (by rw [ee, ek]; exact F')
    · refine GX.lift (fun _ q_ => RA.steps (i' := 56) (L' := [some (.ref 76), some (.int x0), some (.int (nI p))]) (st' := [.ref 76]) (h' := h_3) 1 rfl q_) ?_
      refine GX.lift (fun _ q_ => RA.getf rfl H_3.1 rfl ((fsn (by decide)).trans (fset ((fsn (by decide)).trans f2))) q_) ?_
      refine GX.lift (fun _ q_ => RA.if1F rfl (decide_eq_false (fun z => absurd ((nI_eq (by omega) (by decide)).mp (show nI (kd g n q) = nI 0 from z.trans nI_0.symm)) (by omega))) q_) ?_
      refine GX.lift (fun _ q_ => RA.steps (i' := 60) (L' := [some (.ref 76), some (.int x0), some (.int (nI p))]) (st' := [.ref 76, .ref 76]) (h' := h_3) 2 rfl q_) ?_
      refine GX.lift (fun _ q_ => RA.getf rfl H_3.1 rfl ((fsn (by decide)).trans ((fsn (by decide)).trans ((fsn (by decide)).trans f4))) q_) ?_
      refine GX.lift (fun _ q_ => RA.steps (i' := 63) (L' := [some (.ref 76), some (.int x0), some (.int (nI p))]) (st' := [.int ((nI q) + 1), .ref 76]) (h' := h_3) 2 rfl q_) ?_
      rw [(nI_1 q)]
      refine GX.pR rfl H_3 rfl (fun h_4 H_4 => ?_)
      obtain ⟨m, hm⟩ : ∃ m : Nat, n - q = m + 1 := ⟨n - q - 1, by omega⟩
      have ee := wEnd_k ek (by decide) (by decide)
      rw [hm, rnk_s, if_pos ek] at ee
      refine nw_s5 (k := 2) pt fg hn hg (by decide) (by decide) m (q + 1) _ _ H_4 (RF.s (congrArg nI ek) ((((F.p3 (nI q)).p2 (nI (kd g n q))).p5 0).p4 (nI (q + 1)))) (by omega) (fun h' gs' H' F' => ?_)
      refine GX.ret rfl rfl ?_
      exact K _ _ H' (by rw [ee, ek]; exact F')
    · refine GX.lift (fun _ q_ => RA.steps (i' := 56) (L' := [some (.ref 76), some (.int x0), some (.int (nI p))]) (st' := [.ref 76]) (h' := h_3) 1 rfl q_) ?_
      refine GX.lift (fun _ q_ => RA.getf rfl H_3.1 rfl ((fsn (by decide)).trans (fset ((fsn (by decide)).trans f2))) q_) ?_
      refine GX.lift (fun _ q_ => RA.if1F rfl (decide_eq_false (fun z => absurd ((nI_eq (by omega) (by decide)).mp (show nI (kd g n q) = nI 0 from z.trans nI_0.symm)) (by omega))) q_) ?_
      refine GX.lift (fun _ q_ => RA.steps (i' := 60) (L' := [some (.ref 76), some (.int x0), some (.int (nI p))]) (st' := [.ref 76, .ref 76]) (h' := h_3) 2 rfl q_) ?_
      refine GX.lift (fun _ q_ => RA.getf rfl H_3.1 rfl ((fsn (by decide)).trans ((fsn (by decide)).trans ((fsn (by decide)).trans f4))) q_) ?_
      refine GX.lift (fun _ q_ => RA.steps (i' := 63) (L' := [some (.ref 76), some (.int x0), some (.int (nI p))]) (st' := [.int ((nI q) + 1), .ref 76]) (h' := h_3) 2 rfl q_) ?_
      rw [(nI_1 q)]
      refine GX.pR rfl H_3 rfl (fun h_4 H_4 => ?_)
      refine GX.lift (fun _ q_ => RA.steps (i' := 65) (L' := [some (.ref 76), some (.int x0), some (.int (nI p))]) (st' := [.ref 76]) (h' := h_4) 1 rfl q_) ?_
      refine GX.lift (fun _ q_ => RA.getf rfl H_4.1 rfl ((fsn (by decide)).trans ((fsn (by decide)).trans (fset ((fsn (by decide)).trans f2)))) q_) ?_
      refine GX.lift (fun _ q_ => RA.steps (i' := 67) (L' := [some (.ref 76), some (.int x0), some (.int (nI p))]) (st' := [.int 3, .int (nI (kd g n q))]) (h' := h_4) 1 rfl q_) ?_
      refine GX.lift (fun _ q_ => RA.if2T rfl (decide_eq_true (show nI (kd g n q) = nI 3 by rw [ek])) q_) ?_
      refine GX.ret rfl rfl ?_
      exact K _ _ H_4 (by rw [wEnd_3 ek]; exact ((((F.p3 (nI q)).p2 (nI (kd g n q))).p5 0).p4 (nI (q + 1))))
  · rw [if_neg cx] at hgl
    refine GX.lift (fun _ q_ => RA.if1F rfl (decide_eq_false cx) q_) ?_
    refine GX.lift (fun _ q_ => RA.steps (i' := 48) (L' := [some (.ref 76), some (.int x0), some (.int (nI p))]) (st' := [.ref 76, .ref 76]) (h' := h_2) 1 rfl q_) ?_
    refine GX.lift (fun _ q_ => RA.getf rfl H_2.1 rfl ((fsn (by decide)).trans (fset f3)) q_) ?_
    refine GX.lift (fun _ q_ => RA.steps (i' := 50) (L' := [some (.ref 76), some (.int x0), some (.int (nI p))]) (st' := [.int (nI p), .int (nI q), .ref 76]) (h' := h_2) 1 rfl q_) ?_
    by_cases cp : p = q
    · rw [if_pos cp] at hgl
      subst hgl
      refine GX.lift (fun _ q_ => RA.if2F rfl (decide_eq_false (fun z => z (by rw [cp]))) q_) ?_
      refine GX.lift (fun _ q_ => RA.steps (i' := 54) (L' := [some (.ref 76), some (.int x0), some (.int (nI p))]) (st' := [.int 1, .ref 76]) (h' := h_2) 2 rfl q_) ?_
      refine GX.pR rfl H_2 rfl (fun h_3 H_3 => ?_)
      rcases kd_cases g n q with ⟨c, ek⟩ | ⟨c, cl, ek⟩ | ⟨c, cl, cd, ek⟩ | ⟨c, cl, cd, ek⟩
      · refine GX.lift (fun _ q_ => RA.steps (i' := 56) (L' := [some (.ref 76), some (.int x0), some (.int (nI p))]) (st' := [.ref 76]) (h' := h_3) 1 rfl q_) ?_
        refine GX.lift (fun _ q_ => RA.getf rfl H_3.1 rfl ((fsn (by decide)).trans (fset ((fsn (by decide)).trans f2))) q_) ?_
        refine GX.lift (fun _ q_ => RA.if1T rfl (decide_eq_true (show nI (kd g n q) = 0 by rw [ek]; exact nI_0)) q_) ?_
        refine GX.lift (fun _ q_ => RA.steps (i' := 65) (L' := [some (.ref 76), some (.int x0), some (.int (nI p))]) (st' := [.ref 76]) (h' := h_3) 1 rfl q_) ?_
        refine GX.lift (fun _ q_ => RA.getf rfl H_3.1 rfl ((fsn (by decide)).trans (fset ((fsn (by decide)).trans f2))) q_) ?_
        refine GX.lift (fun _ q_ => RA.steps (i' := 67) (L' := [some (.ref 76), some (.int x0), some (.int (nI p))]) (st' := [.int 3, .int (nI (kd g n q))]) (h' := h_3) 1 rfl q_) ?_
        refine GX.lift (fun _ q_ => RA.if2F rfl (decide_eq_false (fun z => absurd ((nI_eq (by omega) (by decide)).mp (show nI (kd g n q) = nI 3 from z)) (by omega))) q_) ?_
        refine GX.lift (fun _ q_ => RA.steps (i' := 69) (L' := [some (.ref 76), some (.int x0), some (.int (nI p))]) (st' := [.ref 76]) (h' := h_3) 1 rfl q_) ?_
        refine GX.lift (fun _ q_ => RA.getf rfl H_3.1 rfl ((fsn (by decide)).trans ((fsn (by decide)).trans ((fsn (by decide)).trans f4))) q_) ?_
        refine GX.lift (fun _ q_ => RA.steps (i' := 71) (L' := [some (.ref 76), some (.int x0), some (.int (nI p))]) (st' := [.ref 76, .int (nI q)]) (h' := h_3) 1 rfl q_) ?_
        refine GX.lift (fun _ q_ => RA.getf rfl H_3.1 rfl ((fsn (by decide)).trans ((fsn (by decide)).trans ((fsn (by decide)).trans f1))) q_) ?_
        refine GX.lift (fun _ q_ => RA.if2T rfl (decide_eq_true (nI_le (show n ≤ q by omega) (by omega))) q_) ?_
        refine GX.ret rfl rfl ?_
        exact K _ _ H_3 (by rw [wEnd_0 ek]; exact (((F.p3 (nI q)).p2 (nI (kd g n q))).p5 1))
      · refine GX.lift (fun _ q_ => RA.steps (i' := 56) (L' := [some (.ref 76), some (.int x0), some (.int (nI p))]) (st' := [.ref 76]) (h' := h_3) 1 rfl q_) ?_
        refine GX.lift (fun _ q_ => RA.getf rfl H_3.1 rfl ((fsn (by decide)).trans (fset ((fsn (by decide)).trans f2))) q_) ?_
        refine GX.lift (fun _ q_ => RA.if1F rfl (decide_eq_false (fun z => absurd ((nI_eq (by omega) (by decide)).mp (show nI (kd g n q) = nI 0 from z.trans nI_0.symm)) (by omega))) q_) ?_
        refine GX.lift (fun _ q_ => RA.steps (i' := 60) (L' := [some (.ref 76), some (.int x0), some (.int (nI p))]) (st' := [.ref 76, .ref 76]) (h' := h_3) 2 rfl q_) ?_
        refine GX.lift (fun _ q_ => RA.getf rfl H_3.1 rfl ((fsn (by decide)).trans ((fsn (by decide)).trans ((fsn (by decide)).trans f4))) q_) ?_
        refine GX.lift (fun _ q_ => RA.steps (i' := 63) (L' := [some (.ref 76), some (.int x0), some (.int (nI p))]) (st' := [.int ((nI q) + 1), .ref 76]) (h' := h_3) 2 rfl q_) ?_
        rw [(nI_1 q)]
        refine GX.pR rfl H_3 rfl (fun h_4 H_4 => ?_)
        obtain ⟨m, hm⟩ : ∃ m : Nat, n - q = m + 1 := ⟨n - q - 1, by omega⟩
        have ee := wEnd_k ek (by decide) (by decide)
        rw [hm, rnk_s, if_pos ek] at ee
        refine nw_s5 (k := 1) pt fg hn hg (by decide) (by decide) m (q + 1) _ _ H_4 (RF.s (congrArg nI ek) ((((F.p3 (nI q)).p2 (nI (kd g n q))).p5 1).p4 (nI (q + 1)))) (by omega) (fun h' gs' H' F' => ?_)
        refine GX.ret rfl rfl ?_
        exact K _ _ H' (by rw [ee, ek]; exact F')
      · refine GX.lift (fun _ q_ => RA.steps (i' := 56) (L' := [some (.ref 76), some (.int x0), some (.int (nI p))]) (st' := [.ref 76]) (h' := h_3) 1 rfl q_) ?_
        refine GX.lift (fun _ q_ => RA.getf rfl H_3.1 rfl ((fsn (by decide)).trans (fset ((fsn (by decide)).trans f2))) q_) ?_
        refine GX.lift (fun _ q_ => RA.if1F rfl (decide_eq_false (fun z => absurd ((nI_eq (by omega) (by decide)).mp (show nI (kd g n q) = nI 0 from z.trans nI_0.symm)) (by omega))) q_) ?_
        refine GX.lift (fun _ q_ => RA.steps (i' := 60) (L' := [some (.ref 76), some (.int x0), some (.int (nI p))]) (st' := [.ref 76, .ref 76]) (h' := h_3) 2 rfl q_) ?_
        refine GX.lift (fun _ q_ => RA.getf rfl H_3.1 rfl ((fsn (by decide)).trans ((fsn (by decide)).trans ((fsn (by decide)).trans f4))) q_) ?_
        refine GX.lift (fun _ q_ => RA.steps (i' := 63) (L' := [some (.ref 76), some (.int x0), some (.int (nI p))]) (st' := [.int ((nI q) + 1), .ref 76]) (h' := h_3) 2 rfl q_) ?_
        rw [(nI_1 q)]
        refine GX.pR rfl H_3 rfl (fun h_4 H_4 => ?_)
        obtain ⟨m, hm⟩ : ∃ m : Nat, n - q = m + 1 := ⟨n - q - 1, by omega⟩
        have ee := wEnd_k ek (by decide) (by decide)
        rw [hm, rnk_s, if_pos ek] at ee
        refine nw_s5 (k := 2) pt fg hn hg (by decide) (by decide) m (q + 1) _ _ H_4 (RF.s (congrArg nI ek) ((((F.p3 (nI q)).p2 (nI (kd g n q))).p5 1).p4 (nI (q + 1)))) (by omega) (fun h' gs' H' F' => ?_)
        refine GX.ret rfl rfl ?_
        exact K _ _ H' (by rw [ee, ek]; exact F')
      · refine GX.lift (fun _ q_ => RA.steps (i' := 56) (L' := [some (.ref 76), some (.int x0), some (.int (nI p))]) (st' := [.ref 76]) (h' := h_3) 1 rfl q_) ?_
        refine GX.lift (fun _ q_ => RA.getf rfl H_3.1 rfl ((fsn (by decide)).trans (fset ((fsn (by decide)).trans f2))) q_) ?_
        refine GX.lift (fun _ q_ => RA.if1F rfl (decide_eq_false (fun z => absurd ((nI_eq (by omega) (by decide)).mp (show nI (kd g n q) = nI 0 from z.trans nI_0.symm)) (by omega))) q_) ?_
        refine GX.lift (fun _ q_ => RA.steps (i' := 60) (L' := [some (.ref 76), some (.int x0), some (.int (nI p))]) (st' := [.ref 76, .ref 76]) (h' := h_3) 2 rfl q_) ?_
        refine GX.lift (fun _ q_ => RA.getf rfl H_3.1 rfl ((fsn (by decide)).trans ((fsn (by decide)).trans ((fsn (by decide)).trans f4))) q_) ?_
        refine GX.lift (fun _ q_ => RA.steps (i' := 63) (L' := [some (.ref 76), some (.int x0), some (.int (nI p))]) (st' := [.int ((nI q) + 1), .ref 76]) (h' := h_3) 2 rfl q_) ?_
        rw [(nI_1 q)]
        refine GX.pR rfl H_3 rfl (fun h_4 H_4 => ?_)
        refine GX.lift (fun _ q_ => RA.steps (i' := 65) (L' := [some (.ref 76), some (.int x0), some (.int (nI p))]) (st' := [.ref 76]) (h' := h_4) 1 rfl q_) ?_
        refine GX.lift (fun _ q_ => RA.getf rfl H_4.1 rfl ((fsn (by decide)).trans ((fsn (by decide)).trans (fset ((fsn (by decide)).trans f2)))) q_) ?_
        refine GX.lift (fun _ q_ => RA.steps (i' := 67) (L' := [some (.ref 76), some (.int x0), some (.int (nI p))]) (st' := [.int 3, .int (nI (kd g n q))]) (h' := h_4) 1 rfl q_) ?_
        refine GX.lift (fun _ q_ => RA.if2T rfl (decide_eq_true (show nI (kd g n q) = nI 3 by rw [ek])) q_) ?_
        refine GX.ret rfl rfl ?_
        exact K _ _ H_4 (by rw [wEnd_3 ek]; exact ((((F.p3 (nI q)).p2 (nI (kd g n q))).p5 1).p4 (nI (q + 1))))
    · rw [if_neg cp] at hgl
      subst hgl
      refine GX.lift (fun _ q_ => RA.if2T rfl (decide_eq_true (fun z => cp ((nI_eq (by omega) (by omega)).mp z.symm))) q_) ?_
      refine GX.lift (fun _ q_ => RA.steps (i' := 54) (L' := [some (.ref 76), some (.int x0), some (.int (nI p))]) (st' := [.int 0, .ref 76]) (h' := h_2) 1 rfl q_) ?_
      refine GX.pR rfl H_2 rfl (fun h_3 H_3 => ?_)
      rcases kd_cases g n q with ⟨c, ek⟩ | ⟨c, cl, ek⟩ | ⟨c, cl, cd, ek⟩ | ⟨c, cl, cd, ek⟩
      · refine GX.lift (fun _ q_ => RA.steps (i' := 56) (L' := [some (.ref 76), some (.int x0), some (.int (nI p))]) (st' := [.ref 76]) (h' := h_3) 1 rfl q_) ?_
        refine GX.lift (fun _ q_ => RA.getf rfl H_3.1 rfl ((fsn (by decide)).trans (fset ((fsn (by decide)).trans f2))) q_) ?_
        refine GX.lift (fun _ q_ => RA.if1T rfl (decide_eq_true (show nI (kd g n q) = 0 by rw [ek]; exact nI_0)) q_) ?_
        refine GX.lift (fun _ q_ => RA.steps (i' := 65) (L' := [some (.ref 76), some (.int x0), some (.int (nI p))]) (st' := [.ref 76]) (h' := h_3) 1 rfl q_) ?_
        refine GX.lift (fun _ q_ => RA.getf rfl H_3.1 rfl ((fsn (by decide)).trans (fset ((fsn (by decide)).trans f2))) q_) ?_
        refine GX.lift (fun _ q_ => RA.steps (i' := 67) (L' := [some (.ref 76), some (.int x0), some (.int (nI p))]) (st' := [.int 3, .int (nI (kd g n q))]) (h' := h_3) 1 rfl q_) ?_
        refine GX.lift (fun _ q_ => RA.if2F rfl (decide_eq_false (fun z => absurd ((nI_eq (by omega) (by decide)).mp (show nI (kd g n q) = nI 3 from z)) (by omega))) q_) ?_
        refine GX.lift (fun _ q_ => RA.steps (i' := 69) (L' := [some (.ref 76), some (.int x0), some (.int (nI p))]) (st' := [.ref 76]) (h' := h_3) 1 rfl q_) ?_
        refine GX.lift (fun _ q_ => RA.getf rfl H_3.1 rfl ((fsn (by decide)).trans ((fsn (by decide)).trans ((fsn (by decide)).trans f4))) q_) ?_
        refine GX.lift (fun _ q_ => RA.steps (i' := 71) (L' := [some (.ref 76), some (.int x0), some (.int (nI p))]) (st' := [.ref 76, .int (nI q)]) (h' := h_3) 1 rfl q_) ?_
        refine GX.lift (fun _ q_ => RA.getf rfl H_3.1 rfl ((fsn (by decide)).trans ((fsn (by decide)).trans ((fsn (by decide)).trans f1))) q_) ?_
        refine GX.lift (fun _ q_ => RA.if2T rfl (decide_eq_true (nI_le (show n ≤ q by omega) (by omega))) q_) ?_
        refine GX.ret rfl rfl ?_
        exact K _ _ H_3 (by rw [wEnd_0 ek]; exact (((F.p3 (nI q)).p2 (nI (kd g n q))).p5 0))
      · refine GX.lift (fun _ q_ => RA.steps (i' := 56) (L' := [some (.ref 76), some (.int x0), some (.int (nI p))]) (st' := [.ref 76]) (h' := h_3) 1 rfl q_) ?_
        refine GX.lift (fun _ q_ => RA.getf rfl H_3.1 rfl ((fsn (by decide)).trans (fset ((fsn (by decide)).trans f2))) q_) ?_
        refine GX.lift (fun _ q_ => RA.if1F rfl (decide_eq_false (fun z => absurd ((nI_eq (by omega) (by decide)).mp (show nI (kd g n q) = nI 0 from z.trans nI_0.symm)) (by omega))) q_) ?_
        refine GX.lift (fun _ q_ => RA.steps (i' := 60) (L' := [some (.ref 76), some (.int x0), some (.int (nI p))]) (st' := [.ref 76, .ref 76]) (h' := h_3) 2 rfl q_) ?_
        refine GX.lift (fun _ q_ => RA.getf rfl H_3.1 rfl ((fsn (by decide)).trans ((fsn (by decide)).trans ((fsn (by decide)).trans f4))) q_) ?_
        refine GX.lift (fun _ q_ => RA.steps (i' := 63) (L' := [some (.ref 76), some (.int x0), some (.int (nI p))]) (st' := [.int ((nI q) + 1), .ref 76]) (h' := h_3) 2 rfl q_) ?_
        rw [(nI_1 q)]
        refine GX.pR rfl H_3 rfl (fun h_4 H_4 => ?_)
        obtain ⟨m, hm⟩ : ∃ m : Nat, n - q = m + 1 := ⟨n - q - 1, by omega⟩
        have ee := wEnd_k ek (by decide) (by decide)
        rw [hm, rnk_s, if_pos ek] at ee
        refine nw_s5 (k := 1) pt fg hn hg (by decide) (by decide) m (q + 1) _ _ H_4 (RF.s (congrArg nI ek) ((((F.p3 (nI q)).p2 (nI (kd g n q))).p5 0).p4 (nI (q + 1)))) (by omega) (fun h' gs' H' F' => ?_)
        refine GX.ret rfl rfl ?_
        exact K _ _ H' (by rw [ee, ek]; exact F')
      · refine GX.lift (fun _ q_ => RA.steps (i' := 56) (L' := [some (.ref 76), some (.int x0), some (.int (nI p))]) (st' := [.ref 76]) (h' := h_3) 1 rfl q_) ?_
        refine GX.lift (fun _ q_ => RA.getf rfl H_3.1 rfl ((fsn (by decide)).trans (fset ((fsn (by decide)).trans f2))) q_) ?_
        refine GX.lift (fun _ q_ => RA.if1F rfl (decide_eq_false (fun z => absurd ((nI_eq (by omega) (by decide)).mp (show nI (kd g n q) = nI 0 from z.trans nI_0.symm)) (by omega))) q_) ?_
        refine GX.lift (fun _ q_ => RA.steps (i' := 60) (L' := [some (.ref 76), some (.int x0), some (.int (nI p))]) (st' := [.ref 76, .ref 76]) (h' := h_3) 2 rfl q_) ?_
        refine GX.lift (fun _ q_ => RA.getf rfl H_3.1 rfl ((fsn (by decide)).trans ((fsn (by decide)).trans ((fsn (by decide)).trans f4))) q_) ?_
        refine GX.lift (fun _ q_ => RA.steps (i' := 63) (L' := [some (.ref 76), some (.int x0), some (.int (nI p))]) (st' := [.int ((nI q) + 1), .ref 76]) (h' := h_3) 2 rfl q_) ?_
        rw [(nI_1 q)]
        refine GX.pR rfl H_3 rfl (fun h_4 H_4 => ?_)
        obtain ⟨m, hm⟩ : ∃ m : Nat, n - q = m + 1 := ⟨n - q - 1, by omega⟩
        have ee := wEnd_k ek (by decide) (by decide)
        rw [hm, rnk_s, if_pos ek] at ee
        refine nw_s5 (k := 2) pt fg hn hg (by decide) (by decide) m (q + 1) _ _ H_4 (RF.s (congrArg nI ek) ((((F.p3 (nI q)).p2 (nI (kd g n q))).p5 0).p4 (nI (q + 1)))) (by omega) (fun h' gs' H' F' => ?_)
        refine GX.ret rfl rfl ?_
        exact K _ _ H' (by rw [ee, ek]; exact F')
      · refine GX.lift (fun _ q_ => RA.steps (i' := 56) (L' := [some (.ref 76), some (.int x0), some (.int (nI p))]) (st' := [.ref 76]) (h' := h_3) 1 rfl q_) ?_
        refine GX.lift (fun _ q_ => RA.getf rfl H_3.1 rfl ((fsn (by decide)).trans (fset ((fsn (by decide)).trans f2))) q_) ?_
        refine GX.lift (fun _ q_ => RA.if1F rfl (decide_eq_false (fun z => absurd ((nI_eq (by omega) (by decide)).mp (show nI (kd g n q) = nI 0 from z.trans nI_0.symm)) (by omega))) q_) ?_
        refine GX.lift (fun _ q_ => RA.steps (i' := 60) (L' := [some (.ref 76), some (.int x0), some (.int (nI p))]) (st' := [.ref 76, .ref 76]) (h' := h_3) 2 rfl q_) ?_
        refine GX.lift (fun _ q_ => RA.getf rfl H_3.1 rfl ((fsn (by decide)).trans ((fsn (by decide)).trans ((fsn (by decide)).trans f4))) q_) ?_
        refine GX.lift (fun _ q_ => RA.steps (i' := 63) (L' := [some (.ref 76), some (.int x0), some (.int (nI p))]) (st' := [.int ((nI q) + 1), .ref 76]) (h' := h_3) 2 rfl q_) ?_
        rw [(nI_1 q)]
        refine GX.pR rfl H_3 rfl (fun h_4 H_4 => ?_)
        refine GX.lift (fun _ q_ => RA.steps (i' := 65) (L' := [some (.ref 76), some (.int x0), some (.int (nI p))]) (st' := [.ref 76]) (h' := h_4) 1 rfl q_) ?_
        refine GX.lift (fun _ q_ => RA.getf rfl H_4.1 rfl ((fsn (by decide)).trans ((fsn (by decide)).trans (fset ((fsn (by decide)).trans f2)))) q_) ?_
        refine GX.lift (fun _ q_ => RA.steps (i' := 67) (L' := [some (.ref 76), some (.int x0), some (.int (nI p))]) (st' := [.int 3, .int (nI (kd g n q))]) (h' := h_4) 1 rfl q_) ?_
        refine GX.lift (fun _ q_ => RA.if2T rfl (decide_eq_true (show nI (kd g n q) = nI 3 by rw [ek])) q_) ?_
        refine GX.ret rfl rfl ?_
        exact K _ _ H_4 (by rw [wEnd_3 ek]; exact ((((F.p3 (nI q)).p2 (nI (kd g n q))).p5 0).p4 (nI (q + 1))))
/-- does it stand right behind a word or a number -/
def glu (s : Int32) (p b : Nat) : Int32 := if (if s = 1 ∨ s = 2 then (1 : Int32) else 0) = 0 then (0 : Int32) else if p = b then 1 else 0
theorem nw_v {n p : Nat} {s b gl tp br no wa : Int32} {gs : List Value} (pt : pint h0 77 = some (96, f)) (fg : ∀ j : Nat, j < 96 → f j = g j) (hn : n ≤ 96) (hg : ∀ j : Nat, j < 96 → (0 : Int32) ≤ g j) (hp : p ≤ n) (H : CM h0 h gs ls sg) (F : RF gs (nI n) s b (nI p) gl tp br no wa) : ∃ (h' : List pC) (gs' : List Value), Run prog E pV1 (d + 4) mX2_nextWord [.ref 76] h (none, h', 0, 0) ∧ CM h0 h' gs' ls sg ∧ RF gs' (nI n) (nI (kd g n (skp g n (n - p) p))) (nI (skp g n (n - p) p)) (nI (wEnd g n (skp g n (n - p) p))) (glu s p (skp g n (n - p) p)) tp br no wa := by
  have sl := skp_le g n (n - p) p (by omega)
  have key : GX E (fun r h' => r = none ∧ ∃ gs' : List Value, CM h0 h' gs' ls sg ∧ RF gs' (nI n) (nI (kd g n (skp g n (n - p) p))) (nI (skp g n (n - p) p)) (nI (wEnd g n (skp g n (n - p) p))) (glu s p (skp g n (n - p) p)) tp br no wa) (d + 4) mX2_nextWord 0 [some (.ref 76), none, none] [] h := by
    refine nw_s1 H F ?_
    refine nw_s2 pt fg hn (n - p) p _ _ H F (by omega) (fun h1 g1 H1 F1 => ?_)
    exact nw_s3 pt fg hn hg (by omega) sl.2 H1 F1 (fun h2 g2 H2 F2 => ⟨rfl, g2, H2, F2⟩)
  obtain ⟨r, h', q, rfl, gs', H', F'⟩ := key
  exact ⟨h', gs', ⟨Nat.le_of_ble_eq_true rfl, ⟨_, _, rfl⟩, q⟩, H', F'⟩
end NWX
