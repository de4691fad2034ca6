/-! ===== feed: what comes on the tapes ===== -/
section FEE2
variable {E : pX} {Φ : Option Value → List pC → Prop} {d i : Nat} {M : pM} {L : pL} {rest : List Value} {h0 h : List pC}
theorem sh_b (v s : Int32) (k : Nat) (hk : k ≤ 24) (h1 : (UInt32.mod (s.toUInt32 &&& Int32.toUInt32 31) 32).toBitVec.toNat = k) (h2 : ((s &&& 31).toBitVec.smod 32).toNat = k) : (Int32.toUInt32 v >>> (Int32.toUInt32 s &&& Int32.toUInt32 31)).toInt32 &&& 255 = v >>> (s &&& 31) &&& 255 := by
  refine Int32.toBitVec_inj.mp ?_
  show (v.toBitVec >>> (UInt32.mod (s.toUInt32 &&& Int32.toUInt32 31) 32).toBitVec.toNat) &&& (255#32) = (v.toBitVec.sshiftRight ((s &&& 31).toBitVec.smod 32).toNat) &&& (255#32)
  rw [h1, h2]
  refine BitVec.eq_of_getLsbD_eq_iff.mpr (fun i hi => ?_)
  rw [BitVec.getLsbD_and, BitVec.getLsbD_and, BitVec.getLsbD_ushiftRight, BitVec.getLsbD_sshiftRight]
  by_cases c : i < 8
  · rw [if_pos (show k + i < 32 by omega), decide_eq_false (show ¬ 32 ≤ i by omega), Bool.not_false, Bool.true_and]
  · rw [show (255#32).getLsbD i = false by rw [BitVec.getLsbD_ofNat, Nat.testBit_lt_two_pow (Nat.lt_of_lt_of_le (show 255 < 2 ^ 8 by decide) (Nat.pow_le_pow_right (by decide) (by omega))), Bool.and_false], Bool.and_false, Bool.and_false]
theorem sh_24 (v : Int32) : (Int32.toUInt32 v >>> (Int32.toUInt32 24 &&& Int32.toUInt32 31)).toInt32 &&& 255 = v >>> ((24 : Int32) &&& 31) &&& 255 := sh_b v 24 24 (by decide) (by decide +kernel) (by decide +kernel)
theorem sh_16 (v : Int32) : (Int32.toUInt32 v >>> (Int32.toUInt32 16 &&& Int32.toUInt32 31)).toInt32 &&& 255 = v >>> ((16 : Int32) &&& 31) &&& 255 := sh_b v 16 16 (by decide) (by decide +kernel) (by decide +kernel)
theorem sh_8 (v : Int32) : (Int32.toUInt32 v >>> (Int32.toUInt32 8 &&& Int32.toUInt32 31)).toInt32 &&& 255 = v >>> ((8 : Int32) &&& 31) &&& 255 := sh_b v 8 8 (by decide) (by decide +kernel) (by decide +kernel)
theorem sh_0 (v : Int32) : (Int32.toUInt32 v >>> (Int32.toUInt32 0 &&& Int32.toUInt32 31)).toInt32 &&& 255 = v >>> ((0 : Int32) &&& 31) &&& 255 := sh_b v 0 0 (by decide) (by decide +kernel) (by decide +kernel)
/-- an object and a row of ints alone are others -/
def OM (a b c : Nat) (h0 h : List pC) (n : Nat) (gs : List Value) (t : Nat → Int32) : Prop := a ≠ b ∧ pobj h a = some (c, gs) ∧ pint h b = some (n, t) ∧ ∀ x : Nat, x ≠ a → x ≠ b → h[x]? = h0[x]?
theorem GX.pO {a b c n k pc y : Nat} {v w : Value} {ts : List Nat} {gs : List Value} {t : Nat → Int32} (he : (m_code M)[i]? = some (pc, .putfield k, c, y, v, ts)) (H : OM a b c h0 h n gs t) (hf : pfit (ptyp c y) w = true) (q : ∀ h', OM a b c h0 h' n (gs.set y w) t → GX E Φ (d + 1) M (i + 1) L rest h') : GX E Φ (d + 1) M i L (w :: .ref a :: rest) h := by
  obtain ⟨ab, H1, H2, H3⟩ := H
  exact GX.lift (fun _ z => RA.putf he H1 rfl hf z) (q _ ⟨ab, pobj_set (pobj_lt H1), (pint_ne ab).trans H2, fun x h1 h2 => by rw [List.getElem?_set_ne (Ne.symm h1)]; exact H3 x h1 h2⟩)
theorem GX.sO {a b c n pc x y : Nat} {v : Value} {w j : Int32} {ts : List Nat} {gs : List Value} {t : Nat → Int32} (he : (m_code M)[i]? = some (pc, .iastore, x, y, v, ts)) (H : OM a b c h0 h n gs t) (hj : 0 ≤ j ∧ j.toNatClampNeg < n) (q : ∀ h', OM a b c h0 h' n gs (va_up t j.toNatClampNeg w) → GX E Φ (d + 1) M (i + 1) L rest h') : GX E Φ (d + 1) M i L (.int w :: .int j :: .ref b :: rest) h := by
  obtain ⟨ab, H1, H2, H3⟩ := H
  exact GX.lift (fun _ z => RA.iast he H2 hj z) (q _ ⟨ab, (pobj_ne (Ne.symm ab)).trans H1, pint_set (pint_lt H2), fun x h1 h2 => by rw [List.getElem?_set_ne (Ne.symm h2)]; exact H3 x h1 h2⟩)
theorem tkn_x {gs : List Value} {t : Nat → Int32} {l : Nat} (v : Int32) (hl : l + 4 ≤ 96) (H : OM 76 77 2 h0 h 96 gs t) (f0 : gs[0]? = some (.ref 77)) (f1 : gs[1]? = some (.int (nI l))) : ∃ (h1 : List pC) (gs1 : List Value), Run prog E pV1 (d + 1) mX2_takeNumber [.ref 76, .int v] h (none, h1, 0, 0) ∧ OM 76 77 2 h0 h1 96 gs1 (va_up (va_up (va_up (va_up t l (v >>> ((24 : Int32) &&& 31) &&& 255)) (l + 1) (v >>> ((16 : Int32) &&& 31) &&& 255)) (l + 2) (v >>> ((8 : Int32) &&& 31) &&& 255)) (l + 3) (v >>> ((0 : Int32) &&& 31) &&& 255)) ∧ gs1[0]? = some (.ref 77) ∧ gs1[1]? = some (.int (nI (l + 4))) := by
  have key : GX E (fun r_ h1 => r_ = none ∧ ∃ gs1 : List Value, OM 76 77 2 h0 h1 96 gs1 (va_up (va_up (va_up (va_up t l (v >>> ((24 : Int32) &&& 31) &&& 255)) (l + 1) (v >>> ((16 : Int32) &&& 31) &&& 255)) (l + 2) (v >>> ((8 : Int32) &&& 31) &&& 255)) (l + 3) (v >>> ((0 : Int32) &&& 31) &&& 255)) ∧ gs1[0]? = some (.ref 77) ∧ gs1[1]? = some (.int (nI (l + 4)))) (d + 1) mX2_takeNumber 0 [some (.ref 76), some (.int v), none] [] h := by
    refine GX.lift (fun _ q_ => RA.steps (i' := 2) (L' := [some (.ref 76), some (.int v), some (.int 24)]) (st' := []) (h' := h) 2 rfl q_) ?_
    refine GX.lift (fun _ q_ => RA.steps (i' := 3) (L' := [some (.ref 76), some (.int v), some (.int 24)]) (st' := [.int 24]) (h' := h) 1 rfl q_) ?_
    refine GX.lift (fun _ q_ => RA.if1F rfl rfl q_) ?_
    refine GX.lift (fun _ q_ => RA.steps (i' := 5) (L' := [some (.ref 76), some (.int v), some (.int 24)]) (st' := [.ref 76]) (h' := h) 1 rfl q_) ?_
    refine GX.lift (fun _ q_ => RA.getf rfl H.2.1 rfl f1 q_) ?_
    refine GX.lift (fun _ q_ => RA.if1F rfl (decide_eq_false (Int32.not_lt.mpr (nI_cl (by omega)).1)) q_) ?_
    refine GX.lift (fun _ q_ => RA.steps (i' := 8) (L' := [some (.ref 76), some (.int v), some (.int 24)]) (st' := [.ref 76]) (h' := h) 1 rfl q_) ?_
    refine GX.lift (fun _ q_ => RA.getf rfl H.2.1 rfl f1 q_) ?_
    refine GX.lift (fun _ q_ => RA.steps (i' := 10) (L' := [some (.ref 76), some (.int v), some (.int 24)]) (st' := [.ref 76, .int (nI l)]) (h' := h) 1 rfl q_) ?_
    refine GX.lift (fun _ q_ => RA.getf rfl H.2.1 rfl f0 q_) ?_
    refine GX.lift (fun _ q_ => RA.alenI rfl H.2.2.1 q_) ?_
    refine GX.lift (fun _ q_ => RA.if2F rfl (decide_eq_false (Int32.not_le.mpr (nI_lt (show l < 96 by omega) (by decide)))) q_) ?_
    refine GX.lift (fun _ q_ => RA.steps (i' := 14) (L' := [some (.ref 76), some (.int v), some (.int 24)]) (st' := [.ref 76]) (h' := h) 1 rfl q_) ?_
    refine GX.lift (fun _ q_ => RA.getf rfl H.2.1 rfl f0 q_) ?_
    refine GX.lift (fun _ q_ => RA.steps (i' := 16) (L' := [some (.ref 76), some (.int v), some (.int 24)]) (st' := [.ref 76, .ref 77]) (h' := h) 1 rfl q_) ?_
    refine GX.lift (fun _ q_ => RA.getf rfl H.2.1 rfl f1 q_) ?_
    refine GX.lift (fun _ q_ => RA.steps (i' := 22) (L' := [some (.ref 76), some (.int v), some (.int 24)]) (st' := [.int (((Int32.toUInt32 v >>> (Int32.toUInt32 24 &&& Int32.toUInt32 31)).toInt32) &&& 255), .int (nI l), .ref 77]) (h' := h) 5 rfl q_) ?_
    rw [(sh_24 v)]
    refine GX.sO rfl H ⟨(nI_cl (by omega)).1, by rw [(nI_cl (by omega)).2]; omega⟩ (fun h_1 H_1 => ?_)
    refine GX.lift (fun _ q_ => RA.steps (i' := 25) (L' := [some (.ref 76), some (.int v), some (.int 24)]) (st' := [.ref 76, .ref 76]) (h' := h_1) 2 rfl q_) ?_
    refine GX.lift (fun _ q_ => RA.getf rfl H_1.2.1 rfl f1 q_) ?_
    refine GX.lift (fun _ q_ => RA.steps (i' := 28) (L' := [some (.ref 76), some (.int v), some (.int 24)]) (st' := [.int ((nI l) + 1), .ref 76]) (h' := h_1) 2 rfl q_) ?_
    rw [(nI_1 l)]
    refine GX.pO rfl H_1 rfl (fun h_2 H_2 => ?_)
    refine GX.lift (fun _ q_ => RA.iinc rfl rfl (show (24 : Int32) + Int32.ofInt (-8) = 16 by decide +kernel) rfl q_) ?_
    refine GX.lift (fun _ q_ => RA.steps (i' := 2) (L' := [some (.ref 76), some (.int v), some (.int (16))]) (st' := []) (h' := h_2) 1 rfl q_) ?_
    rw [(nI_cl (show l < 100000 by omega)).2] at H_2
    refine GX.lift (fun _ q_ => RA.steps (i' := 3) (L' := [some (.ref 76), some (.int v), some (.int (16))]) (st' := [.int (16)]) (h' := h_2) 1 rfl q_) ?_
    refine GX.lift (fun _ q_ => RA.if1F rfl rfl q_) ?_
    refine GX.lift (fun _ q_ => RA.steps (i' := 5) (L' := [some (.ref 76), some (.int v), some (.int (16))]) (st' := [.ref 76]) (h' := h_2) 1 rfl q_) ?_
    refine GX.lift (fun _ q_ => RA.getf rfl H_2.2.1 rfl (fset f1) q_) ?_
    refine GX.lift (fun _ q_ => RA.if1F rfl (decide_eq_false (Int32.not_lt.mpr (nI_cl (by omega)).1)) q_) ?_
    refine GX.lift (fun _ q_ => RA.steps (i' := 8) (L' := [some (.ref 76), some (.int v), some (.int (16))]) (st' := [.ref 76]) (h' := h_2) 1 rfl q_) ?_
    refine GX.lift (fun _ q_ => RA.getf rfl H_2.2.1 rfl (fset f1) q_) ?_
    refine GX.lift (fun _ q_ => RA.steps (i' := 10) (L' := [some (.ref 76), some (.int v), some (.int (16))]) (st' := [.ref 76, .int (nI (l + 1))]) (h' := h_2) 1 rfl q_) ?_
    refine GX.lift (fun _ q_ => RA.getf rfl H_2.2.1 rfl ((fsn (by decide)).trans f0) q_) ?_
    refine GX.lift (fun _ q_ => RA.alenI rfl H_2.2.2.1 q_) ?_
    refine GX.lift (fun _ q_ => RA.if2F rfl (decide_eq_false (Int32.not_le.mpr (nI_lt (show l + 1 < 96 by omega) (by decide)))) q_) ?_
    refine GX.lift (fun _ q_ => RA.steps (i' := 14) (L' := [some (.ref 76), some (.int v), some (.int (16))]) (st' := [.ref 76]) (h' := h_2) 1 rfl q_) ?_
    refine GX.lift (fun _ q_ => RA.getf rfl H_2.2.1 rfl ((fsn (by decide)).trans f0) q_) ?_
    refine GX.lift (fun _ q_ => RA.steps (i' := 16) (L' := [some (.ref 76), some (.int v), some (.int (16))]) (st' := [.ref 76, .ref 77]) (h' := h_2) 1 rfl q_) ?_
    refine GX.lift (fun _ q_ => RA.getf rfl H_2.2.1 rfl (fset f1) q_) ?_
    refine GX.lift (fun _ q_ => RA.steps (i' := 22) (L' := [some (.ref 76), some (.int v), some (.int (16))]) (st' := [.int (((Int32.toUInt32 v >>> (Int32.toUInt32 (16) &&& Int32.toUInt32 31)).toInt32) &&& 255), .int (nI (l + 1)), .ref 77]) (h' := h_2) 5 rfl q_) ?_
    rw [(sh_16 v)]
    refine GX.sO rfl H_2 ⟨(nI_cl (by omega)).1, by rw [(nI_cl (by omega)).2]; omega⟩ (fun h_3 H_3 => ?_)
    refine GX.lift (fun _ q_ => RA.steps (i' := 25) (L' := [some (.ref 76), some (.int v), some (.int (16))]) (st' := [.ref 76, .ref 76]) (h' := h_3) 2 rfl q_) ?_
    refine GX.lift (fun _ q_ => RA.getf rfl H_3.2.1 rfl (fset f1) q_) ?_
    refine GX.lift (fun _ q_ => RA.steps (i' := 28) (L' := [some (.ref 76), some (.int v), some (.int (16))]) (st' := [.int ((nI (l + 1)) + 1), .ref 76]) (h' := h_3) 2 rfl q_) ?_
    rw [(show nI (l + 1) + 1 = nI (l + 2) from nI_1 (l + 1))]
    refine GX.pO rfl H_3 rfl (fun h_4 H_4 => ?_)
    refine GX.lift (fun _ q_ => RA.iinc rfl rfl (show (16 : Int32) + Int32.ofInt (-8) = 8 by decide +kernel) rfl q_) ?_
    refine GX.lift (fun _ q_ => RA.steps (i' := 2) (L' := [some (.ref 76), some (.int v), some (.int (8))]) (st' := []) (h' := h_4) 1 rfl q_) ?_
    rw [(nI_cl (show (l + 1) < 100000 by omega)).2] at H_4
    refine GX.lift (fun _ q_ => RA.steps (i' := 3) (L' := [some (.ref 76), some (.int v), some (.int (8))]) (st' := [.int (8)]) (h' := h_4) 1 rfl q_) ?_
    refine GX.lift (fun _ q_ => RA.if1F rfl rfl q_) ?_
    refine GX.lift (fun _ q_ => RA.steps (i' := 5) (L' := [some (.ref 76), some (.int v), some (.int (8))]) (st' := [.ref 76]) (h' := h_4) 1 rfl q_) ?_
    refine GX.lift (fun _ q_ => RA.getf rfl H_4.2.1 rfl (fset (fset f1)) q_) ?_
    refine GX.lift (fun _ q_ => RA.if1F rfl (decide_eq_false (Int32.not_lt.mpr (nI_cl (by omega)).1)) q_) ?_
    refine GX.lift (fun _ q_ => RA.steps (i' := 8) (L' := [some (.ref 76), some (.int v), some (.int (8))]) (st' := [.ref 76]) (h' := h_4) 1 rfl q_) ?_
    refine GX.lift (fun _ q_ => RA.getf rfl H_4.2.1 rfl (fset (fset f1)) q_) ?_
    refine GX.lift (fun _ q_ => RA.steps (i' := 10) (L' := [some (.ref 76), some (.int v), some (.int (8))]) (st' := [.ref 76, .int (nI (l + 2))]) (h' := h_4) 1 rfl q_) ?_
    refine GX.lift (fun _ q_ => RA.getf rfl H_4.2.1 rfl ((fsn (by decide)).trans ((fsn (by decide)).trans f0)) q_) ?_
    refine GX.lift (fun _ q_ => RA.alenI rfl H_4.2.2.1 q_) ?_
    refine GX.lift (fun _ q_ => RA.if2F rfl (decide_eq_false (Int32.not_le.mpr (nI_lt (show l + 2 < 96 by omega) (by decide)))) q_) ?_
    refine GX.lift (fun _ q_ => RA.steps (i' := 14) (L' := [some (.ref 76), some (.int v), some (.int (8))]) (st' := [.ref 76]) (h' := h_4) 1 rfl q_) ?_
    refine GX.lift (fun _ q_ => RA.getf rfl H_4.2.1 rfl ((fsn (by decide)).trans ((fsn (by decide)).trans f0)) q_) ?_
    refine GX.lift (fun _ q_ => RA.steps (i' := 16) (L' := [some (.ref 76), some (.int v), some (.int (8))]) (st' := [.ref 76, .ref 77]) (h' := h_4) 1 rfl q_) ?_
    refine GX.lift (fun _ q_ => RA.getf rfl H_4.2.1 rfl (fset (fset f1)) q_) ?_
    refine GX.lift (fun _ q_ => RA.steps (i' := 22) (L' := [some (.ref 76), some (.int v), some (.int (8))]) (st' := [.int (((Int32.toUInt32 v >>> (Int32.toUInt32 (8) &&& Int32.toUInt32 31)).toInt32) &&& 255), .int (nI (l + 2)), .ref 77]) (h' := h_4) 5 rfl q_) ?_
    rw [(sh_8 v)]
    refine GX.sO rfl H_4 ⟨(nI_cl (by omega)).1, by rw [(nI_cl (by omega)).2]; omega⟩ (fun h_5 H_5 => ?_)
    refine GX.lift (fun _ q_ => RA.steps (i' := 25) (L' := [some (.ref 76), some (.int v), some (.int (8))]) (st' := [.ref 76, .ref 76]) (h' := h_5) 2 rfl q_) ?_
    refine GX.lift (fun _ q_ => RA.getf rfl H_5.2.1 rfl (fset (fset f1)) q_) ?_
    refine GX.lift (fun _ q_ => RA.steps (i' := 28) (L' := [some (.ref 76), some (.int v), some (.int (8))]) (st' := [.int ((nI (l + 2)) + 1), .ref 76]) (h' := h_5) 2 rfl q_) ?_
    rw [(show nI (l + 2) + 1 = nI (l + 3) from nI_1 (l + 2))]
    refine GX.pO rfl H_5 rfl (fun h_6 H_6 => ?_)
    refine GX.lift (fun _ q_ => RA.iinc rfl rfl (show (8 : Int32) + Int32.ofInt (-8) = 0 by decide +kernel) rfl q_) ?_
    refine GX.lift (fun _ q_ => RA.steps (i' := 2) (L' := [some (.ref 76), some (.int v), some (.int (0))]) (st' := []) (h' := h_6) 1 rfl q_) ?_
    rw [(nI_cl (show (l + 2) < 100000 by omega)).2] at H_6
    refine GX.lift (fun _ q_ => RA.steps (i' := 3) (L' := [some (.ref 76), some (.int v), some (.int (0))]) (st' := [.int (0)]) (h' := h_6) 1 rfl q_) ?_
    refine GX.lift (fun _ q_ => RA.if1F rfl rfl q_) ?_
    refine GX.lift (fun _ q_ => RA.steps (i' := 5) (L' := [some (.ref 76), some (.int v), some (.int (0))]) (st' := [.ref 76]) (h' := h_6) 1 rfl q_) ?_
    refine GX.lift (fun _ q_ => RA.getf rfl H_6.2.1 rfl (fset (fset (fset f1))) q_) ?_
    refine GX.lift (fun _ q_ => RA.if1F rfl (decide_eq_false (Int32.not_lt.mpr (nI_cl (by omega)).1)) q_) ?_
    refine GX.lift (fun _ q_ => RA.steps (i' := 8) (L' := [some (.ref 76), some (.int v), some (.int (0))]) (st' := [.ref 76]) (h' := h_6) 1 rfl q_) ?_
    refine GX.lift (fun _ q_ => RA.getf rfl H_6.2.1 rfl (fset (fset (fset f1))) q_) ?_
    refine GX.lift (fun _ q_ => RA.steps (i' := 10) (L' := [some (.ref 76), some (.int v), some (.int (0))]) (st' := [.ref 76, .int (nI (l + 3))]) (h' := h_6) 1 rfl q_) ?_
    refine GX.lift (fun _ q_ => RA.getf rfl H_6.2.1 rfl ((fsn (by decide)).trans ((fsn (by decide)).trans ((fsn (by decide)).trans f0))) q_) ?_
    refine GX.lift (fun _ q_ => RA.alenI rfl H_6.2.2.1 q_) ?_
    refine GX.lift (fun _ q_ => RA.if2F rfl (decide_eq_false (Int32.not_le.mpr (nI_lt (show l + 3 < 96 by omega) (by decide)))) q_) ?_
    refine GX.lift (fun _ q_ => RA.steps (i' := 14) (L' := [some (.ref 76), some (.int v), some (.int (0))]) (st' := [.ref 76]) (h' := h_6) 1 rfl q_) ?_
    refine GX.lift (fun _ q_ => RA.getf rfl H_6.2.1 rfl ((fsn (by decide)).trans ((fsn (by decide)).trans ((fsn (by decide)).trans f0))) q_) ?_
    refine GX.lift (fun _ q_ => RA.steps (i' := 16) (L' := [some (.ref 76), some (.int v), some (.int (0))]) (st' := [.ref 76, .ref 77]) (h' := h_6) 1 rfl q_) ?_
    refine GX.lift (fun _ q_ => RA.getf rfl H_6.2.1 rfl (fset (fset (fset f1))) q_) ?_
    refine GX.lift (fun _ q_ => RA.steps (i' := 22) (L' := [some (.ref 76), some (.int v), some (.int (0))]) (st' := [.int (((Int32.toUInt32 v >>> (Int32.toUInt32 (0) &&& Int32.toUInt32 31)).toInt32) &&& 255), .int (nI (l + 3)), .ref 77]) (h' := h_6) 5 rfl q_) ?_
    rw [(sh_0 v)]
    refine GX.sO rfl H_6 ⟨(nI_cl (by omega)).1, by rw [(nI_cl (by omega)).2]; omega⟩ (fun h_7 H_7 => ?_)
    refine GX.lift (fun _ q_ => RA.steps (i' := 25) (L' := [some (.ref 76), some (.int v), some (.int (0))]) (st' := [.ref 76, .ref 76]) (h' := h_7) 2 rfl q_) ?_
    refine GX.lift (fun _ q_ => RA.getf rfl H_7.2.1 rfl (fset (fset (fset f1))) q_) ?_
    refine GX.lift (fun _ q_ => RA.steps (i' := 28) (L' := [some (.ref 76), some (.int v), some (.int (0))]) (st' := [.int ((nI (l + 3)) + 1), .ref 76]) (h' := h_7) 2 rfl q_) ?_
    rw [(show nI (l + 3) + 1 = nI (l + 4) from nI_1 (l + 3))]
    refine GX.pO rfl H_7 rfl (fun h_8 H_8 => ?_)
    refine GX.lift (fun _ q_ => RA.iinc rfl rfl (show (0 : Int32) + Int32.ofInt (-8) = (-8) by decide +kernel) rfl q_) ?_
    refine GX.lift (fun _ q_ => RA.steps (i' := 2) (L' := [some (.ref 76), some (.int v), some (.int (-8))]) (st' := []) (h' := h_8) 1 rfl q_) ?_
    rw [(nI_cl (show (l + 3) < 100000 by omega)).2] at H_8
    refine GX.lift (fun _ q_ => RA.steps (i' := 3) (L' := [some (.ref 76), some (.int v), some (.int (-8))]) (st' := [.int (-8)]) (h' := h_8) 1 rfl q_) ?_
    refine GX.lift (fun _ q_ => RA.if1T rfl rfl q_) ?_
    refine GX.ret rfl rfl ?_
    exact ⟨rfl, _, H_8, ((fsn (by decide)).trans ((fsn (by decide)).trans ((fsn (by decide)).trans ((fsn (by decide)).trans f0)))), (fset (fset (fset (fset f1))))⟩
  obtain ⟨r_, h1, q, rfl, gs1, w1, w2, w3⟩ := key
  exact ⟨h1, gs1, ⟨Nat.le_of_ble_eq_true rfl, ⟨_, _, rfl⟩, q⟩, w1, w2, w3⟩
theorem hasRoom_x {gs : List Value} {t : Nat → Int32} {l : Nat} (hl : l ≤ 96) (H : OM 76 77 2 h0 h 96 gs t) (f1 : gs[1]? = some (.int (nI l))) : Run prog E pV1 (d + 1) mX2_hasRoom [.ref 76, .int 12] h (some (.int (if l + 12 ≤ 96 then 1 else 0)), h, 0, 0) := by
  refine ⟨Nat.le_of_ble_eq_true rfl, ⟨_, _, rfl⟩, ?_⟩
  show RA prog E pV1 (d + 1) mX2_hasRoom 0 [some (.ref 76), some (.int 12)] [] h (some (.int (if l + 12 ≤ 96 then 1 else 0)), h, 0, 0)
  by_cases c : l + 12 ≤ 96
  · rw [if_pos c]
    refine RA.steps (i' := 1) (L' := [some (.ref 76), some (.int 12)]) (st' := [.ref 76]) (h' := h) 1 rfl ?_
    refine RA.getf rfl H.2.1 rfl f1 ?_
    refine RA.steps (i' := 4) (L' := [some (.ref 76), some (.int 12)]) (st' := [.int ((nI l) + 12)]) (h' := h) 2 rfl ?_
    rw [(show nI l + 12 = nI (l + 12) from nI_add l 12)]
    refine RA.steps (i' := 5) (L' := [some (.ref 76), some (.int 12)]) (st' := [.int 96, .int (nI (l + 12))]) (h' := h) 1 rfl ?_
    refine RA.if2F rfl (decide_eq_false (Int32.not_lt.mpr (show nI (l + 12) ≤ nI 96 from nI_le c (by decide)))) ?_
    refine RA.steps (i' := 9) (L' := [some (.ref 76), some (.int 12)]) (st' := [.int 1]) (h' := h) 2 rfl ?_
    exact RA.ret rfl rfl
  · rw [if_neg c]
    refine RA.steps (i' := 1) (L' := [some (.ref 76), some (.int 12)]) (st' := [.ref 76]) (h' := h) 1 rfl ?_
    refine RA.getf rfl H.2.1 rfl f1 ?_
    refine RA.steps (i' := 4) (L' := [some (.ref 76), some (.int 12)]) (st' := [.int ((nI l) + 12)]) (h' := h) 2 rfl ?_
    rw [(show nI l + 12 = nI (l + 12) from nI_add l 12)]
    refine RA.steps (i' := 5) (L' := [some (.ref 76), some (.int 12)]) (st' := [.int 96, .int (nI (l + 12))]) (h' := h) 1 rfl ?_
    refine RA.if2T rfl (decide_eq_true (show nI 96 < nI (l + 12) from nI_lt (by omega) (by omega))) ?_
    refine RA.steps (i' := 9) (L' := [some (.ref 76), some (.int 12)]) (st' := [.int 0]) (h' := h) 1 rfl ?_
    exact RA.ret rfl rfl
theorem feed_n {gs ms : List Value} {t : Nat → Int32} {l : Nat} (x1 x2 x3 : Int32) (hl : l ≤ 96) (c : ¬ l + 12 ≤ 96) (H : OM 76 77 2 h h 96 gs t) (f1 : gs[1]? = some (.int (nI l))) (ho : pobj h 0 = some (7, ms)) (m4 : ms[4]? = some (.ref 76)) : Run prog E pV1 (d + 3) mX7_feed [.ref 0, .int x1, .int x2, .int x3] h (some (.int (-1000000003)), h, 0, 0) := by
  have r := hasRoom_x (E := E) (d := d + 1) hl H f1
  rw [if_neg c] at r
  refine ⟨Nat.le_of_ble_eq_true rfl, ⟨_, _, rfl⟩, ?_⟩
  show RA prog E pV1 (d + 3) mX7_feed 0 [some (.ref 0), some (.int x1), some (.int x2), some (.int x3)] [] h (some (.int (-1000000003)), h, 0, 0)
  refine RA.steps (i' := 1) (L' := [some (.ref 0), some (.int x1), some (.int x2), some (.int x3)]) (st' := [.ref 0]) (h' := h) 1 rfl ?_
  refine RA.getf rfl ho rfl m4 ?_
  refine RA.steps (i' := 3) (L' := [some (.ref 0), some (.int x1), some (.int x2), some (.int x3)]) (st' := [.int 12, .ref 76]) (h' := h) 1 rfl ?_
  refine RA.call0 (N := mX2_hasRoom) (as := [.ref 76, .int 12]) (rest := []) rfl rfl (pcallV rfl rfl H.2.1 rfl rfl (Nat.le_of_ble_eq_true rfl)) r ?_
  refine RA.if1F rfl rfl ?_
  refine RA.steps (i' := 6) (L' := [some (.ref 0), some (.int x1), some (.int x2), some (.int x3)]) (st' := [.int (-1000000003)]) (h' := h) 1 rfl ?_
  exact RA.ret rfl rfl
theorem feed_c {gs ms : List Value} {t : Nat → Int32} {l : Nat} (x1 x2 x3 : Int32) (c : l + 12 ≤ 96) (H : OM 76 77 2 h h 96 gs t) (f0 : gs[0]? = some (.ref 77)) (f1 : gs[1]? = some (.int (nI l))) (ho : pobj h 0 = some (7, ms)) (m4 : ms[4]? = some (.ref 76)) : ∃ (h1 : List pC) (gs1 : List Value), Run prog E pV1 (d + 3) mX7_feed [.ref 0, .int x1, .int x2, .int x3] h (some (.int (nI (l + 12))), h1, 0, 0) ∧ OM 76 77 2 h h1 96 gs1 (va_up (va_up (va_up (va_up (va_up (va_up (va_up (va_up (va_up (va_up (va_up (va_up t l (x1 >>> ((24 : Int32) &&& 31) &&& 255)) (l + 1) (x1 >>> ((16 : Int32) &&& 31) &&& 255)) (l + 2) (x1 >>> ((8 : Int32) &&& 31) &&& 255)) (l + 3) (x1 >>> ((0 : Int32) &&& 31) &&& 255)) (l + 4) (x2 >>> ((24 : Int32) &&& 31) &&& 255)) (l + 4 + 1) (x2 >>> ((16 : Int32) &&& 31) &&& 255)) (l + 4 + 2) (x2 >>> ((8 : Int32) &&& 31) &&& 255)) (l + 4 + 3) (x2 >>> ((0 : Int32) &&& 31) &&& 255)) (l + 8) (x3 >>> ((24 : Int32) &&& 31) &&& 255)) (l + 8 + 1) (x3 >>> ((16 : Int32) &&& 31) &&& 255)) (l + 8 + 2) (x3 >>> ((8 : Int32) &&& 31) &&& 255)) (l + 8 + 3) (x3 >>> ((0 : Int32) &&& 31) &&& 255)) ∧ gs1[1]? = some (.int (nI (l + 12))) := by
  have r := hasRoom_x (E := E) (d := d + 1) (by omega) H f1
  rw [if_pos c] at r
  obtain ⟨h1, g1, q1, H1, a0, a1⟩ := tkn_x (E := E) (d := d + 1) x1 (by omega) H f0 f1
  obtain ⟨h2, g2, q2, H2, b0, b1⟩ := tkn_x (E := E) (d := d + 1) x2 (by omega) H1 a0 a1
  obtain ⟨h3, g3, q3, H3, c0, c1⟩ := tkn_x (E := E) (d := d + 1) x3 (by omega) H2 b0 b1
  have p : ∀ {h'} {g'} {t'}, OM 76 77 2 h h' 96 g' t' → pobj h' 0 = some (7, ms) := fun K => by
    unfold pobj at ho ⊢
    rw [K.2.2.2 0 (by decide) (by decide)]
    exact ho
  refine ⟨h3, g3, ⟨Nat.le_of_ble_eq_true rfl, ⟨_, _, rfl⟩, ?_⟩, H3, c1⟩
  show RA prog E pV1 (d + 3) mX7_feed 0 [some (.ref 0), some (.int x1), some (.int x2), some (.int x3)] [] h (some (.int (nI (l + 12))), h3, 0, 0)
  refine RA.steps (i' := 1) (L' := [some (.ref 0), some (.int x1), some (.int x2), some (.int x3)]) (st' := [.ref 0]) (h' := h) 1 rfl ?_
  refine RA.getf rfl ho rfl m4 ?_
  refine RA.steps (i' := 3) (L' := [some (.ref 0), some (.int x1), some (.int x2), some (.int x3)]) (st' := [.int 12, .ref 76]) (h' := h) 1 rfl ?_
  refine RA.call0 (N := mX2_hasRoom) (as := [.ref 76, .int 12]) (rest := []) rfl rfl (pcallV rfl rfl H.2.1 rfl rfl (Nat.le_of_ble_eq_true rfl)) r ?_
  refine RA.if1T rfl rfl ?_
  refine RA.steps (i' := 8) (L' := [some (.ref 0), some (.int x1), some (.int x2), some (.int x3)]) (st' := [.ref 0]) (h' := h) 1 rfl ?_
  refine RA.getf rfl ho rfl m4 ?_
  refine RA.steps (i' := 10) (L' := [some (.ref 0), some (.int x1), some (.int x2), some (.int x3)]) (st' := [.int x1, .ref 76]) (h' := h) 1 rfl ?_
  refine RA.call0 (N := mX2_takeNumber) (as := [.ref 76, .int x1]) (rest := []) rfl rfl (pcallV rfl rfl H.2.1 rfl rfl (Nat.le_of_ble_eq_true rfl)) q1 ?_
  refine RA.steps (i' := 12) (L' := [some (.ref 0), some (.int x1), some (.int x2), some (.int x3)]) (st' := [.ref 0]) (h' := h1) 1 rfl ?_
  refine RA.getf rfl (p H1) rfl m4 ?_
  refine RA.steps (i' := 14) (L' := [some (.ref 0), some (.int x1), some (.int x2), some (.int x3)]) (st' := [.int x2, .ref 76]) (h' := h1) 1 rfl ?_
  refine RA.call0 (N := mX2_takeNumber) (as := [.ref 76, .int x2]) (rest := []) rfl rfl (pcallV rfl rfl H1.2.1 rfl rfl (Nat.le_of_ble_eq_true rfl)) q2 ?_
  refine RA.steps (i' := 16) (L' := [some (.ref 0), some (.int x1), some (.int x2), some (.int x3)]) (st' := [.ref 0]) (h' := h2) 1 rfl ?_
  refine RA.getf rfl (p H2) rfl m4 ?_
  refine RA.steps (i' := 18) (L' := [some (.ref 0), some (.int x1), some (.int x2), some (.int x3)]) (st' := [.int x3, .ref 76]) (h' := h2) 1 rfl ?_
  refine RA.call0 (N := mX2_takeNumber) (as := [.ref 76, .int x3]) (rest := []) rfl rfl (pcallV rfl rfl H2.2.1 rfl rfl (Nat.le_of_ble_eq_true rfl)) q3 ?_
  refine RA.steps (i' := 20) (L' := [some (.ref 0), some (.int x1), some (.int x2), some (.int x3)]) (st' := [.ref 0]) (h' := h3) 1 rfl ?_
  refine RA.getf rfl (p H3) rfl m4 ?_
  refine RA.getf rfl H3.2.1 rfl c1 ?_
  exact RA.ret rfl rfl
theorem rfeed_n {gs : List Value} {l : Nat} (x1 x2 x3 : Int32) (hl : l ≤ 96) (c : ¬ l + 12 ≤ 96) (ho : pobj h 110 = some (8, gs)) (f15 : gs[15]? = some (.int (nI l))) : Run prog E pV1 (d + 1) mX8_feed [.ref 110, .int x1, .int x2, .int x3] h (some (.int (-1000000003)), h, 0, 0) := by
  refine ⟨Nat.le_of_ble_eq_true rfl, ⟨_, _, rfl⟩, ?_⟩
  show RA prog E pV1 (d + 1) mX8_feed 0 [some (.ref 110), some (.int x1), some (.int x2), some (.int x3), none, none] [] h (some (.int (-1000000003)), h, 0, 0)
  refine RA.steps (i' := 1) (L' := [some (.ref 110), some (.int x1), some (.int x2), some (.int x3), none, none]) (st' := [.ref 110]) (h' := h) 1 rfl ?_
  refine RA.getf rfl ho rfl f15 ?_
  refine RA.steps (i' := 4) (L' := [some (.ref 110), some (.int x1), some (.int x2), some (.int x3), none, none]) (st' := [.int ((nI l) + 12)]) (h' := h) 2 rfl ?_
  rw [(show nI l + 12 = nI (l + 12) from nI_add l 12)]
  refine RA.steps (i' := 5) (L' := [some (.ref 110), some (.int x1), some (.int x2), some (.int x3), none, none]) (st' := [.int 96, .int (nI (l + 12))]) (h' := h) 1 rfl ?_
  refine RA.if2F rfl (decide_eq_false (Int32.not_le.mpr (show nI 96 < nI (l + 12) from nI_lt (by omega) (by omega)))) ?_
  refine RA.steps (i' := 7) (L' := [some (.ref 110), some (.int x1), some (.int x2), some (.int x3), none, none]) (st' := [.int (-1000000003)]) (h' := h) 1 rfl ?_
  exact RA.ret rfl rfl
theorem rfeed_c {gs : List Value} {t : Nat → Int32} {l : Nat} (x1 x2 x3 : Int32) (c : l + 12 ≤ 96) (H : OM 110 124 8 h h 96 gs t) (f14 : gs[14]? = some (.ref 124)) (f15 : gs[15]? = some (.int (nI l))) : ∃ (h1 : List pC) (gs1 : List Value), Run prog E pV1 (d + 1) mX8_feed [.ref 110, .int x1, .int x2, .int x3] h (some (.int (nI (l + 12))), h1, 0, 0) ∧ OM 110 124 8 h h1 96 gs1 (va_up (va_up (va_up (va_up (va_up (va_up (va_up (va_up (va_up (va_up (va_up (va_up t l (x1 >>> ((24 : Int32) &&& 31) &&& 255)) (l + 1) (x1 >>> ((16 : Int32) &&& 31) &&& 255)) (l + 2) (x1 >>> ((8 : Int32) &&& 31) &&& 255)) (l + 3) (x1 >>> ((0 : Int32) &&& 31) &&& 255)) (l + 4) (x2 >>> ((24 : Int32) &&& 31) &&& 255)) (l + 5) (x2 >>> ((16 : Int32) &&& 31) &&& 255)) (l + 6) (x2 >>> ((8 : Int32) &&& 31) &&& 255)) (l + 7) (x2 >>> ((0 : Int32) &&& 31) &&& 255)) (l + 8) (x3 >>> ((24 : Int32) &&& 31) &&& 255)) (l + 9) (x3 >>> ((16 : Int32) &&& 31) &&& 255)) (l + 10) (x3 >>> ((8 : Int32) &&& 31) &&& 255)) (l + 11) (x3 >>> ((0 : Int32) &&& 31) &&& 255)) ∧ gs1[15]? = some (.int (nI (l + 12))) := by
  have key : GX E (fun r_ h1 => r_ = some (.int (nI (l + 12))) ∧ ∃ gs1 : List Value, OM 110 124 8 h h1 96 gs1 (va_up (va_up (va_up (va_up (va_up (va_up (va_up (va_up (va_up (va_up (va_up (va_up t l (x1 >>> ((24 : Int32) &&& 31) &&& 255)) (l + 1) (x1 >>> ((16 : Int32) &&& 31) &&& 255)) (l + 2) (x1 >>> ((8 : Int32) &&& 31) &&& 255)) (l + 3) (x1 >>> ((0 : Int32) &&& 31) &&& 255)) (l + 4) (x2 >>> ((24 : Int32) &&& 31) &&& 255)) (l + 5) (x2 >>> ((16 : Int32) &&& 31) &&& 255)) (l + 6) (x2 >>> ((8 : Int32) &&& 31) &&& 255)) (l + 7) (x2 >>> ((0 : Int32) &&& 31) &&& 255)) (l + 8) (x3 >>> ((24 : Int32) &&& 31) &&& 255)) (l + 9) (x3 >>> ((16 : Int32) &&& 31) &&& 255)) (l + 10) (x3 >>> ((8 : Int32) &&& 31) &&& 255)) (l + 11) (x3 >>> ((0 : Int32) &&& 31) &&& 255)) ∧ gs1[15]? = some (.int (nI (l + 12)))) (d + 1) mX8_feed 0 [some (.ref 110), some (.int x1), some (.int x2), some (.int x3), none, none] [] h := by
    refine GX.lift (fun _ q_ => RA.steps (i' := 1) (L' := [some (.ref 110), some (.int x1), some (.int x2), some (.int x3), none, none]) (st' := [.ref 110]) (h' := h) 1 rfl q_) ?_
    refine GX.lift (fun _ q_ => RA.getf rfl H.2.1 rfl f15 q_) ?_
    refine GX.lift (fun _ q_ => RA.steps (i' := 4) (L' := [some (.ref 110), some (.int x1), some (.int x2), some (.int x3), none, none]) (st' := [.int ((nI l) + 12)]) (h' := h) 2 rfl q_) ?_
    rw [(show nI l + 12 = nI (l + 12) from nI_add l 12)]
    refine GX.lift (fun _ q_ => RA.steps (i' := 5) (L' := [some (.ref 110), some (.int x1), some (.int x2), some (.int x3), none, none]) (st' := [.int 96, .int (nI (l + 12))]) (h' := h) 1 rfl q_) ?_
    refine GX.lift (fun _ q_ => RA.if2T rfl (decide_eq_true (show nI (l + 12) ≤ nI 96 from nI_le c (by decide))) q_) ?_
    refine GX.lift (fun _ q_ => RA.steps (i' := 10) (L' := [some (.ref 110), some (.int x1), some (.int x2), some (.int x3), some (.int 0), none]) (st' := []) (h' := h) 2 rfl q_) ?_
    refine GX.lift (fun _ q_ => RA.steps (i' := 12) (L' := [some (.ref 110), some (.int x1), some (.int x2), some (.int x3), some (.int 0), none]) (st' := [.int 12, .int 0]) (h' := h) 2 rfl q_) ?_
    refine GX.lift (fun _ q_ => RA.if2F rfl rfl q_) ?_
    refine GX.lift (fun _ q_ => RA.steps (i' := 15) (L' := [some (.ref 110), some (.int x1), some (.int x2), some (.int x3), some (.int 0), none]) (st' := [.int 4, .int 0]) (h' := h) 2 rfl q_) ?_
    refine GX.lift (fun _ q_ => RA.if2F rfl rfl q_) ?_
    refine GX.lift (fun _ q_ => RA.steps (i' := 26) (L' := [some (.ref 110), some (.int x1), some (.int x2), some (.int x3), some (.int 0), some (.int x1)]) (st' := [.ref 110]) (h' := h) 4 rfl q_) ?_
    refine GX.lift (fun _ q_ => RA.getf rfl H.2.1 rfl f14 q_) ?_
    refine GX.lift (fun _ q_ => RA.steps (i' := 28) (L' := [some (.ref 110), some (.int x1), some (.int x2), some (.int x3), some (.int 0), some (.int x1)]) (st' := [.ref 110, .ref 124]) (h' := h) 1 rfl q_) ?_
    refine GX.lift (fun _ q_ => RA.getf rfl H.2.1 rfl f15 q_) ?_
    refine GX.lift (fun _ q_ => RA.steps (i' := 35) (L' := [some (.ref 110), some (.int x1), some (.int x2), some (.int x3), some (.int 0), some (.int x1)]) (st' := [.int (0 - 0 / 4 * 4), .int 8, .int 24, .int x1, .int (nI l), .ref 124]) (h' := h) 6 rfl q_) ?_
    rw [(show (0 : Int32) - 0 / 4 * 4 = 0 by decide +kernel)]
    refine GX.lift (fun _ q_ => RA.steps (i' := 36) (L' := [some (.ref 110), some (.int x1), some (.int x2), some (.int x3), some (.int 0), some (.int x1)]) (st' := [.int (8 * 0), .int 24, .int x1, .int (nI l), .ref 124]) (h' := h) 1 rfl q_) ?_
    rw [(show (8 : Int32) * 0 = 0 by decide +kernel)]
    refine GX.lift (fun _ q_ => RA.steps (i' := 37) (L' := [some (.ref 110), some (.int x1), some (.int x2), some (.int x3), some (.int 0), some (.int x1)]) (st' := [.int (24 - 0), .int x1, .int (nI l), .ref 124]) (h' := h) 1 rfl q_) ?_
    rw [(show (24 : Int32) - 0 = 24 by decide +kernel)]
    refine GX.lift (fun _ q_ => RA.steps (i' := 40) (L' := [some (.ref 110), some (.int x1), some (.int x2), some (.int x3), some (.int 0), some (.int x1)]) (st' := [.int ((x1 >>> ((24 : Int32) &&& 31)) &&& 255), .int (nI l), .ref 124]) (h' := h) 3 rfl q_) ?_
    refine GX.sO rfl H ⟨(nI_cl (by omega)).1, by rw [(nI_cl (by omega)).2]; omega⟩ (fun h_1 H_1 => ?_)
    refine GX.lift (fun _ q_ => RA.steps (i' := 43) (L' := [some (.ref 110), some (.int x1), some (.int x2), some (.int x3), some (.int 0), some (.int x1)]) (st' := [.ref 110, .ref 110]) (h' := h_1) 2 rfl q_) ?_
    refine GX.lift (fun _ q_ => RA.getf rfl H_1.2.1 rfl f15 q_) ?_
    refine GX.lift (fun _ q_ => RA.steps (i' := 46) (L' := [some (.ref 110), some (.int x1), some (.int x2), some (.int x3), some (.int 0), some (.int x1)]) (st' := [.int ((nI l) + 1), .ref 110]) (h' := h_1) 2 rfl q_) ?_
    rw [(nI_1 l)]
    refine GX.pO rfl H_1 rfl (fun h_2 H_2 => ?_)
    refine GX.lift (fun _ q_ => RA.iinc rfl rfl (show (0 : Int32) + Int32.ofInt 1 = 1 by decide +kernel) rfl q_) ?_
    refine GX.lift (fun _ q_ => RA.steps (i' := 10) (L' := [some (.ref 110), some (.int x1), some (.int x2), some (.int x3), some (.int 1), some (.int x1)]) (st' := []) (h' := h_2) 1 rfl q_) ?_
    rw [(nI_cl (show l < 100000 by omega)).2] at H_2
    refine GX.lift (fun _ q_ => RA.steps (i' := 12) (L' := [some (.ref 110), some (.int x1), some (.int x2), some (.int x3), some (.int 1), some (.int x1)]) (st' := [.int 12, .int 1]) (h' := h_2) 2 rfl q_) ?_
    refine GX.lift (fun _ q_ => RA.if2F rfl rfl q_) ?_
    refine GX.lift (fun _ q_ => RA.steps (i' := 15) (L' := [some (.ref 110), some (.int x1), some (.int x2), some (.int x3), some (.int 1), some (.int x1)]) (st' := [.int 4, .int 1]) (h' := h_2) 2 rfl q_) ?_
    refine GX.lift (fun _ q_ => RA.if2F rfl rfl q_) ?_
    refine GX.lift (fun _ q_ => RA.steps (i' := 26) (L' := [some (.ref 110), some (.int x1), some (.int x2), some (.int x3), some (.int 1), some (.int x1)]) (st' := [.ref 110]) (h' := h_2) 4 rfl q_) ?_
    refine GX.lift (fun _ q_ => RA.getf rfl H_2.2.1 rfl ((fsn (by decide)).trans f14) q_) ?_
    refine GX.lift (fun _ q_ => RA.steps (i' := 28) (L' := [some (.ref 110), some (.int x1), some (.int x2), some (.int x3), some (.int 1), some (.int x1)]) (st' := [.ref 110, .ref 124]) (h' := h_2) 1 rfl q_) ?_
    refine GX.lift (fun _ q_ => RA.getf rfl H_2.2.1 rfl (fset f15) q_) ?_
    refine GX.lift (fun _ q_ => RA.steps (i' := 35) (L' := [some (.ref 110), some (.int x1), some (.int x2), some (.int x3), some (.int 1), some (.int x1)]) (st' := [.int (1 - 1 / 4 * 4), .int 8, .int 24, .int x1, .int (nI (l + 1)), .ref 124]) (h' := h_2) 6 rfl q_) ?_
    rw [(show (1 : Int32) - 1 / 4 * 4 = 1 by decide +kernel)]
    refine GX.lift (fun _ q_ => RA.steps (i' := 36) (L' := [some (.ref 110), some (.int x1), some (.int x2), some (.int x3), some (.int 1), some (.int x1)]) (st' := [.int (8 * 1), .int 24, .int x1, .int (nI (l + 1)), .ref 124]) (h' := h_2) 1 rfl q_) ?_
    rw [(show (8 : Int32) * 1 = 8 by decide +kernel)]
    refine GX.lift (fun _ q_ => RA.steps (i' := 37) (L' := [some (.ref 110), some (.int x1), some (.int x2), some (.int x3), some (.int 1), some (.int x1)]) (st' := [.int (24 - 8), .int x1, .int (nI (l + 1)), .ref 124]) (h' := h_2) 1 rfl q_) ?_
    rw [(show (24 : Int32) - 8 = 16 by decide +kernel)]
    refine GX.lift (fun _ q_ => RA.steps (i' := 40) (L' := [some (.ref 110), some (.int x1), some (.int x2), some (.int x3), some (.int 1), some (.int x1)]) (st' := [.int ((x1 >>> ((16 : Int32) &&& 31)) &&& 255), .int (nI (l + 1)), .ref 124]) (h' := h_2) 3 rfl q_) ?_
    refine GX.sO rfl H_2 ⟨(nI_cl (by omega)).1, by rw [(nI_cl (by omega)).2]; omega⟩ (fun h_3 H_3 => ?_)
    refine GX.lift (fun _ q_ => RA.steps (i' := 43) (L' := [some (.ref 110), some (.int x1), some (.int x2), some (.int x3), some (.int 1), some (.int x1)]) (st' := [.ref 110, .ref 110]) (h' := h_3) 2 rfl q_) ?_
    refine GX.lift (fun _ q_ => RA.getf rfl H_3.2.1 rfl (fset f15) q_) ?_
    refine GX.lift (fun _ q_ => RA.steps (i' := 46) (L' := [some (.ref 110), some (.int x1), some (.int x2), some (.int x3), some (.int 1), some (.int x1)]) (st' := [.int ((nI (l + 1)) + 1), .ref 110]) (h' := h_3) 2 rfl q_) ?_
    rw [(show nI (l + 1) + 1 = nI (l + 2) from nI_1 (l + 1))]
    refine GX.pO rfl H_3 rfl (fun h_4 H_4 => ?_)
    refine GX.lift (fun _ q_ => RA.iinc rfl rfl (show (1 : Int32) + Int32.ofInt 1 = 2 by decide +kernel) rfl q_) ?_
    refine GX.lift (fun _ q_ => RA.steps (i' := 10) (L' := [some (.ref 110), some (.int x1), some (.int x2), some (.int x3), some (.int 2), some (.int x1)]) (st' := []) (h' := h_4) 1 rfl q_) ?_
    rw [(nI_cl (show (l + 1) < 100000 by omega)).2] at H_4
    refine GX.lift (fun _ q_ => RA.steps (i' := 12) (L' := [some (.ref 110), some (.int x1), some (.int x2), some (.int x3), some (.int 2), some (.int x1)]) (st' := [.int 12, .int 2]) (h' := h_4) 2 rfl q_) ?_
    refine GX.lift (fun _ q_ => RA.if2F rfl rfl q_) ?_
    refine GX.lift (fun _ q_ => RA.steps (i' := 15) (L' := [some (.ref 110), some (.int x1), some (.int x2), some (.int x3), some (.int 2), some (.int x1)]) (st' := [.int 4, .int 2]) (h' := h_4) 2 rfl q_) ?_
    refine GX.lift (fun _ q_ => RA.if2F rfl rfl q_) ?_
    refine GX.lift (fun _ q_ => RA.steps (i' := 26) (L' := [some (.ref 110), some (.int x1), some (.int x2), some (.int x3), some (.int 2), some (.int x1)]) (st' := [.ref 110]) (h' := h_4) 4 rfl q_) ?_
    refine GX.lift (fun _ q_ => RA.getf rfl H_4.2.1 rfl ((fsn (by decide)).trans ((fsn (by decide)).trans f14)) q_) ?_
    refine GX.lift (fun _ q_ => RA.steps (i' := 28) (L' := [some (.ref 110), some (.int x1), some (.int x2), some (.int x3), some (.int 2), some (.int x1)]) (st' := [.ref 110, .ref 124]) (h' := h_4) 1 rfl q_) ?_
    refine GX.lift (fun _ q_ => RA.getf rfl H_4.2.1 rfl (fset (fset f15)) q_) ?_
    refine GX.lift (fun _ q_ => RA.steps (i' := 35) (L' := [some (.ref 110), some (.int x1), some (.int x2), some (.int x3), some (.int 2), some (.int x1)]) (st' := [.int (2 - 2 / 4 * 4), .int 8, .int 24, .int x1, .int (nI (l + 2)), .ref 124]) (h' := h_4) 6 rfl q_) ?_
    rw [(show (2 : Int32) - 2 / 4 * 4 = 2 by decide +kernel)]
    refine GX.lift (fun _ q_ => RA.steps (i' := 36) (L' := [some (.ref 110), some (.int x1), some (.int x2), some (.int x3), some (.int 2), some (.int x1)]) (st' := [.int (8 * 2), .int 24, .int x1, .int (nI (l + 2)), .ref 124]) (h' := h_4) 1 rfl q_) ?_
    rw [(show (8 : Int32) * 2 = 16 by decide +kernel)]
    refine GX.lift (fun _ q_ => RA.steps (i' := 37) (L' := [some (.ref 110), some (.int x1), some (.int x2), some (.int x3), some (.int 2), some (.int x1)]) (st' := [.int (24 - 16), .int x1, .int (nI (l + 2)), .ref 124]) (h' := h_4) 1 rfl q_) ?_
    rw [(show (24 : Int32) - 16 = 8 by decide +kernel)]
    refine GX.lift (fun _ q_ => RA.steps (i' := 40) (L' := [some (.ref 110), some (.int x1), some (.int x2), some (.int x3), some (.int 2), some (.int x1)]) (st' := [.int ((x1 >>> ((8 : Int32) &&& 31)) &&& 255), .int (nI (l + 2)), .ref 124]) (h' := h_4) 3 rfl q_) ?_
    refine GX.sO rfl H_4 ⟨(nI_cl (by omega)).1, by rw [(nI_cl (by omega)).2]; omega⟩ (fun h_5 H_5 => ?_)
    refine GX.lift (fun _ q_ => RA.steps (i' := 43) (L' := [some (.ref 110), some (.int x1), some (.int x2), some (.int x3), some (.int 2), some (.int x1)]) (st' := [.ref 110, .ref 110]) (h' := h_5) 2 rfl q_) ?_
    refine GX.lift (fun _ q_ => RA.getf rfl H_5.2.1 rfl (fset (fset f15)) q_) ?_
    refine GX.lift (fun _ q_ => RA.steps (i' := 46) (L' := [some (.ref 110), some (.int x1), some (.int x2), some (.int x3), some (.int 2), some (.int x1)]) (st' := [.int ((nI (l + 2)) + 1), .ref 110]) (h' := h_5) 2 rfl q_) ?_
    rw [(show nI (l + 2) + 1 = nI (l + 3) from nI_1 (l + 2))]
    refine GX.pO rfl H_5 rfl (fun h_6 H_6 => ?_)
    refine GX.lift (fun _ q_ => RA.iinc rfl rfl (show (2 : Int32) + Int32.ofInt 1 = 3 by decide +kernel) rfl q_) ?_
    refine GX.lift (fun _ q_ => RA.steps (i' := 10) (L' := [some (.ref 110), some (.int x1), some (.int x2), some (.int x3), some (.int 3), some (.int x1)]) (st' := []) (h' := h_6) 1 rfl q_) ?_
    rw [(nI_cl (show (l + 2) < 100000 by omega)).2] at H_6
    refine GX.lift (fun _ q_ => RA.steps (i' := 12) (L' := [some (.ref 110), some (.int x1), some (.int x2), some (.int x3), some (.int 3), some (.int x1)]) (st' := [.int 12, .int 3]) (h' := h_6) 2 rfl q_) ?_
    refine GX.lift (fun _ q_ => RA.if2F rfl rfl q_) ?_
    refine GX.lift (fun _ q_ => RA.steps (i' := 15) (L' := [some (.ref 110), some (.int x1), some (.int x2), some (.int x3), some (.int 3), some (.int x1)]) (st' := [.int 4, .int 3]) (h' := h_6) 2 rfl q_) ?_
    refine GX.lift (fun _ q_ => RA.if2F rfl rfl q_) ?_
    refine GX.lift (fun _ q_ => RA.steps (i' := 26) (L' := [some (.ref 110), some (.int x1), some (.int x2), some (.int x3), some (.int 3), some (.int x1)]) (st' := [.ref 110]) (h' := h_6) 4 rfl q_) ?_
    refine GX.lift (fun _ q_ => RA.getf rfl H_6.2.1 rfl ((fsn (by decide)).trans ((fsn (by decide)).trans ((fsn (by decide)).trans f14))) q_) ?_
    refine GX.lift (fun _ q_ => RA.steps (i' := 28) (L' := [some (.ref 110), some (.int x1), some (.int x2), some (.int x3), some (.int 3), some (.int x1)]) (st' := [.ref 110, .ref 124]) (h' := h_6) 1 rfl q_) ?_
    refine GX.lift (fun _ q_ => RA.getf rfl H_6.2.1 rfl (fset (fset (fset f15))) q_) ?_
    refine GX.lift (fun _ q_ => RA.steps (i' := 35) (L' := [some (.ref 110), some (.int x1), some (.int x2), some (.int x3), some (.int 3), some (.int x1)]) (st' := [.int (3 - 3 / 4 * 4), .int 8, .int 24, .int x1, .int (nI (l + 3)), .ref 124]) (h' := h_6) 6 rfl q_) ?_
    rw [(show (3 : Int32) - 3 / 4 * 4 = 3 by decide +kernel)]
    refine GX.lift (fun _ q_ => RA.steps (i' := 36) (L' := [some (.ref 110), some (.int x1), some (.int x2), some (.int x3), some (.int 3), some (.int x1)]) (st' := [.int (8 * 3), .int 24, .int x1, .int (nI (l + 3)), .ref 124]) (h' := h_6) 1 rfl q_) ?_
    rw [(show (8 : Int32) * 3 = 24 by decide +kernel)]
    refine GX.lift (fun _ q_ => RA.steps (i' := 37) (L' := [some (.ref 110), some (.int x1), some (.int x2), some (.int x3), some (.int 3), some (.int x1)]) (st' := [.int (24 - 24), .int x1, .int (nI (l + 3)), .ref 124]) (h' := h_6) 1 rfl q_) ?_
    rw [(show (24 : Int32) - 24 = 0 by decide +kernel)]
    refine GX.lift (fun _ q_ => RA.steps (i' := 40) (L' := [some (.ref 110), some (.int x1), some (.int x2), some (.int x3), some (.int 3), some (.int x1)]) (st' := [.int ((x1 >>> ((0 : Int32) &&& 31)) &&& 255), .int (nI (l + 3)), .ref 124]) (h' := h_6) 3 rfl q_) ?_
    refine GX.sO rfl H_6 ⟨(nI_cl (by omega)).1, by rw [(nI_cl (by omega)).2]; omega⟩ (fun h_7 H_7 => ?_)
    refine GX.lift (fun _ q_ => RA.steps (i' := 43) (L' := [some (.ref 110), some (.int x1), some (.int x2), some (.int x3), some (.int 3), some (.int x1)]) (st' := [.ref 110, .ref 110]) (h' := h_7) 2 rfl q_) ?_
    refine GX.lift (fun _ q_ => RA.getf rfl H_7.2.1 rfl (fset (fset (fset f15))) q_) ?_
    refine GX.lift (fun _ q_ => RA.steps (i' := 46) (L' := [some (.ref 110), some (.int x1), some (.int x2), some (.int x3), some (.int 3), some (.int x1)]) (st' := [.int ((nI (l + 3)) + 1), .ref 110]) (h' := h_7) 2 rfl q_) ?_
    rw [(show nI (l + 3) + 1 = nI (l + 4) from nI_1 (l + 3))]
    refine GX.pO rfl H_7 rfl (fun h_8 H_8 => ?_)
    refine GX.lift (fun _ q_ => RA.iinc rfl rfl (show (3 : Int32) + Int32.ofInt 1 = 4 by decide +kernel) rfl q_) ?_
    refine GX.lift (fun _ q_ => RA.steps (i' := 10) (L' := [some (.ref 110), some (.int x1), some (.int x2), some (.int x3), some (.int 4), some (.int x1)]) (st' := []) (h' := h_8) 1 rfl q_) ?_
    rw [(nI_cl (show (l + 3) < 100000 by omega)).2] at H_8
    refine GX.lift (fun _ q_ => RA.steps (i' := 12) (L' := [some (.ref 110), some (.int x1), some (.int x2), some (.int x3), some (.int 4), some (.int x1)]) (st' := [.int 12, .int 4]) (h' := h_8) 2 rfl q_) ?_
    refine GX.lift (fun _ q_ => RA.if2F rfl rfl q_) ?_
    refine GX.lift (fun _ q_ => RA.steps (i' := 15) (L' := [some (.ref 110), some (.int x1), some (.int x2), some (.int x3), some (.int 4), some (.int x1)]) (st' := [.int 4, .int 4]) (h' := h_8) 2 rfl q_) ?_
    refine GX.lift (fun _ q_ => RA.if2T rfl rfl q_) ?_
    refine GX.lift (fun _ q_ => RA.steps (i' := 20) (L' := [some (.ref 110), some (.int x1), some (.int x2), some (.int x3), some (.int 4), some (.int x1)]) (st' := [.int 8, .int 4]) (h' := h_8) 2 rfl q_) ?_
    refine GX.lift (fun _ q_ => RA.if2F rfl rfl q_) ?_
    refine GX.lift (fun _ q_ => RA.steps (i' := 26) (L' := [some (.ref 110), some (.int x1), some (.int x2), some (.int x3), some (.int 4), some (.int x2)]) (st' := [.ref 110]) (h' := h_8) 4 rfl q_) ?_
    refine GX.lift (fun _ q_ => RA.getf rfl H_8.2.1 rfl ((fsn (by decide)).trans ((fsn (by decide)).trans ((fsn (by decide)).trans ((fsn (by decide)).trans f14)))) q_) ?_
    refine GX.lift (fun _ q_ => RA.steps (i' := 28) (L' := [some (.ref 110), some (.int x1), some (.int x2), some (.int x3), some (.int 4), some (.int x2)]) (st' := [.ref 110, .ref 124]) (h' := h_8) 1 rfl q_) ?_
    refine GX.lift (fun _ q_ => RA.getf rfl H_8.2.1 rfl (fset (fset (fset (fset f15)))) q_) ?_
    refine GX.lift (fun _ q_ => RA.steps (i' := 35) (L' := [some (.ref 110), some (.int x1), some (.int x2), some (.int x3), some (.int 4), some (.int x2)]) (st' := [.int (4 - 4 / 4 * 4), .int 8, .int 24, .int x2, .int (nI (l + 4)), .ref 124]) (h' := h_8) 6 rfl q_) ?_
    rw [(show (4 : Int32) - 4 / 4 * 4 = 0 by decide +kernel)]
    refine GX.lift (fun _ q_ => RA.steps (i' := 36) (L' := [some (.ref 110), some (.int x1), some (.int x2), some (.int x3), some (.int 4), some (.int x2)]) (st' := [.int (8 * 0), .int 24, .int x2, .int (nI (l + 4)), .ref 124]) (h' := h_8) 1 rfl q_) ?_
    rw [(show (8 : Int32) * 0 = 0 by decide +kernel)]
    refine GX.lift (fun _ q_ => RA.steps (i' := 37) (L' := [some (.ref 110), some (.int x1), some (.int x2), some (.int x3), some (.int 4), some (.int x2)]) (st' := [.int (24 - 0), .int x2, .int (nI (l + 4)), .ref 124]) (h' := h_8) 1 rfl q_) ?_
    rw [(show (24 : Int32) - 0 = 24 by decide +kernel)]
    refine GX.lift (fun _ q_ => RA.steps (i' := 40) (L' := [some (.ref 110), some (.int x1), some (.int x2), some (.int x3), some (.int 4), some (.int x2)]) (st' := [.int ((x2 >>> ((24 : Int32) &&& 31)) &&& 255), .int (nI (l + 4)), .ref 124]) (h' := h_8) 3 rfl q_) ?_
    refine GX.sO rfl H_8 ⟨(nI_cl (by omega)).1, by rw [(nI_cl (by omega)).2]; omega⟩ (fun h_9 H_9 => ?_)
    refine GX.lift (fun _ q_ => RA.steps (i' := 43) (L' := [some (.ref 110), some (.int x1), some (.int x2), some (.int x3), some (.int 4), some (.int x2)]) (st' := [.ref 110, .ref 110]) (h' := h_9) 2 rfl q_) ?_
    refine GX.lift (fun _ q_ => RA.getf rfl H_9.2.1 rfl (fset (fset (fset (fset f15)))) q_) ?_
    refine GX.lift (fun _ q_ => RA.steps (i' := 46) (L' := [some (.ref 110), some (.int x1), some (.int x2), some (.int x3), some (.int 4), some (.int x2)]) (st' := [.int ((nI (l + 4)) + 1), .ref 110]) (h' := h_9) 2 rfl q_) ?_
    rw [(show nI (l + 4) + 1 = nI (l + 5) from nI_1 (l + 4))]
    refine GX.pO rfl H_9 rfl (fun h_10 H_10 => ?_)
    refine GX.lift (fun _ q_ => RA.iinc rfl rfl (show (4 : Int32) + Int32.ofInt 1 = 5 by decide +kernel) rfl q_) ?_
    refine GX.lift (fun _ q_ => RA.steps (i' := 10) (L' := [some (.ref 110), some (.int x1), some (.int x2), some (.int x3), some (.int 5), some (.int x2)]) (st' := []) (h' := h_10) 1 rfl q_) ?_
    rw [(nI_cl (show (l + 4) < 100000 by omega)).2] at H_10
    refine GX.lift (fun _ q_ => RA.steps (i' := 12) (L' := [some (.ref 110), some (.int x1), some (.int x2), some (.int x3), some (.int 5), some (.int x2)]) (st' := [.int 12, .int 5]) (h' := h_10) 2 rfl q_) ?_
    refine GX.lift (fun _ q_ => RA.if2F rfl rfl q_) ?_
    refine GX.lift (fun _ q_ => RA.steps (i' := 15) (L' := [some (.ref 110), some (.int x1), some (.int x2), some (.int x3), some (.int 5), some (.int x2)]) (st' := [.int 4, .int 5]) (h' := h_10) 2 rfl q_) ?_
    refine GX.lift (fun _ q_ => RA.if2T rfl rfl q_) ?_
    refine GX.lift (fun _ q_ => RA.steps (i' := 20) (L' := [some (.ref 110), some (.int x1), some (.int x2), some (.int x3), some (.int 5), some (.int x2)]) (st' := [.int 8, .int 5]) (h' := h_10) 2 rfl q_) ?_
    refine GX.lift (fun _ q_ => RA.if2F rfl rfl q_) ?_
    refine GX.lift (fun _ q_ => RA.steps (i' := 26) (L' := [some (.ref 110), some (.int x1), some (.int x2), some (.int x3), some (.int 5), some (.int x2)]) (st' := [.ref 110]) (h' := h_10) 4 rfl q_) ?_
    refine GX.lift (fun _ q_ => RA.getf rfl H_10.2.1 rfl ((fsn (by decide)).trans ((fsn (by decide)).trans ((fsn (by decide)).trans ((fsn (by decide)).trans ((fsn (by decide)).trans f14))))) q_) ?_
    refine GX.lift (fun _ q_ => RA.steps (i' := 28) (L' := [some (.ref 110), some (.int x1), some (.int x2), some (.int x3), some (.int 5), some (.int x2)]) (st' := [.ref 110, .ref 124]) (h' := h_10) 1 rfl q_) ?_
    refine GX.lift (fun _ q_ => RA.getf rfl H_10.2.1 rfl (fset (fset (fset (fset (fset f15))))) q_) ?_
    refine GX.lift (fun _ q_ => RA.steps (i' := 35) (L' := [some (.ref 110), some (.int x1), some (.int x2), some (.int x3), some (.int 5), some (.int x2)]) (st' := [.int (5 - 5 / 4 * 4), .int 8, .int 24, .int x2, .int (nI (l + 5)), .ref 124]) (h' := h_10) 6 rfl q_) ?_
    rw [(show (5 : Int32) - 5 / 4 * 4 = 1 by decide +kernel)]
    refine GX.lift (fun _ q_ => RA.steps (i' := 36) (L' := [some (.ref 110), some (.int x1), some (.int x2), some (.int x3), some (.int 5), some (.int x2)]) (st' := [.int (8 * 1), .int 24, .int x2, .int (nI (l + 5)), .ref 124]) (h' := h_10) 1 rfl q_) ?_
    rw [(show (8 : Int32) * 1 = 8 by decide +kernel)]
    refine GX.lift (fun _ q_ => RA.steps (i' := 37) (L' := [some (.ref 110), some (.int x1), some (.int x2), some (.int x3), some (.int 5), some (.int x2)]) (st' := [.int (24 - 8), .int x2, .int (nI (l + 5)), .ref 124]) (h' := h_10) 1 rfl q_) ?_
    rw [(show (24 : Int32) - 8 = 16 by decide +kernel)]
    refine GX.lift (fun _ q_ => RA.steps (i' := 40) (L' := [some (.ref 110), some (.int x1), some (.int x2), some (.int x3), some (.int 5), some (.int x2)]) (st' := [.int ((x2 >>> ((16 : Int32) &&& 31)) &&& 255), .int (nI (l + 5)), .ref 124]) (h' := h_10) 3 rfl q_) ?_
    refine GX.sO rfl H_10 ⟨(nI_cl (by omega)).1, by rw [(nI_cl (by omega)).2]; omega⟩ (fun h_11 H_11 => ?_)
    refine GX.lift (fun _ q_ => RA.steps (i' := 43) (L' := [some (.ref 110), some (.int x1), some (.int x2), some (.int x3), some (.int 5), some (.int x2)]) (st' := [.ref 110, .ref 110]) (h' := h_11) 2 rfl q_) ?_
    refine GX.lift (fun _ q_ => RA.getf rfl H_11.2.1 rfl (fset (fset (fset (fset (fset f15))))) q_) ?_
    refine GX.lift (fun _ q_ => RA.steps (i' := 46) (L' := [some (.ref 110), some (.int x1), some (.int x2), some (.int x3), some (.int 5), some (.int x2)]) (st' := [.int ((nI (l + 5)) + 1), .ref 110]) (h' := h_11) 2 rfl q_) ?_
    rw [(show nI (l + 5) + 1 = nI (l + 6) from nI_1 (l + 5))]
    refine GX.pO rfl H_11 rfl (fun h_12 H_12 => ?_)
    refine GX.lift (fun _ q_ => RA.iinc rfl rfl (show (5 : Int32) + Int32.ofInt 1 = 6 by decide +kernel) rfl q_) ?_
    refine GX.lift (fun _ q_ => RA.steps (i' := 10) (L' := [some (.ref 110), some (.int x1), some (.int x2), some (.int x3), some (.int 6), some (.int x2)]) (st' := []) (h' := h_12) 1 rfl q_) ?_
    rw [(nI_cl (show (l + 5) < 100000 by omega)).2] at H_12
    refine GX.lift (fun _ q_ => RA.steps (i' := 12) (L' := [some (.ref 110), some (.int x1), some (.int x2), some (.int x3), some (.int 6), some (.int x2)]) (st' := [.int 12, .int 6]) (h' := h_12) 2 rfl q_) ?_
    refine GX.lift (fun _ q_ => RA.if2F rfl rfl q_) ?_
    refine GX.lift (fun _ q_ => RA.steps (i' := 15) (L' := [some (.ref 110), some (.int x1), some (.int x2), some (.int x3), some (.int 6), some (.int x2)]) (st' := [.int 4, .int 6]) (h' := h_12) 2 rfl q_) ?_
    refine GX.lift (fun _ q_ => RA.if2T rfl rfl q_) ?_
    refine GX.lift (fun _ q_ => RA.steps (i' := 20) (L' := [some (.ref 110), some (.int x1), some (.int x2), some (.int x3), some (.int 6), some (.int x2)]) (st' := [.int 8, .int 6]) (h' := h_12) 2 rfl q_) ?_
    refine GX.lift (fun _ q_ => RA.if2F rfl rfl q_) ?_
    refine GX.lift (fun _ q_ => RA.steps (i' := 26) (L' := [some (.ref 110), some (.int x1), some (.int x2), some (.int x3), some (.int 6), some (.int x2)]) (st' := [.ref 110]) (h' := h_12) 4 rfl q_) ?_
    refine GX.lift (fun _ q_ => RA.getf rfl H_12.2.1 rfl ((fsn (by decide)).trans ((fsn (by decide)).trans ((fsn (by decide)).trans ((fsn (by decide)).trans ((fsn (by decide)).trans ((fsn (by decide)).trans f14)))))) q_) ?_
    refine GX.lift (fun _ q_ => RA.steps (i' := 28) (L' := [some (.ref 110), some (.int x1), some (.int x2), some (.int x3), some (.int 6), some (.int x2)]) (st' := [.ref 110, .ref 124]) (h' := h_12) 1 rfl q_) ?_
    refine GX.lift (fun _ q_ => RA.getf rfl H_12.2.1 rfl (fset (fset (fset (fset (fset (fset f15)))))) q_) ?_
    refine GX.lift (fun _ q_ => RA.steps (i' := 35) (L' := [some (.ref 110), some (.int x1), some (.int x2), some (.int x3), some (.int 6), some (.int x2)]) (st' := [.int (6 - 6 / 4 * 4), .int 8, .int 24, .int x2, .int (nI (l + 6)), .ref 124]) (h' := h_12) 6 rfl q_) ?_
    rw [(show (6 : Int32) - 6 / 4 * 4 = 2 by decide +kernel)]
    refine GX.lift (fun _ q_ => RA.steps (i' := 36) (L' := [some (.ref 110), some (.int x1), some (.int x2), some (.int x3), some (.int 6), some (.int x2)]) (st' := [.int (8 * 2), .int 24, .int x2, .int (nI (l + 6)), .ref 124]) (h' := h_12) 1 rfl q_) ?_
    rw [(show (8 : Int32) * 2 = 16 by decide +kernel)]
    refine GX.lift (fun _ q_ => RA.steps (i' := 37) (L' := [some (.ref 110), some (.int x1), some (.int x2), some (.int x3), some (.int 6), some (.int x2)]) (st' := [.int (24 - 16), .int x2, .int (nI (l + 6)), .ref 124]) (h' := h_12) 1 rfl q_) ?_
    rw [(show (24 : Int32) - 16 = 8 by decide +kernel)]
    refine GX.lift (fun _ q_ => RA.steps (i' := 40) (L' := [some (.ref 110), some (.int x1), some (.int x2), some (.int x3), some (.int 6), some (.int x2)]) (st' := [.int ((x2 >>> ((8 : Int32) &&& 31)) &&& 255), .int (nI (l + 6)), .ref 124]) (h' := h_12) 3 rfl q_) ?_
    refine GX.sO rfl H_12 ⟨(nI_cl (by omega)).1, by rw [(nI_cl (by omega)).2]; omega⟩ (fun h_13 H_13 => ?_)
    refine GX.lift (fun _ q_ => RA.steps (i' := 43) (L' := [some (.ref 110), some (.int x1), some (.int x2), some (.int x3), some (.int 6), some (.int x2)]) (st' := [.ref 110, .ref 110]) (h' := h_13) 2 rfl q_) ?_
    refine GX.lift (fun _ q_ => RA.getf rfl H_13.2.1 rfl (fset (fset (fset (fset (fset (fset f15)))))) q_) ?_
    refine GX.lift (fun _ q_ => RA.steps (i' := 46) (L' := [some (.ref 110), some (.int x1), some (.int x2), some (.int x3), some (.int 6), some (.int x2)]) (st' := [.int ((nI (l + 6)) + 1), .ref 110]) (h' := h_13) 2 rfl q_) ?_
    rw [(show nI (l + 6) + 1 = nI (l + 7) from nI_1 (l + 6))]
    refine GX.pO rfl H_13 rfl (fun h_14 H_14 => ?_)
    refine GX.lift (fun _ q_ => RA.iinc rfl rfl (show (6 : Int32) + Int32.ofInt 1 = 7 by decide +kernel) rfl q_) ?_
    refine GX.lift (fun _ q_ => RA.steps (i' := 10) (L' := [some (.ref 110), some (.int x1), some (.int x2), some (.int x3), some (.int 7), some (.int x2)]) (st' := []) (h' := h_14) 1 rfl q_) ?_
    rw [(nI_cl (show (l + 6) < 100000 by omega)).2] at H_14
    refine GX.lift (fun _ q_ => RA.steps (i' := 12) (L' := [some (.ref 110), some (.int x1), some (.int x2), some (.int x3), some (.int 7), some (.int x2)]) (st' := [.int 12, .int 7]) (h' := h_14) 2 rfl q_) ?_
    refine GX.lift (fun _ q_ => RA.if2F rfl rfl q_) ?_
    refine GX.lift (fun _ q_ => RA.steps (i' := 15) (L' := [some (.ref 110), some (.int x1), some (.int x2), some (.int x3), some (.int 7), some (.int x2)]) (st' := [.int 4, .int 7]) (h' := h_14) 2 rfl q_) ?_
    refine GX.lift (fun _ q_ => RA.if2T rfl rfl q_) ?_
    refine GX.lift (fun _ q_ => RA.steps (i' := 20) (L' := [some (.ref 110), some (.int x1), some (.int x2), some (.int x3), some (.int 7), some (.int x2)]) (st' := [.int 8, .int 7]) (h' := h_14) 2 rfl q_) ?_
    refine GX.lift (fun _ q_ => RA.if2F rfl rfl q_) ?_
    refine GX.lift (fun _ q_ => RA.steps (i' := 26) (L' := [some (.ref 110), some (.int x1), some (.int x2), some (.int x3), some (.int 7), some (.int x2)]) (st' := [.ref 110]) (h' := h_14) 4 rfl q_) ?_
    refine GX.lift (fun _ q_ => RA.getf rfl H_14.2.1 rfl ((fsn (by decide)).trans ((fsn (by decide)).trans ((fsn (by decide)).trans ((fsn (by decide)).trans ((fsn (by decide)).trans ((fsn (by decide)).trans ((fsn (by decide)).trans f14))))))) q_) ?_
    refine GX.lift (fun _ q_ => RA.steps (i' := 28) (L' := [some (.ref 110), some (.int x1), some (.int x2), some (.int x3), some (.int 7), some (.int x2)]) (st' := [.ref 110, .ref 124]) (h' := h_14) 1 rfl q_) ?_
    refine GX.lift (fun _ q_ => RA.getf rfl H_14.2.1 rfl (fset (fset (fset (fset (fset (fset (fset f15))))))) q_) ?_
    refine GX.lift (fun _ q_ => RA.steps (i' := 35) (L' := [some (.ref 110), some (.int x1), some (.int x2), some (.int x3), some (.int 7), some (.int x2)]) (st' := [.int (7 - 7 / 4 * 4), .int 8, .int 24, .int x2, .int (nI (l + 7)), .ref 124]) (h' := h_14) 6 rfl q_) ?_
    rw [(show (7 : Int32) - 7 / 4 * 4 = 3 by decide +kernel)]
    refine GX.lift (fun _ q_ => RA.steps (i' := 36) (L' := [some (.ref 110), some (.int x1), some (.int x2), some (.int x3), some (.int 7), some (.int x2)]) (st' := [.int (8 * 3), .int 24, .int x2, .int (nI (l + 7)), .ref 124]) (h' := h_14) 1 rfl q_) ?_
    rw [(show (8 : Int32) * 3 = 24 by decide +kernel)]
    refine GX.lift (fun _ q_ => RA.steps (i' := 37) (L' := [some (.ref 110), some (.int x1), some (.int x2), some (.int x3), some (.int 7), some (.int x2)]) (st' := [.int (24 - 24), .int x2, .int (nI (l + 7)), .ref 124]) (h' := h_14) 1 rfl q_) ?_
    rw [(show (24 : Int32) - 24 = 0 by decide +kernel)]
    refine GX.lift (fun _ q_ => RA.steps (i' := 40) (L' := [some (.ref 110), some (.int x1), some (.int x2), some (.int x3), some (.int 7), some (.int x2)]) (st' := [.int ((x2 >>> ((0 : Int32) &&& 31)) &&& 255), .int (nI (l + 7)), .ref 124]) (h' := h_14) 3 rfl q_) ?_
    refine GX.sO rfl H_14 ⟨(nI_cl (by omega)).1, by rw [(nI_cl (by omega)).2]; omega⟩ (fun h_15 H_15 => ?_)
    refine GX.lift (fun _ q_ => RA.steps (i' := 43) (L' := [some (.ref 110), some (.int x1), some (.int x2), some (.int x3), some (.int 7), some (.int x2)]) (st' := [.ref 110, .ref 110]) (h' := h_15) 2 rfl q_) ?_
    refine GX.lift (fun _ q_ => RA.getf rfl H_15.2.1 rfl (fset (fset (fset (fset (fset (fset (fset f15))))))) q_) ?_
    refine GX.lift (fun _ q_ => RA.steps (i' := 46) (L' := [some (.ref 110), some (.int x1), some (.int x2), some (.int x3), some (.int 7), some (.int x2)]) (st' := [.int ((nI (l + 7)) + 1), .ref 110]) (h' := h_15) 2 rfl q_) ?_
    rw [(show nI (l + 7) + 1 = nI (l + 8) from nI_1 (l + 7))]
    refine GX.pO rfl H_15 rfl (fun h_16 H_16 => ?_)
    refine GX.lift (fun _ q_ => RA.iinc rfl rfl (show (7 : Int32) + Int32.ofInt 1 = 8 by decide +kernel) rfl q_) ?_
    refine GX.lift (fun _ q_ => RA.steps (i' := 10) (L' := [some (.ref 110), some (.int x1), some (.int x2), some (.int x3), some (.int 8), some (.int x2)]) (st' := []) (h' := h_16) 1 rfl q_) ?_
    rw [(nI_cl (show (l + 7) < 100000 by omega)).2] at H_16
    refine GX.lift (fun _ q_ => RA.steps (i' := 12) (L' := [some (.ref 110), some (.int x1), some (.int x2), some (.int x3), some (.int 8), some (.int x2)]) (st' := [.int 12, .int 8]) (h' := h_16) 2 rfl q_) ?_
    refine GX.lift (fun _ q_ => RA.if2F rfl rfl q_) ?_
    refine GX.lift (fun _ q_ => RA.steps (i' := 15) (L' := [some (.ref 110), some (.int x1), some (.int x2), some (.int x3), some (.int 8), some (.int x2)]) (st' := [.int 4, .int 8]) (h' := h_16) 2 rfl q_) ?_
    refine GX.lift (fun _ q_ => RA.if2T rfl rfl q_) ?_
    refine GX.lift (fun _ q_ => RA.steps (i' := 20) (L' := [some (.ref 110), some (.int x1), some (.int x2), some (.int x3), some (.int 8), some (.int x2)]) (st' := [.int 8, .int 8]) (h' := h_16) 2 rfl q_) ?_
    refine GX.lift (fun _ q_ => RA.if2T rfl rfl q_) ?_
    refine GX.lift (fun _ q_ => RA.steps (i' := 26) (L' := [some (.ref 110), some (.int x1), some (.int x2), some (.int x3), some (.int 8), some (.int x3)]) (st' := [.ref 110]) (h' := h_16) 3 rfl q_) ?_
    refine GX.lift (fun _ q_ => RA.getf rfl H_16.2.1 rfl ((fsn (by decide)).trans ((fsn (by decide)).trans ((fsn (by decide)).trans ((fsn (by decide)).trans ((fsn (by decide)).trans ((fsn (by decide)).trans ((fsn (by decide)).trans ((fsn (by decide)).trans f14)))))))) q_) ?_
    refine GX.lift (fun _ q_ => RA.steps (i' := 28) (L' := [some (.ref 110), some (.int x1), some (.int x2), some (.int x3), some (.int 8), some (.int x3)]) (st' := [.ref 110, .ref 124]) (h' := h_16) 1 rfl q_) ?_
    refine GX.lift (fun _ q_ => RA.getf rfl H_16.2.1 rfl (fset (fset (fset (fset (fset (fset (fset (fset f15)))))))) q_) ?_
    refine GX.lift (fun _ q_ => RA.steps (i' := 35) (L' := [some (.ref 110), some (.int x1), some (.int x2), some (.int x3), some (.int 8), some (.int x3)]) (st' := [.int (8 - 8 / 4 * 4), .int 8, .int 24, .int x3, .int (nI (l + 8)), .ref 124]) (h' := h_16) 6 rfl q_) ?_
    rw [(show (8 : Int32) - 8 / 4 * 4 = 0 by decide +kernel)]
    refine GX.lift (fun _ q_ => RA.steps (i' := 36) (L' := [some (.ref 110), some (.int x1), some (.int x2), some (.int x3), some (.int 8), some (.int x3)]) (st' := [.int (8 * 0), .int 24, .int x3, .int (nI (l + 8)), .ref 124]) (h' := h_16) 1 rfl q_) ?_
    rw [(show (8 : Int32) * 0 = 0 by decide +kernel)]
    refine GX.lift (fun _ q_ => RA.steps (i' := 37) (L' := [some (.ref 110), some (.int x1), some (.int x2), some (.int x3), some (.int 8), some (.int x3)]) (st' := [.int (24 - 0), .int x3, .int (nI (l + 8)), .ref 124]) (h' := h_16) 1 rfl q_) ?_
    rw [(show (24 : Int32) - 0 = 24 by decide +kernel)]
    refine GX.lift (fun _ q_ => RA.steps (i' := 40) (L' := [some (.ref 110), some (.int x1), some (.int x2), some (.int x3), some (.int 8), some (.int x3)]) (st' := [.int ((x3 >>> ((24 : Int32) &&& 31)) &&& 255), .int (nI (l + 8)), .ref 124]) (h' := h_16) 3 rfl q_) ?_
    refine GX.sO rfl H_16 ⟨(nI_cl (by omega)).1, by rw [(nI_cl (by omega)).2]; omega⟩ (fun h_17 H_17 => ?_)
    refine GX.lift (fun _ q_ => RA.steps (i' := 43) (L' := [some (.ref 110), some (.int x1), some (.int x2), some (.int x3), some (.int 8), some (.int x3)]) (st' := [.ref 110, .ref 110]) (h' := h_17) 2 rfl q_) ?_
    refine GX.lift (fun _ q_ => RA.getf rfl H_17.2.1 rfl (fset (fset (fset (fset (fset (fset (fset (fset f15)))))))) q_) ?_
    refine GX.lift (fun _ q_ => RA.steps (i' := 46) (L' := [some (.ref 110), some (.int x1), some (.int x2), some (.int x3), some (.int 8), some (.int x3)]) (st' := [.int ((nI (l + 8)) + 1), .ref 110]) (h' := h_17) 2 rfl q_) ?_
    rw [(show nI (l + 8) + 1 = nI (l + 9) from nI_1 (l + 8))]
    refine GX.pO rfl H_17 rfl (fun h_18 H_18 => ?_)
    refine GX.lift (fun _ q_ => RA.iinc rfl rfl (show (8 : Int32) + Int32.ofInt 1 = 9 by decide +kernel) rfl q_) ?_
    refine GX.lift (fun _ q_ => RA.steps (i' := 10) (L' := [some (.ref 110), some (.int x1), some (.int x2), some (.int x3), some (.int 9), some (.int x3)]) (st' := []) (h' := h_18) 1 rfl q_) ?_
    rw [(nI_cl (show (l + 8) < 100000 by omega)).2] at H_18
    refine GX.lift (fun _ q_ => RA.steps (i' := 12) (L' := [some (.ref 110), some (.int x1), some (.int x2), some (.int x3), some (.int 9), some (.int x3)]) (st' := [.int 12, .int 9]) (h' := h_18) 2 rfl q_) ?_
    refine GX.lift (fun _ q_ => RA.if2F rfl rfl q_) ?_
    refine GX.lift (fun _ q_ => RA.steps (i' := 15) (L' := [some (.ref 110), some (.int x1), some (.int x2), some (.int x3), some (.int 9), some (.int x3)]) (st' := [.int 4, .int 9]) (h' := h_18) 2 rfl q_) ?_
    refine GX.lift (fun _ q_ => RA.if2T rfl rfl q_) ?_
    refine GX.lift (fun _ q_ => RA.steps (i' := 20) (L' := [some (.ref 110), some (.int x1), some (.int x2), some (.int x3), some (.int 9), some (.int x3)]) (st' := [.int 8, .int 9]) (h' := h_18) 2 rfl q_) ?_
    refine GX.lift (fun _ q_ => RA.if2T rfl rfl q_) ?_
    refine GX.lift (fun _ q_ => RA.steps (i' := 26) (L' := [some (.ref 110), some (.int x1), some (.int x2), some (.int x3), some (.int 9), some (.int x3)]) (st' := [.ref 110]) (h' := h_18) 3 rfl q_) ?_
    refine GX.lift (fun _ q_ => RA.getf rfl H_18.2.1 rfl ((fsn (by decide)).trans ((fsn (by decide)).trans ((fsn (by decide)).trans ((fsn (by decide)).trans ((fsn (by decide)).trans ((fsn (by decide)).trans ((fsn (by decide)).trans ((fsn (by decide)).trans ((fsn (by decide)).trans f14))))))))) q_) ?_
    refine GX.lift (fun _ q_ => RA.steps (i' := 28) (L' := [some (.ref 110), some (.int x1), some (.int x2), some (.int x3), some (.int 9), some (.int x3)]) (st' := [.ref 110, .ref 124]) (h' := h_18) 1 rfl q_) ?_
    refine GX.lift (fun _ q_ => RA.getf rfl H_18.2.1 rfl (fset (fset (fset (fset (fset (fset (fset (fset (fset f15))))))))) q_) ?_
    refine GX.lift (fun _ q_ => RA.steps (i' := 35) (L' := [some (.ref 110), some (.int x1), some (.int x2), some (.int x3), some (.int 9), some (.int x3)]) (st' := [.int (9 - 9 / 4 * 4), .int 8, .int 24, .int x3, .int (nI (l + 9)), .ref 124]) (h' := h_18) 6 rfl q_) ?_
    rw [(show (9 : Int32) - 9 / 4 * 4 = 1 by decide +kernel)]
    refine GX.lift (fun _ q_ => RA.steps (i' := 36) (L' := [some (.ref 110), some (.int x1), some (.int x2), some (.int x3), some (.int 9), some (.int x3)]) (st' := [.int (8 * 1), .int 24, .int x3, .int (nI (l + 9)), .ref 124]) (h' := h_18) 1 rfl q_) ?_
    rw [(show (8 : Int32) * 1 = 8 by decide +kernel)]
    refine GX.lift (fun _ q_ => RA.steps (i' := 37) (L' := [some (.ref 110), some (.int x1), some (.int x2), some (.int x3), some (.int 9), some (.int x3)]) (st' := [.int (24 - 8), .int x3, .int (nI (l + 9)), .ref 124]) (h' := h_18) 1 rfl q_) ?_
    rw [(show (24 : Int32) - 8 = 16 by decide +kernel)]
    refine GX.lift (fun _ q_ => RA.steps (i' := 40) (L' := [some (.ref 110), some (.int x1), some (.int x2), some (.int x3), some (.int 9), some (.int x3)]) (st' := [.int ((x3 >>> ((16 : Int32) &&& 31)) &&& 255), .int (nI (l + 9)), .ref 124]) (h' := h_18) 3 rfl q_) ?_
    refine GX.sO rfl H_18 ⟨(nI_cl (by omega)).1, by rw [(nI_cl (by omega)).2]; omega⟩ (fun h_19 H_19 => ?_)
    refine GX.lift (fun _ q_ => RA.steps (i' := 43) (L' := [some (.ref 110), some (.int x1), some (.int x2), some (.int x3), some (.int 9), some (.int x3)]) (st' := [.ref 110, .ref 110]) (h' := h_19) 2 rfl q_) ?_
    refine GX.lift (fun _ q_ => RA.getf rfl H_19.2.1 rfl (fset (fset (fset (fset (fset (fset (fset (fset (fset f15))))))))) q_) ?_
    refine GX.lift (fun _ q_ => RA.steps (i' := 46) (L' := [some (.ref 110), some (.int x1), some (.int x2), some (.int x3), some (.int 9), some (.int x3)]) (st' := [.int ((nI (l + 9)) + 1), .ref 110]) (h' := h_19) 2 rfl q_) ?_
    rw [(show nI (l + 9) + 1 = nI (l + 10) from nI_1 (l + 9))]
    refine GX.pO rfl H_19 rfl (fun h_20 H_20 => ?_)
    refine GX.lift (fun _ q_ => RA.iinc rfl rfl (show (9 : Int32) + Int32.ofInt 1 = 10 by decide +kernel) rfl q_) ?_
    refine GX.lift (fun _ q_ => RA.steps (i' := 10) (L' := [some (.ref 110), some (.int x1), some (.int x2), some (.int x3), some (.int 10), some (.int x3)]) (st' := []) (h' := h_20) 1 rfl q_) ?_
    rw [(nI_cl (show (l + 9) < 100000 by omega)).2] at H_20
    refine GX.lift (fun _ q_ => RA.steps (i' := 12) (L' := [some (.ref 110), some (.int x1), some (.int x2), some (.int x3), some (.int 10), some (.int x3)]) (st' := [.int 12, .int 10]) (h' := h_20) 2 rfl q_) ?_
    refine GX.lift (fun _ q_ => RA.if2F rfl rfl q_) ?_
    refine GX.lift (fun _ q_ => RA.steps (i' := 15) (L' := [some (.ref 110), some (.int x1), some (.int x2), some (.int x3), some (.int 10), some (.int x3)]) (st' := [.int 4, .int 10]) (h' := h_20) 2 rfl q_) ?_
    refine GX.lift (fun _ q_ => RA.if2T rfl rfl q_) ?_
    refine GX.lift (fun _ q_ => RA.steps (i' := 20) (L' := [some (.ref 110), some (.int x1), some (.int x2), some (.int x3), some (.int 10), some (.int x3)]) (st' := [.int 8, .int 10]) (h' := h_20) 2 rfl q_) ?_
    refine GX.lift (fun _ q_ => RA.if2T rfl rfl q_) ?_
    refine GX.lift (fun _ q_ => RA.steps (i' := 26) (L' := [some (.ref 110), some (.int x1), some (.int x2), some (.int x3), some (.int 10), some (.int x3)]) (st' := [.ref 110]) (h' := h_20) 3 rfl q_) ?_
    refine GX.lift (fun _ q_ => RA.getf rfl H_20.2.1 rfl ((fsn (by decide)).trans ((fsn (by decide)).trans ((fsn (by decide)).trans ((fsn (by decide)).trans ((fsn (by decide)).trans ((fsn (by decide)).trans ((fsn (by decide)).trans ((fsn (by decide)).trans ((fsn (by decide)).trans ((fsn (by decide)).trans f14)))))))))) q_) ?_
    refine GX.lift (fun _ q_ => RA.steps (i' := 28) (L' := [some (.ref 110), some (.int x1), some (.int x2), some (.int x3), some (.int 10), some (.int x3)]) (st' := [.ref 110, .ref 124]) (h' := h_20) 1 rfl q_) ?_
    refine GX.lift (fun _ q_ => RA.getf rfl H_20.2.1 rfl (fset (fset (fset (fset (fset (fset (fset (fset (fset (fset f15)))))))))) q_) ?_
    refine GX.lift (fun _ q_ => RA.steps (i' := 35) (L' := [some (.ref 110), some (.int x1), some (.int x2), some (.int x3), some (.int 10), some (.int x3)]) (st' := [.int (10 - 10 / 4 * 4), .int 8, .int 24, .int x3, .int (nI (l + 10)), .ref 124]) (h' := h_20) 6 rfl q_) ?_
    rw [(show (10 : Int32) - 10 / 4 * 4 = 2 by decide +kernel)]
    refine GX.lift (fun _ q_ => RA.steps (i' := 36) (L' := [some (.ref 110), some (.int x1), some (.int x2), some (.int x3), some (.int 10), some (.int x3)]) (st' := [.int (8 * 2), .int 24, .int x3, .int (nI (l + 10)), .ref 124]) (h' := h_20) 1 rfl q_) ?_
    rw [(show (8 : Int32) * 2 = 16 by decide +kernel)]
    refine GX.lift (fun _ q_ => RA.steps (i' := 37) (L' := [some (.ref 110), some (.int x1), some (.int x2), some (.int x3), some (.int 10), some (.int x3)]) (st' := [.int (24 - 16), .int x3, .int (nI (l + 10)), .ref 124]) (h' := h_20) 1 rfl q_) ?_
    rw [(show (24 : Int32) - 16 = 8 by decide +kernel)]
    refine GX.lift (fun _ q_ => RA.steps (i' := 40) (L' := [some (.ref 110), some (.int x1), some (.int x2), some (.int x3), some (.int 10), some (.int x3)]) (st' := [.int ((x3 >>> ((8 : Int32) &&& 31)) &&& 255), .int (nI (l + 10)), .ref 124]) (h' := h_20) 3 rfl q_) ?_
    refine GX.sO rfl H_20 ⟨(nI_cl (by omega)).1, by rw [(nI_cl (by omega)).2]; omega⟩ (fun h_21 H_21 => ?_)
    refine GX.lift (fun _ q_ => RA.steps (i' := 43) (L' := [some (.ref 110), some (.int x1), some (.int x2), some (.int x3), some (.int 10), some (.int x3)]) (st' := [.ref 110, .ref 110]) (h' := h_21) 2 rfl q_) ?_
    refine GX.lift (fun _ q_ => RA.getf rfl H_21.2.1 rfl (fset (fset (fset (fset (fset (fset (fset (fset (fset (fset f15)))))))))) q_) ?_
    refine GX.lift (fun _ q_ => RA.steps (i' := 46) (L' := [some (.ref 110), some (.int x1), some (.int x2), some (.int x3), some (.int 10), some (.int x3)]) (st' := [.int ((nI (l + 10)) + 1), .ref 110]) (h' := h_21) 2 rfl q_) ?_
    rw [(show nI (l + 10) + 1 = nI (l + 11) from nI_1 (l + 10))]
    refine GX.pO rfl H_21 rfl (fun h_22 H_22 => ?_)
    refine GX.lift (fun _ q_ => RA.iinc rfl rfl (show (10 : Int32) + Int32.ofInt 1 = 11 by decide +kernel) rfl q_) ?_
    refine GX.lift (fun _ q_ => RA.steps (i' := 10) (L' := [some (.ref 110), some (.int x1), some (.int x2), some (.int x3), some (.int 11), some (.int x3)]) (st' := []) (h' := h_22) 1 rfl q_) ?_
    rw [(nI_cl (show (l + 10) < 100000 by omega)).2] at H_22
    refine GX.lift (fun _ q_ => RA.steps (i' := 12) (L' := [some (.ref 110), some (.int x1), some (.int x2), some (.int x3), some (.int 11), some (.int x3)]) (st' := [.int 12, .int 11]) (h' := h_22) 2 rfl q_) ?_
    refine GX.lift (fun _ q_ => RA.if2F rfl rfl q_) ?_
    refine GX.lift (fun _ q_ => RA.steps (i' := 15) (L' := [some (.ref 110), some (.int x1), some (.int x2), some (.int x3), some (.int 11), some (.int x3)]) (st' := [.int 4, .int 11]) (h' := h_22) 2 rfl q_) ?_
    refine GX.lift (fun _ q_ => RA.if2T rfl rfl q_) ?_
    refine GX.lift (fun _ q_ => RA.steps (i' := 20) (L' := [some (.ref 110), some (.int x1), some (.int x2), some (.int x3), some (.int 11), some (.int x3)]) (st' := [.int 8, .int 11]) (h' := h_22) 2 rfl q_) ?_
    refine GX.lift (fun _ q_ => RA.if2T rfl rfl q_) ?_
    refine GX.lift (fun _ q_ => RA.steps (i' := 26) (L' := [some (.ref 110), some (.int x1), some (.int x2), some (.int x3), some (.int 11), some (.int x3)]) (st' := [.ref 110]) (h' := h_22) 3 rfl q_) ?_
    refine GX.lift (fun _ q_ => RA.getf rfl H_22.2.1 rfl ((fsn (by decide)).trans ((fsn (by decide)).trans ((fsn (by decide)).trans ((fsn (by decide)).trans ((fsn (by decide)).trans ((fsn (by decide)).trans ((fsn (by decide)).trans ((fsn (by decide)).trans ((fsn (by decide)).trans ((fsn (by decide)).trans ((fsn (by decide)).trans f14))))))))))) q_) ?_
    refine GX.lift (fun _ q_ => RA.steps (i' := 28) (L' := [some (.ref 110), some (.int x1), some (.int x2), some (.int x3), some (.int 11), some (.int x3)]) (st' := [.ref 110, .ref 124]) (h' := h_22) 1 rfl q_) ?_
    refine GX.lift (fun _ q_ => RA.getf rfl H_22.2.1 rfl (fset (fset (fset (fset (fset (fset (fset (fset (fset (fset (fset f15))))))))))) q_) ?_
    refine GX.lift (fun _ q_ => RA.steps (i' := 35) (L' := [some (.ref 110), some (.int x1), some (.int x2), some (.int x3), some (.int 11), some (.int x3)]) (st' := [.int (11 - 11 / 4 * 4), .int 8, .int 24, .int x3, .int (nI (l + 11)), .ref 124]) (h' := h_22) 6 rfl q_) ?_
    rw [(show (11 : Int32) - 11 / 4 * 4 = 3 by decide +kernel)]
    refine GX.lift (fun _ q_ => RA.steps (i' := 36) (L' := [some (.ref 110), some (.int x1), some (.int x2), some (.int x3), some (.int 11), some (.int x3)]) (st' := [.int (8 * 3), .int 24, .int x3, .int (nI (l + 11)), .ref 124]) (h' := h_22) 1 rfl q_) ?_
    rw [(show (8 : Int32) * 3 = 24 by decide +kernel)]
    refine GX.lift (fun _ q_ => RA.steps (i' := 37) (L' := [some (.ref 110), some (.int x1), some (.int x2), some (.int x3), some (.int 11), some (.int x3)]) (st' := [.int (24 - 24), .int x3, .int (nI (l + 11)), .ref 124]) (h' := h_22) 1 rfl q_) ?_
    rw [(show (24 : Int32) - 24 = 0 by decide +kernel)]
    refine GX.lift (fun _ q_ => RA.steps (i' := 40) (L' := [some (.ref 110), some (.int x1), some (.int x2), some (.int x3), some (.int 11), some (.int x3)]) (st' := [.int ((x3 >>> ((0 : Int32) &&& 31)) &&& 255), .int (nI (l + 11)), .ref 124]) (h' := h_22) 3 rfl q_) ?_
    refine GX.sO rfl H_22 ⟨(nI_cl (by omega)).1, by rw [(nI_cl (by omega)).2]; omega⟩ (fun h_23 H_23 => ?_)
    refine GX.lift (fun _ q_ => RA.steps (i' := 43) (L' := [some (.ref 110), some (.int x1), some (.int x2), some (.int x3), some (.int 11), some (.int x3)]) (st' := [.ref 110, .ref 110]) (h' := h_23) 2 rfl q_) ?_
    refine GX.lift (fun _ q_ => RA.getf rfl H_23.2.1 rfl (fset (fset (fset (fset (fset (fset (fset (fset (fset (fset (fset f15))))))))))) q_) ?_
    refine GX.lift (fun _ q_ => RA.steps (i' := 46) (L' := [some (.ref 110), some (.int x1), some (.int x2), some (.int x3), some (.int 11), some (.int x3)]) (st' := [.int ((nI (l + 11)) + 1), .ref 110]) (h' := h_23) 2 rfl q_) ?_
    rw [(show nI (l + 11) + 1 = nI (l + 12) from nI_1 (l + 11))]
    refine GX.pO rfl H_23 rfl (fun h_24 H_24 => ?_)
    refine GX.lift (fun _ q_ => RA.iinc rfl rfl (show (11 : Int32) + Int32.ofInt 1 = 12 by decide +kernel) rfl q_) ?_
    refine GX.lift (fun _ q_ => RA.steps (i' := 10) (L' := [some (.ref 110), some (.int x1), some (.int x2), some (.int x3), some (.int 12), some (.int x3)]) (st' := []) (h' := h_24) 1 rfl q_) ?_
    rw [(nI_cl (show (l + 11) < 100000 by omega)).2] at H_24
    refine GX.lift (fun _ q_ => RA.steps (i' := 12) (L' := [some (.ref 110), some (.int x1), some (.int x2), some (.int x3), some (.int 12), some (.int x3)]) (st' := [.int 12, .int 12]) (h' := h_24) 2 rfl q_) ?_
    refine GX.lift (fun _ q_ => RA.if2T rfl rfl q_) ?_
    refine GX.lift (fun _ q_ => RA.steps (i' := 50) (L' := [some (.ref 110), some (.int x1), some (.int x2), some (.int x3), some (.int 12), some (.int x3)]) (st' := [.ref 110]) (h' := h_24) 1 rfl q_) ?_
    refine GX.lift (fun _ q_ => RA.getf rfl H_24.2.1 rfl (fset (fset (fset (fset (fset (fset (fset (fset (fset (fset (fset (fset f15)))))))))))) q_) ?_
    refine GX.ret rfl rfl ?_
    exact ⟨rfl, _, H_24, (fset (fset (fset (fset (fset (fset (fset (fset (fset (fset (fset (fset f15))))))))))))⟩
  obtain ⟨r_, h1, q, rfl, gs1, w1, w2⟩ := key
  exact ⟨h1, gs1, ⟨Nat.le_of_ble_eq_true rfl, ⟨_, _, rfl⟩, q⟩, w1, w2⟩
end FEE2
