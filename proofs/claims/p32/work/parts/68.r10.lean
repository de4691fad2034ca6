/-! ===== text of the reference against the class's turns ===== -/
section TXV
variable {E : pX} {h h1 h2 h3 h4 : List pC}
set_option maxRecDepth 100000 in
set_option maxHeartbeats 40000000 in
theorem sa_ty : (List.range 14).all (fun c => fsegchk prog HT [(111, 111, 1, 1), (111, 111, 75 + 200 * c, 77 + 200 * c)] [] (fun _ _ => none) 70 3 220 10 false [.inl (0, 2), .inl (0, 98), .inl (-2147483648, 2147483647)] [(rf5 111, cn 1, cn (c : Int)), (rf5 110, cn 23, (1, 1, 0, 1)), (rf5 110, cn 25, (1, 1, 0, 2))] [(5, 0, 0, 110), (1, 1, 0, 0), (7, 0, 0, 0)] [] [] [(some (cn (c : Int)), ([(rf5 111, cn 1, cn ((c : Int) + 1)), (rf5 111, cn ((77 + 200 * c : Nat) : Int), (1, 1, 0, 1)), (rf5 111, cn ((75 + 200 * c : Nat) : Int), (1, 1, 0, 0)), (rf5 111, cn ((76 + 200 * c : Nat) : Int), (1, 1, 0, 2))], [], []))]) = true := by decide +kernel
/-- what text comes to, in the class's terms -/
def TXO (g : Nat → Int32) (n c : Nat) (h : List pC) (r : Option Value) (h' : List pC) : Prop := (∀ i : Nat, 75 ≤ i → i < 75 + 200 * c → ri h' 111 i = ri h 111 i) ∧ ((keyV g (fw g n) (wEnd g n (fw g n)) = -1 ∧ r = some (.int (-100 - nI (fw g n))) ∧ ri h' 111 1 = nI c) ∨ ∃ (key : Int32) (k : Nat) (c' : KS), keyV g (fw g n) (wEnd g n (fw g n)) = key ∧ (key = 0 ∨ key = 1 ∨ key = 2) ∧ its g n key k (c0S g n) = some c' ∧ cst g n key c' = some none ∧ ((¬ okS g n c' ∧ r = some (.int (-100 - nI c'.1)) ∧ ri h' 111 1 = nI c) ∨ (okS g n c' ∧ ((c = 14 ∧ r = some (.int (-1000000003)) ∧ ri h' 111 1 = nI c) ∨ (c < 14 ∧ r = some (.int (nI c)) ∧ ri h' 111 1 = nI (c + 1) ∧ ri h' 111 (75 + 200 * c) = key ∧ ri h' 111 (76 + 200 * c) = c'.2.2.2.2)))))
theorem text_v {c n : Nat} {g : Nat → Int32} (d : Nat) (h : List pC) (hd : 90 ≤ d) (hh : HI HT h) (hj : JT h) (hc : c ≤ 14) (h1c : ri h 111 1 = nI c) (hg : ∀ j : Nat, j < 96 → ri h 124 j = g j) (hn : n ≤ 96) (hl : ri h 110 15 = nI n) : Gl prog E pV1 (fun r h' => (LPo WTx h r h' ∧ fi h' 15 = 0) ∧ TXO g n c h r h') d mX8_text 0 (pent (m_l mX8_text) [.ref 110]) [] h [] := by
  obtain ⟨d, rfl⟩ : ∃ d', d = d' + 81 := ⟨d - 81, by omega⟩
  obtain ⟨w, h1, q1, hp, out⟩ := parse_v (E := E) (d := d) hh hc h1c hg hn hl
  obtain ⟨fr1, k111, k112⟩ := pa_fr hc hp
  have hb : (if c < 14 then 79 + 200 * c else 2875 : Nat) ≤ 2875 ∧ 79 ≤ (if c < 14 then 79 + 200 * c else 2875 : Nat) := by split <;> omega
  have hb2 : 75 + 200 * c ≤ (if c < 14 then 79 + 200 * c else 2875 : Nat) := by split <;> omega
  obtain ⟨hh1, p2, hw, h15⟩ := hp
  have h1c' : ri h1 111 1 = nI c := by rw [k111 1 (by omega)]; exact h1c
  have rows : ∀ i : Nat, 75 ≤ i → i < 75 + 200 * c → ri h1 111 i = ri h 111 i := fun i _ i2 => k111 i (by omega)
  have hj1 : JT h1 := ⟨ti_keep hj.1 h1c hc h1c' hc (fun i i1 i2 => k111 i (by omega)) (fun t t1 t2 => by omega), TI_eq (k112 1) (fun j _ _ => k112 j) hj.2⟩
  have pre : ∀ res, RA prog E pV1 (d + 81) mX8_text 4 [some (.ref 110), some (.int w), none] [.int w] h1 res → RA prog E pV1 (d + 81) mX8_text 0 (pent (m_l mX8_text) [.ref 110]) [] h res := by
    intro res k
    refine RA.steps 1 rfl ?_
    refine call110 rfl rfl rfl rfl hh rfl (Nat.le_of_ble_eq_true rfl) q1 ?_
    exact RA.steps 2 rfl k
  obtain ⟨fs1, ho1, -⟩ := hi_obj hh1 HTm
  obtain ⟨c16, -⟩ := m_fld hh1 (i := 16) (lo := 0) (hi := 96) rfl
  have top : ∀ v : Int32, retG (some (.int v)) (some (-2147483648, 2147483647)) := fun v => ⟨v, rfl, i32_lo v, i32_hi v⟩
  rcases hw with rfl | ⟨w0, w2, l0, l1, hT1⟩
  · have tx : TXO g n c h (some (.int (-100 - ri h1 110 16))) h1 := by
      refine ⟨rows, ?_⟩
      rcases out with ⟨o1, -, o3⟩ | ⟨key, k, c', o1, o2, o3, o4, o5⟩
      · exact Or.inl ⟨o1, by rw [o3], h1c'⟩
      · refine Or.inr ⟨key, k, c', o1, o2, o3, o4, ?_⟩
        rcases o5 with ⟨-, o6, o7⟩ | ⟨o6, -⟩
        · exact Or.inl ⟨o6, by rw [o7], h1c'⟩
        · rw [← o6] at o2
          rcases o2 with y | y | y <;> exact absurd y (by decide)
    refine ⟨some (.int (-100 - ri h1 110 16)), h1, pre _ ?_, ⟨⟨top _, hh1, fr1, hj1⟩, h15⟩, tx⟩
    refine RA.if1F rfl rfl ?_
    refine RA.steps 2 rfl ?_
    refine RA.getf rfl ho1 rfl (fld_at ho1 c16) ?_
    refine RA.steps (i' := 9) (L' := [some (.ref 110), some (.int (-1)), none]) (st' := [.int (-100 - ri h1 110 16)]) (h' := h1) 1 rfl ?_
    exact RA.ret rfl rfl
  · have wpos : (0 : Int32) ≤ w := Int32.le_iff_toInt_le.mpr w0
    have wn : w ≠ -1 := fun y => by rw [y] at w0; exact absurd w0 (by decide)
    obtain ⟨key, k, c', o1, o2, o3, o4, o6, o7, o8⟩ : ∃ (key : Int32) (k : Nat) (c' : KS), keyV g (fw g n) (wEnd g n (fw g n)) = key ∧ (key = 0 ∨ key = 1 ∨ key = 2) ∧ its g n key k (c0S g n) = some c' ∧ cst g n key c' = some none ∧ w = key ∧ okS g n c' ∧ ri h1 110 25 = c'.2.2.2.2 := by
      rcases out with ⟨-, o2, -⟩ | ⟨key, k, c', o1, o2, o3, o4, o5⟩
      · exact absurd o2 wn
      · rcases o5 with ⟨o6, -⟩ | o5
        · exact absurd o6 wn
        · exact ⟨key, k, c', o1, o2, o3, o4, o5⟩
    obtain ⟨fs, ho, f0', -, -⟩ := m_obj hh1
    obtain ⟨f, p1, u1, -⟩ := hi_int hh1 HT111
    have hf1 : f 1 = nI c := by rw [← u1 1 (by decide)]; exact h1c'
    by_cases c14 : c = 14
    · subst c14
      refine ⟨some (.int (-1000000003)), h1, pre _ ?_, ⟨⟨top _, hh1, fr1, hj1⟩, h15⟩, ⟨rows, Or.inr ⟨key, k, c', o1, o2, o3, o4, Or.inr ⟨o7, Or.inl ⟨rfl, rfl, h1c'⟩⟩⟩⟩⟩
      refine RA.if1T rfl (decide_eq_true wpos) ?_
      refine RA.steps 1 rfl ?_
      refine RA.getf rfl ho rfl f0' ?_
      refine RA.steps 1 rfl ?_
      refine RA.iald rfl p1 ⟨by decide, Nat.le_of_ble_eq_true rfl⟩ hf1 ?_
      refine RA.steps 1 rfl ?_
      refine RA.if2F rfl rfl ?_
      refine RA.steps 1 rfl ?_
      exact RA.ret rfl rfl
    · have c13 : c < 14 := by omega
      rw [if_pos c13] at hT1 k111
      refine Gl.via (i' := 10) (L' := [some (.ref 110), some (.int w), none]) (st' := []) (h1 := h1) (fun res k => pre _ (RA.if1T rfl (decide_eq_true wpos) k)) ?_
      obtain ⟨c23, r23⟩ := m_fld hh1 (i := 23) (lo := 0) (hi := 98) rfl
      have hct1 : ct h1 111 1 = some (.int (nI c)) := by rw [ct_ri p1 (by decide), hf1]
      refine fseg_ok (σ0 := fun j => match j with | 0 => w.toInt | 1 => fi h1 23 | _ => fi h1 25) (J := fun _ => True) (List.all_eq_true.mp sa_ty c (List.mem_range.mpr c13)) rfl (fun k N c hk => by cases hk) (fun _ _ => trivial) (by omega) ?_ (cok.cs ⟨111, 1, _, Or.inl ⟨rfl, rfl⟩, cnZ 1, hct1, Nat.zero_le 1, by rw [nI_toInt (by omega)]; exact cnZ _⟩ (cok.cs (ck_f (lo := 0) (hi := 98) hh1 rfl (by decide) rfl) (cok.cs (ck_f (lo := -2147483648) (hi := 2147483647) hh1 rfl (by decide) rfl) cok.nil))) (LG.cons (lGr 110) (LG.cons (lGi (by decide) (by show w.toInt = 1 * w.toInt + 0; omega)) (LG.cons (lG.any rfl) LGn))) trivial hh1 (fun p hp' r h2 hr hp2 hh2 hf2 => ?_) (fun z hz => by cases hz)
      · intro k e hk
        match k, hk with
        | 0, hk => cases hk; exact ⟨w0, w2⟩
        | 1, hk => cases hk; exact r23
        | 2, hk => cases hk; exact ⟨i32_lo _, i32_hi _⟩
        | k + 3, hk => simp at hk
      · obtain rfl := List.mem_singleton.mp hp'
        have e1 : ri h2 111 1 = nI (c + 1) := by
          obtain ⟨v, hv, hz⟩ := ck_g (a := 111) (i := 1) hp2.1 List.mem_cons_self
          obtain ⟨v2, rfl, hz2⟩ := hz.int (Nat.zero_le 1)
          have := det_ok (x := cn ((c : Int) + 1)) (by unfold det cn; simp) hz2 (cnZ _)
          unfold ri
          rw [hv]
          show v2 = nI (c + 1)
          exact toI (by omega) (by rw [this]; omega)
        have e2 : ri h2 111 (77 + 200 * c) = nI (fi h1 23).toNat := by
          obtain ⟨v, hv, hz⟩ := ck_g (a := 111) (i := 77 + 200 * c) hp2.1 (List.mem_cons_of_mem _ List.mem_cons_self)
          obtain ⟨v2, rfl, hz2⟩ := hz.int (Nat.le_refl 1)
          have := (hz2.lin (show ¬ (1 : Nat) % 2 = 0 by decide)).1
          have this : v2.toInt = 1 * fi h1 23 + 0 := this
          unfold ri
          rw [hv]
          show v2 = nI (fi h1 23).toNat
          exact toI (by omega) (by omega)
        have e3 : ∀ i, ¬ i = 1 → ¬ (75 + 200 * c ≤ i ∧ i ≤ 77 + 200 * c) → ri h2 111 i = ri h1 111 i := fun i n1 n2 => ri_fr hf2 (nin_iff.mpr (by
          simp only [List.forall_mem_cons]
          exact ⟨by omega, by omega, fun _ h => absurd h List.not_mem_nil⟩))
        have e4 : ∀ i, ri h2 112 i = ri h1 112 i := fun i => ri_fr hf2 (nin_iff.mpr (by
          simp only [List.forall_mem_cons]
          exact ⟨by omega, by omega, fun _ h => absurd h List.not_mem_nil⟩))
        have fr2 : Fr WTx h1 h2 := fun a i hi => by
          have hi2 := nin_iff.mp hi
          simp only [WTx, List.forall_mem_cons] at hi2
          obtain ⟨n1, n2, n3, -⟩ := hi2
          exact hf2 a i (nin_iff.mpr (by
            simp only [List.forall_mem_cons]
            exact ⟨by omega, by omega, fun _ h => absurd h List.not_mem_nil⟩))
        have hj2 : JT h2 := ⟨ti_keep hj1.1 h1c' hc e1 (by omega) (fun i i1 i2 => e3 i (by omega) (by omega)) (fun t t1 t2 => by
          obtain rfl : t = c := by omega
          refine ⟨(fi h1 23).toNat, by omega, e2, ?_⟩
          refine hT_wf _ _ _ 1 ?_
          rw [show 75 + 200 * t + 4 = 79 + 200 * t by omega, hT_eq (f := ri h1 111) _ _ _ (fun j j1 j2 => e3 j (by omega) (by omega))]
          exact hT1 0), TI_eq (e4 1) (fun j _ _ => e4 j) hj1.2⟩
        have e5 : ri h2 111 (75 + 200 * c) = w := by
          obtain ⟨v, hv, hz⟩ := ck_g (a := 111) (i := 75 + 200 * c) hp2.1 (List.mem_cons_of_mem _ (List.mem_cons_of_mem _ List.mem_cons_self))
          obtain ⟨v2, rfl, hz2⟩ := hz.int (Nat.le_refl 1)
          have := (hz2.lin (show ¬ (1 : Nat) % 2 = 0 by decide)).1
          have this : v2.toInt = 1 * w.toInt + 0 := this
          unfold ri
          rw [hv]
          exact Int32.toInt_inj.mp (by show v2.toInt = w.toInt; omega)
        have e6 : ri h2 111 (76 + 200 * c) = ri h1 110 25 := by
          obtain ⟨v, hv, hz⟩ := ck_g (a := 111) (i := 76 + 200 * c) hp2.1 (List.mem_cons_of_mem _ (List.mem_cons_of_mem _ (List.mem_cons_of_mem _ List.mem_cons_self)))
          obtain ⟨v2, rfl, hz2⟩ := hz.int (Nat.le_refl 1)
          have := (hz2.lin (show ¬ (1 : Nat) % 2 = 0 by decide)).1
          have this : v2.toInt = 1 * fi h1 25 + 0 := this
          unfold ri
          rw [hv]
          exact Int32.toInt_inj.mp (by show v2.toInt = (ri h1 110 25).toInt; unfold fi at this; omega)
        have er : r = some (.int (nI c)) := by
          cases r with
          | none => exact hr.elim
          | some x =>
            obtain ⟨v, rfl, hz⟩ := (show vG _ _ x (cn (c : Int)) from hr).int (Nat.zero_le 1)
            have := det_ok (x := cn (c : Int)) (by unfold det cn; simp) hz (cnZ _)
            rw [toI (v := v) (n := c) (by omega) this]
        refine ⟨⟨⟨?_, hh2, fr1.tr fr2, hj2⟩, ?_⟩, ⟨fun i i1 i2 => (e3 i (by omega) (by omega)).trans (rows i i1 i2), Or.inr ⟨key, k, c', o1, o2, o3, o4, Or.inr ⟨o7, Or.inr ⟨c13, er, e1, e5.trans o6, e6.trans o8⟩⟩⟩⟩⟩
        rotate_left
        · have e15 : ct h2 110 15 = ct h1 110 15 := hf2 110 15 (nin_iff.mpr (by
            simp only [List.forall_mem_cons]
            exact ⟨by omega, by omega, fun _ h => absurd h List.not_mem_nil⟩))
          unfold fi
          rw [ri_ct e15]
          exact h15
        cases r with
        | none => exact hr.elim
        | some x =>
          obtain ⟨v, rfl, -⟩ := (show vG _ _ x (cn (c : Int)) from hr).int (Nat.zero_le 1)
          exact top v
end TXV
/-! ===== text of the class ===== -/
section TXC
variable {E : pX} {Φ : Option Value → List pC → Prop} {d i : Nat} {M : pM} {L : pL} {rest : List Value} {h0 h : List pC} {f g : Nat → Int32}
theorem OM.o {a b c n x : Nat} {gs : List Value} {t : Nat → Int32} {o : Nat × List Value} (H : OM a b c h0 h n gs t) (h1 : x ≠ a) (h2 : x ≠ b) (hp : pobj h0 x = some o) : pobj h x = some o := by
  unfold pobj at hp ⊢
  rw [H.2.2.2 x h1 h2]
  exact hp
theorem OM.pa {a b c n x : Nat} {gs : List Value} {t : Nat → Int32} {o : Nat × (Nat → Int32)} (H : OM a b c h0 h n gs t) (h1 : x ≠ a) (h2 : x ≠ b) (hp : pint h0 x = some o) : pint h x = some o := by
  unfold pint at hp ⊢
  rw [H.2.2.2 x h1 h2]
  exact hp
theorem GX.cO {a b c n nn pc y s0 : Nat} {v : Value} {ts : List Nat} {m sp dp : Int32} {x0 : Nat × (Nat → Int32)} {gs : List Value} {t : Nat → Int32} (he : (m_code M)[i]? = some (pc, .invokestatic nn, 99999, y, v, ts)) (hP : pcall prog (pc, .invokestatic nn, 99999, y, v, ts) (.int m :: .int dp :: .ref b :: .int sp :: .ref s0 :: rest) h = none) (hs : pint h s0 = some x0) (H : OM a b c h0 h n gs t) (hr : pcs rest ≤ 8) (hb : 0 ≤ sp ∧ 0 ≤ dp ∧ 0 ≤ m ∧ sp.toNatClampNeg + m.toNatClampNeg ≤ x0.1 ∧ dp.toNatClampNeg + m.toNatClampNeg ≤ n) (q : ∀ h', OM a b c h0 h' n gs (va_cpy x0.2 t sp.toNatClampNeg dp.toNatClampNeg m.toNatClampNeg) → GX E Φ (d + 1) M (i + 1) L rest h') : GX E Φ (d + 1) M i L (.int m :: .int dp :: .ref b :: .int sp :: .ref s0 :: rest) h := by
  obtain ⟨ab, H1, H2, H3⟩ := H
  exact GX.lift (fun _ z => RA.acpy he hP hs H2 hr hb z) (q _ ⟨ab, (pobj_ne (Ne.symm ab)).trans H1, pint_set (pint_lt H2), fun x h1 h2 => by rw [List.getElem?_set_ne (Ne.symm h2)]; exact H3 x h1 h2⟩)
theorem tkf_x {c : Nat} {ls rs : List Value} {cd t : Nat → Int32} {ln key pc rl rk_ rp : Int32} (hd3 : pobj h 3 = some (0, ls)) (W : LF ls ln key pc) (p4 : pint h 4 = some (96, cd)) (H : OM (6 + 2 * c) (7 + 2 * c) 0 h h 96 rs t) (r0 : rs[0]? = some (.ref (7 + 2 * c))) (r1 : rs[1]? = some (.int rl)) (r2 : rs[2]? = some (.int rk_)) (r3 : rs[3]? = some (.int rp)) : ∃ h1 : List pC, Run prog E pV1 (d + 1) mX0_takeFrom [.ref (6 + 2 * c), .ref 3] h (none, h1, 0, 0) ∧ ∃ (rs1 : List Value) (t1 : Nat → Int32), OM (6 + 2 * c) (7 + 2 * c) 0 h h1 96 rs1 t1 ∧ rs1[2]? = some (.int key) ∧ rs1[3]? = some (.int pc) := by
  have ⟨w0, w1, w2, w3⟩ := W
  have key_ : GX E (fun r_ h1 => r_ = none ∧ ∃ (rs1 : List Value) (t1 : Nat → Int32), OM (6 + 2 * c) (7 + 2 * c) 0 h h1 96 rs1 t1 ∧ rs1[2]? = some (.int key) ∧ rs1[3]? = some (.int pc)) (d + 1) mX0_takeFrom 0 [some (.ref (6 + 2 * c)), some (.ref 3)] [] h := by
    refine GX.lift (fun _ q_ => RA.steps (i' := 1) (L' := [some (.ref (6 + 2 * c)), some (.ref 3)]) (st' := [.ref 3]) (h' := h) 1 rfl q_) ?_
    refine GX.lift (fun _ q_ => RA.getf rfl (H.o (by omega) (by omega) hd3) rfl w0 q_) ?_
    refine GX.lift (fun _ q_ => RA.steps (i' := 4) (L' := [some (.ref (6 + 2 * c)), some (.ref 3)]) (st' := [.ref (6 + 2 * c), .int 0, .ref 4]) (h' := h) 2 rfl q_) ?_
    refine GX.lift (fun _ q_ => RA.getf rfl H.2.1 rfl r0 q_) ?_
    refine GX.lift (fun _ q_ => RA.steps (i' := 7) (L' := [some (.ref (6 + 2 * c)), some (.ref 3)]) (st' := [.int 96, .int 0, .ref (7 + 2 * c), .int 0, .ref 4]) (h' := h) 2 rfl q_) ?_
    refine GX.cO rfl rfl (H.pa (by omega) (by omega) p4) H (Nat.le_of_ble_eq_true rfl) ⟨by decide, by decide, by decide, (show Int32.toNatClampNeg 0 + Int32.toNatClampNeg 96 ≤ 96 by decide), (show Int32.toNatClampNeg 0 + Int32.toNatClampNeg 96 ≤ 96 by decide)⟩ (fun h_1 H_1 => ?_)
    refine GX.lift (fun _ q_ => RA.steps (i' := 10) (L' := [some (.ref (6 + 2 * c)), some (.ref 3)]) (st' := [.ref 3, .ref (6 + 2 * c)]) (h' := h_1) 2 rfl q_) ?_
    refine GX.lift (fun _ q_ => RA.getf rfl (H_1.o (by omega) (by omega) hd3) rfl w1 q_) ?_
    refine GX.pO rfl H_1 rfl (fun h_2 H_2 => ?_)
    refine GX.lift (fun _ q_ => RA.steps (i' := 14) (L' := [some (.ref (6 + 2 * c)), some (.ref 3)]) (st' := [.ref 3, .ref (6 + 2 * c)]) (h' := h_2) 2 rfl q_) ?_
    refine GX.lift (fun _ q_ => RA.getf rfl (H_2.o (by omega) (by omega) hd3) rfl w2 q_) ?_
    refine GX.pO rfl H_2 rfl (fun h_3 H_3 => ?_)
    refine GX.lift (fun _ q_ => RA.steps (i' := 18) (L' := [some (.ref (6 + 2 * c)), some (.ref 3)]) (st' := [.ref 3, .ref (6 + 2 * c)]) (h' := h_3) 2 rfl q_) ?_
    refine GX.lift (fun _ q_ => RA.getf rfl (H_3.o (by omega) (by omega) hd3) rfl w3 q_) ?_
    refine GX.pO rfl H_3 rfl (fun h_4 H_4 => ?_)
    refine GX.ret rfl rfl ?_
    exact ⟨rfl, _, _, H_4, ((fsn (by decide)).trans (fset ((fsn (by decide)).trans r2))), (fset ((fsn (by decide)).trans ((fsn (by decide)).trans r3)))⟩
  obtain ⟨r_, h1, q, rfl, C1⟩ := key_
  exact ⟨h1, ⟨Nat.le_of_ble_eq_true rfl, ⟨_, _, rfl⟩, q⟩, C1⟩
theorem laws_at (hh : HI HT h) : ∃ x : Nat × Nat × (Nat → Option Nat), h[2]? = some (.inr (.inl x)) ∧ x.2.1 = 14 ∧ ∀ k : Nat, k < 14 → x.2.2 k = some (6 + 2 * k) := by
  obtain ⟨c, hc, hy⟩ := hh.2 2 (.inr (.inl (0, 14, fun i => ([6, 8, 10, 12, 14, 16, 18, 20, 22, 24, 26, 28, 30, 32] : List Nat)[i]?))) rfl
  rcases c with x | x | x
  · exact hy.elim
  · obtain ⟨q1, q2, q3⟩ : x.1 = 0 ∧ x.2.1 = 14 ∧ ∀ i : Nat, i < 14 → x.2.2 i = ([6, 8, 10, 12, 14, 16, 18, 20, 22, 24, 26, 28, 30, 32] : List Nat)[i]? := hy
    refine ⟨x, hc, q2, fun k hk => ?_⟩
    rw [q3 k hk]
    match k, hk with
    | 0, _ => rfl
    | 1, _ => rfl
    | 2, _ => rfl
    | 3, _ => rfl
    | 4, _ => rfl
    | 5, _ => rfl
    | 6, _ => rfl
    | 7, _ => rfl
    | 8, _ => rfl
    | 9, _ => rfl
    | 10, _ => rfl
    | 11, _ => rfl
    | 12, _ => rfl
    | 13, _ => rfl
  · exact hy.elim
theorem lone_x {c : Nat} {ms : List Value} {x : Nat × Nat × (Nat → Option Nat)} (hu : c < 14) (ho : pobj h 1 = some (1, ms)) (m0 : ms[0]? = some (.ref 2)) (hc : h[2]? = some (.inr (.inl x))) (hx4 : x.2.1 = 14) (hx : ∀ k : Nat, k < 14 → x.2.2 k = some (6 + 2 * k)) : Run prog E pV1 (d + 1) mX1_one [.ref 1, .int (nI c)] h (some (.ref (6 + 2 * c)), h, 0, 0) := by
  refine ⟨Nat.le_of_ble_eq_true rfl, ⟨_, _, rfl⟩, ?_⟩
  show RA prog E pV1 (d + 1) mX1_one 0 [some (.ref 1), some (.int (nI c))] [] h (some (.ref (6 + 2 * c)), h, 0, 0)
  refine RA.steps (i' := 1) (L' := [some (.ref 1), some (.int (nI c))]) (st' := [.int (nI c)]) (h' := h) 1 rfl ?_
  refine RA.if1F rfl (decide_eq_false (Int32.not_lt.mpr (nI_cl (by omega)).1)) ?_
  refine RA.steps (i' := 4) (L' := [some (.ref 1), some (.int (nI c))]) (st' := [.ref 1, .int (nI c)]) (h' := h) 2 rfl ?_
  refine RA.getf rfl ho rfl m0 ?_
  refine RA.alenR rfl hc hx4 ?_
  refine RA.if2F rfl (decide_eq_false (Int32.not_le.mpr (nI_lt hu (by decide)))) ?_
  refine RA.steps (i' := 8) (L' := [some (.ref 1), some (.int (nI c))]) (st' := [.ref 1]) (h' := h) 1 rfl ?_
  refine RA.getf rfl ho rfl m0 ?_
  refine RA.steps (i' := 10) (L' := [some (.ref 1), some (.int (nI c))]) (st' := [.int (nI c), .ref 2]) (h' := h) 1 rfl ?_
  refine RA.aald rfl hc ⟨(nI_cl (by omega)).1, by rw [(nI_cl (by omega)).2, hx4]; exact hu⟩ (by rw [(nI_cl (by omega)).2]; exact hx c hu) ?_
  refine RA.steps (i' := 13) (L' := [some (.ref 1), some (.int (nI c))]) (st' := [.ref (6 + 2 * c)]) (h' := h) 1 rfl ?_
  exact RA.ret rfl rfl
theorem lrow_x (hh : HI HT h) : ∀ c : Nat, c < 14 → ∃ (rs : List Value) (t : Nat → Int32), OM (6 + 2 * c) (7 + 2 * c) 0 h h 96 rs t ∧ rs[0]? = some (.ref (7 + 2 * c)) ∧ rs[1]? = some (.int (ri h (6 + 2 * c) 1)) ∧ rs[2]? = some (.int (ri h (6 + 2 * c) 2)) ∧ rs[3]? = some (.int (ri h (6 + 2 * c) 3)) := by
  have one : ∀ (a b : Nat) (xs : List AV), a ≠ b → HT[a]? = some (.inr (.inr (0, xs))) → xs[0]? = some (5, 0, 0, b) → HT[b]? = some (.inl (96, [])) → elT HT 2 a 1 1 = some (.inl (-2147483648, 2147483647)) → elT HT 2 a 2 2 = some (.inl (-2147483648, 2147483647)) → elT HT 2 a 3 3 = some (.inl (-2147483648, 2147483647)) → ∃ (rs : List Value) (t : Nat → Int32), OM a b 0 h h 96 rs t ∧ rs[0]? = some (.ref b) ∧ rs[1]? = some (.int (ri h a 1)) ∧ rs[2]? = some (.int (ri h a 2)) ∧ rs[3]? = some (.int (ri h a 3)) := fun a b xs ab h1 h2 h3 h4 h5 h6 => by
    obtain ⟨rs, ho, hF⟩ := hi_obj hh h1
    obtain ⟨t, p, -, -⟩ := hi_int hh h3
    exact ⟨rs, t, ⟨ab, ho, p, fun _ _ _ => rfl⟩, hF.ref (k := 0) h2, fld_i (k := 2) hh ho h4, fld_i (k := 2) hh ho h5, fld_i (k := 2) hh ho h6⟩
  intro c hc
  match c, hc with
  | 0, _ => exact one 6 7 _ (by decide) rfl rfl rfl rfl rfl rfl
  | 1, _ => exact one 8 9 _ (by decide) rfl rfl rfl rfl rfl rfl
  | 2, _ => exact one 10 11 _ (by decide) rfl rfl rfl rfl rfl rfl
  | 3, _ => exact one 12 13 _ (by decide) rfl rfl rfl rfl rfl rfl
  | 4, _ => exact one 14 15 _ (by decide) rfl rfl rfl rfl rfl rfl
  | 5, _ => exact one 16 17 _ (by decide) rfl rfl rfl rfl rfl rfl
  | 6, _ => exact one 18 19 _ (by decide) rfl rfl rfl rfl rfl rfl
  | 7, _ => exact one 20 21 _ (by decide) rfl rfl rfl rfl rfl rfl
  | 8, _ => exact one 22 23 _ (by decide) rfl rfl rfl rfl rfl rfl
  | 9, _ => exact one 24 25 _ (by decide) rfl rfl rfl rfl rfl rfl
  | 10, _ => exact one 26 27 _ (by decide) rfl rfl rfl rfl rfl rfl
  | 11, _ => exact one 28 29 _ (by decide) rfl rfl rfl rfl rfl rfl
  | 12, _ => exact one 30 31 _ (by decide) rfl rfl rfl rfl rfl rfl
  | 13, _ => exact one 32 33 _ (by decide) rfl rfl rfl rfl rfl rfl
theorem ri_ob {a c i : Nat} {gs : List Value} {v : Int32} (ho : pobj h a = some (c, gs)) (hv : gs[i]? = some (.int v)) : ri h a i = v := by
  unfold ri ct
  rw [pobj_at ho]
  dsimp only
  rw [hv]
theorem ri_ar {a n k : Nat} {t : Nat → Int32} (hp : pint h a = some (n, t)) (hk : k < n) : ri h a k = t k := by
  unfold ri
  rw [ct_ri hp hk]
theorem addText_x {c : Nat} {ws ms ls rs : List Value} {x : Nat × Nat × (Nat → Option Nat)} {cd t kt : Nat → Int32} {ln key pc rl rk_ rp : Int32} (hc : c < 14) (hk : key = 0 ∨ key = 1 ∨ key = 2) (ho34 : pobj h 34 = some (6, ws)) (w0 : ws[0]? = some (.ref 1)) (w4 : ws[4]? = some (.ref 38)) (w6 : ws[6]? = some (.int (nI c))) (ho1 : pobj h 1 = some (1, ms)) (m0 : ms[0]? = some (.ref 2)) (m1 : ms[1]? = some (.ref 3)) (hc2 : h[2]? = some (.inr (.inl x))) (hx4 : x.2.1 = 14) (hx : ∀ k : Nat, k < 14 → x.2.2 k = some (6 + 2 * k)) (hd3 : pobj h 3 = some (0, ls)) (W : LF ls ln key pc) (p4 : pint h 4 = some (96, cd)) (HR : OM (6 + 2 * c) (7 + 2 * c) 0 h h 96 rs t) (r0 : rs[0]? = some (.ref (7 + 2 * c))) (r1 : rs[1]? = some (.int rl)) (r2 : rs[2]? = some (.int rk_)) (r3 : rs[3]? = some (.int rp)) (p38 : pint h 38 = some (3, kt)) : ∃ h1 : List pC, Run prog E pV1 (d + 3) mX6_addText [.ref 34] h (some (.int (nI c)), h1, 0, 0) ∧ ri h1 34 6 = nI (c + 1) ∧ ri h1 (6 + 2 * c) 2 = key ∧ ri h1 (6 + 2 * c) 3 = pc ∧ (∀ k : Nat, k < 3 → ri h1 38 k = va_up kt key.toNatClampNeg (nI c) k) ∧ ∀ k : Nat, k < 14 → k ≠ c → ∀ i : Nat, ri h1 (6 + 2 * k) i = ri h (6 + 2 * k) i := by
  have k0 : (0 : Int32) ≤ key := by rcases hk with rfl | rfl | rfl <;> decide
  have k3 : key.toInt < 3 := by rcases hk with rfl | rfl | rfl <;> decide
  have kj : 0 ≤ key ∧ key.toNatClampNeg < 3 := ⟨k0, by rcases hk with rfl | rfl | rfl <;> decide +kernel⟩
  have v2 := W.2.2.1
  obtain ⟨h3, q, rs1, t1, O, u2, u3⟩ := tkf_x (E := E) (d := d + 1) hd3 W p4 HR r0 r1 r2 r3
  have K : OM 34 38 6 h3 h3 3 ws kt := ⟨by decide, O.o (by omega) (by omega) ho34, O.pa (by omega) (by omega) p38, fun _ _ _ => rfl⟩
  have key_ : GX E (fun r_ h1 => r_ = some (.int (nI c)) ∧ ri h1 34 6 = nI (c + 1) ∧ ri h1 (6 + 2 * c) 2 = key ∧ ri h1 (6 + 2 * c) 3 = pc ∧ (∀ k : Nat, k < 3 → ri h1 38 k = va_up kt key.toNatClampNeg (nI c) k) ∧ ∀ k : Nat, k < 14 → k ≠ c → ∀ i : Nat, ri h1 (6 + 2 * k) i = ri h (6 + 2 * k) i) (d + 3) mX6_addText 0 [some (.ref 34), none, none] [] h := by
    refine GX.lift (fun _ q_ => RA.steps (i' := 1) (L' := [some (.ref 34), none, none]) (st' := [.ref 34]) (h' := h) 1 rfl q_) ?_
    refine GX.lift (fun _ q_ => RA.getf rfl ho34 rfl w0 q_) ?_
    refine GX.lift (fun _ q_ => RA.steps (i' := 3) (L' := [some (.ref 34), none, none]) (st' := [.ref 34, .ref 1]) (h' := h) 1 rfl q_) ?_
    refine GX.lift (fun _ q_ => RA.getf rfl ho34 rfl w6 q_) ?_
    refine GX.lift (fun _ q_ => RA.call0 (N := mX1_one) (as := [.ref 1, .int (nI c)]) (rest := []) rfl rfl (pcallV rfl rfl ho1 rfl rfl (Nat.le_of_ble_eq_true rfl)) (lone_x (d := d + 1) hc ho1 m0 hc2 hx4 hx) q_) ?_
    refine GX.lift (fun _ q_ => RA.steps (i' := 7) (L' := [some (.ref 34), some (.ref (6 + 2 * c)), none]) (st' := [.ref 34]) (h' := h) 2 rfl q_) ?_
    refine GX.lift (fun _ q_ => RA.getf rfl ho34 rfl w0 q_) ?_
    refine GX.lift (fun _ q_ => RA.getf rfl ho1 rfl m1 q_) ?_
    refine GX.lift (fun _ q_ => RA.getf rfl hd3 rfl v2 q_) ?_
    refine GX.lift (fun _ q_ => RA.steps (i' := 14) (L' := [some (.ref 34), some (.ref (6 + 2 * c)), some (.int key)]) (st' := [.int key]) (h' := h) 4 rfl q_) ?_
    refine GX.lift (fun _ q_ => RA.if1F rfl (decide_eq_false (Int32.not_lt.mpr k0)) q_) ?_
    refine GX.lift (fun _ q_ => RA.steps (i' := 17) (L' := [some (.ref 34), some (.ref (6 + 2 * c)), some (.int key)]) (st' := [.ref 34, .int key]) (h' := h) 2 rfl q_) ?_
    refine GX.lift (fun _ q_ => RA.getf rfl ho34 rfl w4 q_) ?_
    refine GX.lift (fun _ q_ => RA.alenI rfl p38 q_) ?_
    refine GX.lift (fun _ q_ => RA.if2T rfl (decide_eq_true (Int32.lt_iff_toInt_lt.mpr (by rw [nI_toInt (by decide)]; exact k3))) q_) ?_
    refine GX.lift (fun _ q_ => RA.steps (i' := 24) (L' := [some (.ref 34), some (.ref (6 + 2 * c)), some (.int key)]) (st' := [.ref 34, .ref (6 + 2 * c)]) (h' := h) 2 rfl q_) ?_
    refine GX.lift (fun _ q_ => RA.getf rfl ho34 rfl w0 q_) ?_
    refine GX.lift (fun _ q_ => RA.getf rfl ho1 rfl m1 q_) ?_
    refine GX.lift (fun _ q_ => RA.call0 (N := mX0_takeFrom) (as := [.ref (6 + 2 * c), .ref 3]) (rest := []) rfl rfl (pcallV rfl rfl HR.2.1 rfl rfl (Nat.le_of_ble_eq_true rfl)) q q_) ?_
    refine GX.lift (fun _ q_ => RA.steps (i' := 28) (L' := [some (.ref 34), some (.ref (6 + 2 * c)), some (.int key)]) (st' := [.ref 34]) (h' := h3) 1 rfl q_) ?_
    refine GX.lift (fun _ q_ => RA.getf rfl K.2.1 rfl w4 q_) ?_
    refine GX.lift (fun _ q_ => RA.steps (i' := 31) (L' := [some (.ref 34), some (.ref (6 + 2 * c)), some (.int key)]) (st' := [.ref 34, .int key, .ref 38]) (h' := h3) 2 rfl q_) ?_
    refine GX.lift (fun _ q_ => RA.getf rfl K.2.1 rfl w6 q_) ?_
    refine GX.sO rfl K kj (fun k_1 K_1 => ?_)
    refine GX.lift (fun _ q_ => RA.steps (i' := 35) (L' := [some (.ref 34), some (.ref (6 + 2 * c)), some (.int key)]) (st' := [.ref 34, .ref 34]) (h' := k_1) 2 rfl q_) ?_
    refine GX.lift (fun _ q_ => RA.getf rfl K_1.2.1 rfl w6 q_) ?_
    refine GX.lift (fun _ q_ => RA.steps (i' := 38) (L' := [some (.ref 34), some (.ref (6 + 2 * c)), some (.int key)]) (st' := [.int ((nI c) + 1), .ref 34]) (h' := k_1) 2 rfl q_) ?_
    rw [(nI_1 c)]
    refine GX.pO rfl K_1 rfl (fun k_2 K_2 => ?_)
    refine GX.lift (fun _ q_ => RA.steps (i' := 40) (L' := [some (.ref 34), some (.ref (6 + 2 * c)), some (.int key)]) (st' := [.ref 34]) (h' := k_2) 1 rfl q_) ?_
    refine GX.lift (fun _ q_ => RA.getf rfl K_2.2.1 rfl (fset w6) q_) ?_
    refine GX.lift (fun _ q_ => RA.steps (i' := 43) (L' := [some (.ref 34), some (.ref (6 + 2 * c)), some (.int key)]) (st' := [.int ((nI (c + 1)) - 1)]) (h' := k_2) 2 rfl q_) ?_
    rw [(show nI (c + 1) - 1 = nI c by rw [← nI1, nIsub (by omega) (by omega)]; rfl)]
    refine GX.ret rfl rfl ?_
    exact ⟨rfl, ri_ob K_2.2.1 (fset w6), ri_ob (K_2.o (by omega) (by omega) O.2.1) u2, ri_ob (K_2.o (by omega) (by omega) O.2.1) u3, fun k hk => ri_ar K_2.2.2.1 hk, fun k hk hkc i => by unfold ri ct; rw [K_2.2.2.2 (6 + 2 * k) (by omega) (by omega), O.2.2.2 (6 + 2 * k) (by omega) (by omega)]⟩
  obtain ⟨r_, h1, q, rfl, C1⟩ := key_
  exact ⟨h1, ⟨Nat.le_of_ble_eq_true rfl, ⟨_, _, rfl⟩, q⟩, C1⟩
theorem txc_f {c : Nat} {gs ls : List Value} {sg : Nat → Int32} {r : Int32} {h1 : List pC} (hh : HI HT h) (h6 : ri h 34 6 = nI c) (q1 : Run prog E pV1 (d + 4) mX2_readInto [.ref 76, .ref 3] h (some (.int r), h1, 0, 0)) (C : CM h h1 gs ls sg) (r0_ : (0 : Int32) ≤ r) : ∃ h2 : List pC, Run prog E pV1 (d + 5) mX7_text [.ref 0] h (some (.int (-100 - r)), h2, 0, 0) ∧ ri h2 34 6 = nI c ∧ ∀ x i : Nat, x ≠ 76 → x ≠ 3 → x ≠ 78 → x ≠ 4 → ri h2 x i = ri h x i := by
  obtain ⟨os, oo, oF⟩ := hi_obj hh (a := 0) rfl
  have a0 : os[0]? = some (.ref 1) := oF.ref (k := 0) rfl
  have a1 : os[1]? = some (.ref 34) := oF.ref (k := 1) rfl
  have a4 : os[4]? = some (.ref 76) := oF.ref (k := 4) rfl
  obtain ⟨ms, ho1, mF⟩ := hi_obj hh (a := 1) rfl
  have m0 : ms[0]? = some (.ref 2) := mF.ref (k := 0) rfl
  have m1 : ms[1]? = some (.ref 3) := mF.ref (k := 1) rfl
  obtain ⟨ws, ho34, wF⟩ := hi_obj hh (a := 34) rfl
  have w6 : ws[6]? = some (.int (nI c)) := by rw [← h6]; exact fld_i (k := 8) hh ho34 rfl
  obtain ⟨gs0, ho76, -⟩ := hi_obj hh (a := 76) rfl
  have Q1 := C.1
  have fr : ∀ (x : Nat) (o : Nat × List Value), x ≠ 76 → x ≠ 3 → x ≠ 78 → x ≠ 4 → pobj h x = some o → pobj h1 x = some o := fun x o b1 b2 b3 b4 hp => by
    unfold pobj at hp ⊢
    rw [C.2.2.2.2 x b1 b2 b3 b4]
    exact hp
  have o1 := fr 0 _ (by decide) (by decide) (by decide) (by decide) oo
  have o2 : pobj (h1.set 76 (.inr (.inr (2, gs.set 1 (.int 0))))) 0 = some (7, os) := (pobj_ne (by decide)).trans o1
  have o34 : pobj (h1.set 76 (.inr (.inr (2, gs.set 1 (.int 0))))) 34 = some (6, ws) := (pobj_ne (by decide)).trans (fr 34 _ (by decide) (by decide) (by decide) (by decide) ho34)
  have o34r := ri_ob o34 w6
  have fx : ∀ x i : Nat, x ≠ 76 → x ≠ 3 → x ≠ 78 → x ≠ 4 → ri (h1.set 76 (.inr (.inr (2, gs.set 1 (.int 0))))) x i = ri h x i := fun x i b1 b2 b3 b4 => by
    unfold ri ct
    rw [List.getElem?_set_ne (Ne.symm b1), C.2.2.2.2 x b1 b2 b3 b4]
  have key_ : GX E (fun r_ h2 => r_ = some (.int (-100 - r)) ∧ ri h2 34 6 = nI c ∧ ∀ x i : Nat, x ≠ 76 → x ≠ 3 → x ≠ 78 → x ≠ 4 → ri h2 x i = ri h x i) (d + 5) mX7_text 0 [some (.ref 0), none] [] h := by
    refine GX.lift (fun _ q_ => RA.steps (i' := 1) (L' := [some (.ref 0), none]) (st' := [.ref 0]) (h' := h) 1 rfl q_) ?_
    refine GX.lift (fun _ q_ => RA.getf rfl oo rfl a4 q_) ?_
    refine GX.lift (fun _ q_ => RA.steps (i' := 3) (L' := [some (.ref 0), none]) (st' := [.ref 0, .ref 76]) (h' := h) 1 rfl q_) ?_
    refine GX.lift (fun _ q_ => RA.getf rfl oo rfl a0 q_) ?_
    refine GX.lift (fun _ q_ => RA.getf rfl ho1 rfl m1 q_) ?_
    refine GX.lift (fun _ q_ => RA.call0 (N := mX2_readInto) (as := [.ref 76, .ref 3]) (rest := []) rfl rfl (pcallV rfl rfl ho76 rfl rfl (Nat.le_of_ble_eq_true rfl)) q1 q_) ?_
    refine GX.lift (fun _ q_ => RA.steps (i' := 8) (L' := [some (.ref 0), some (.int r)]) (st' := [.ref 0]) (h' := h1) 2 rfl q_) ?_
    refine GX.lift (fun _ q_ => RA.getf rfl o1 rfl a4 q_) ?_
    refine GX.lift (fun _ q_ => RA.steps (i' := 10) (L' := [some (.ref 0), some (.int r)]) (st' := [.int 0, .ref 76]) (h' := h1) 1 rfl q_) ?_
    refine GX.lift (fun _ z => RA.putf rfl Q1 rfl rfl z) ?_
    refine GX.lift (fun _ q_ => RA.steps (i' := 12) (L' := [some (.ref 0), some (.int r)]) (st' := [.int r]) (h' := (h1.set 76 (.inr (.inr (2, gs.set 1 (.int 0)))))) 1 rfl q_) ?_
    refine GX.lift (fun _ q_ => RA.if1F rfl (decide_eq_false (Int32.not_lt.mpr r0_)) q_) ?_
    refine GX.lift (fun _ q_ => RA.steps (i' := 16) (L' := [some (.ref 0), some (.int r)]) (st' := [.int ((-100) - r)]) (h' := (h1.set 76 (.inr (.inr (2, gs.set 1 (.int 0)))))) 3 rfl q_) ?_
    refine GX.ret rfl rfl ?_
    exact ⟨rfl, o34r, fx⟩
  obtain ⟨r_, h2, q, rfl, C1⟩ := key_
  exact ⟨h2, ⟨Nat.le_of_ble_eq_true rfl, ⟨_, _, rfl⟩, q⟩, C1⟩
theorem txc_full {c : Nat} {gs ls : List Value} {sg : Nat → Int32} {r : Int32} {h1 : List pC} (hh : HI HT h) (h6 : ri h 34 6 = nI c) (q1 : Run prog E pV1 (d + 4) mX2_readInto [.ref 76, .ref 3] h (some (.int r), h1, 0, 0)) (C : CM h h1 gs ls sg) (r0_ : r < 0) (c14 : c = 14) : ∃ h2 : List pC, Run prog E pV1 (d + 5) mX7_text [.ref 0] h (some (.int (-1000000003)), h2, 0, 0) ∧ ri h2 34 6 = nI c ∧ ∀ x i : Nat, x ≠ 76 → x ≠ 3 → x ≠ 78 → x ≠ 4 → ri h2 x i = ri h x i := by
  obtain ⟨os, oo, oF⟩ := hi_obj hh (a := 0) rfl
  have a0 : os[0]? = some (.ref 1) := oF.ref (k := 0) rfl
  have a1 : os[1]? = some (.ref 34) := oF.ref (k := 1) rfl
  have a4 : os[4]? = some (.ref 76) := oF.ref (k := 4) rfl
  obtain ⟨ms, ho1, mF⟩ := hi_obj hh (a := 1) rfl
  have m0 : ms[0]? = some (.ref 2) := mF.ref (k := 0) rfl
  have m1 : ms[1]? = some (.ref 3) := mF.ref (k := 1) rfl
  obtain ⟨ws, ho34, wF⟩ := hi_obj hh (a := 34) rfl
  have w6 : ws[6]? = some (.int (nI c)) := by rw [← h6]; exact fld_i (k := 8) hh ho34 rfl
  obtain ⟨gs0, ho76, -⟩ := hi_obj hh (a := 76) rfl
  have Q1 := C.1
  have fr : ∀ (x : Nat) (o : Nat × List Value), x ≠ 76 → x ≠ 3 → x ≠ 78 → x ≠ 4 → pobj h x = some o → pobj h1 x = some o := fun x o b1 b2 b3 b4 hp => by
    unfold pobj at hp ⊢
    rw [C.2.2.2.2 x b1 b2 b3 b4]
    exact hp
  have o1 := fr 0 _ (by decide) (by decide) (by decide) (by decide) oo
  have o2 : pobj (h1.set 76 (.inr (.inr (2, gs.set 1 (.int 0))))) 0 = some (7, os) := (pobj_ne (by decide)).trans o1
  have o34 : pobj (h1.set 76 (.inr (.inr (2, gs.set 1 (.int 0))))) 34 = some (6, ws) := (pobj_ne (by decide)).trans (fr 34 _ (by decide) (by decide) (by decide) (by decide) ho34)
  have o34r := ri_ob o34 w6
  have fx : ∀ x i : Nat, x ≠ 76 → x ≠ 3 → x ≠ 78 → x ≠ 4 → ri (h1.set 76 (.inr (.inr (2, gs.set 1 (.int 0))))) x i = ri h x i := fun x i b1 b2 b3 b4 => by
    unfold ri ct
    rw [List.getElem?_set_ne (Ne.symm b1), C.2.2.2.2 x b1 b2 b3 b4]
  have key_ : GX E (fun r_ h2 => r_ = some (.int (-1000000003)) ∧ ri h2 34 6 = nI c ∧ ∀ x i : Nat, x ≠ 76 → x ≠ 3 → x ≠ 78 → x ≠ 4 → ri h2 x i = ri h x i) (d + 5) mX7_text 0 [some (.ref 0), none] [] h := by
    refine GX.lift (fun _ q_ => RA.steps (i' := 1) (L' := [some (.ref 0), none]) (st' := [.ref 0]) (h' := h) 1 rfl q_) ?_
    refine GX.lift (fun _ q_ => RA.getf rfl oo rfl a4 q_) ?_
    refine GX.lift (fun _ q_ => RA.steps (i' := 3) (L' := [some (.ref 0), none]) (st' := [.ref 0, .ref 76]) (h' := h) 1 rfl q_) ?_
    refine GX.lift (fun _ q_ => RA.getf rfl oo rfl a0 q_) ?_
    refine GX.lift (fun _ q_ => RA.getf rfl ho1 rfl m1 q_) ?_
    refine GX.lift (fun _ q_ => RA.call0 (N := mX2_readInto) (as := [.ref 76, .ref 3]) (rest := []) rfl rfl (pcallV rfl rfl ho76 rfl rfl (Nat.le_of_ble_eq_true rfl)) q1 q_) ?_
    refine GX.lift (fun _ q_ => RA.steps (i' := 8) (L' := [some (.ref 0), some (.int r)]) (st' := [.ref 0]) (h' := h1) 2 rfl q_) ?_
    refine GX.lift (fun _ q_ => RA.getf rfl o1 rfl a4 q_) ?_
    refine GX.lift (fun _ q_ => RA.steps (i' := 10) (L' := [some (.ref 0), some (.int r)]) (st' := [.int 0, .ref 76]) (h' := h1) 1 rfl q_) ?_
    refine GX.lift (fun _ z => RA.putf rfl Q1 rfl rfl z) ?_
    refine GX.lift (fun _ q_ => RA.steps (i' := 12) (L' := [some (.ref 0), some (.int r)]) (st' := [.int r]) (h' := (h1.set 76 (.inr (.inr (2, gs.set 1 (.int 0)))))) 1 rfl q_) ?_
    refine GX.lift (fun _ q_ => RA.if1T rfl (decide_eq_true r0_) q_) ?_
    refine GX.lift (fun _ q_ => RA.steps (i' := 18) (L' := [some (.ref 0), some (.int r)]) (st' := [.ref 0]) (h' := (h1.set 76 (.inr (.inr (2, gs.set 1 (.int 0)))))) 1 rfl q_) ?_
    refine GX.lift (fun _ q_ => RA.getf rfl o2 rfl a1 q_) ?_
    refine GX.lift (fun _ q_ => RA.getf rfl o34 rfl w6 q_) ?_
    refine GX.lift (fun _ q_ => RA.steps (i' := 21) (L' := [some (.ref 0), some (.int r)]) (st' := [.int 14, .int (nI c)]) (h' := (h1.set 76 (.inr (.inr (2, gs.set 1 (.int 0)))))) 1 rfl q_) ?_
    refine GX.lift (fun _ q_ => RA.if2T rfl (decide_eq_true (show nI 14 ≤ nI c from nI_le (by omega) (by omega))) q_) ?_
    refine GX.lift (fun _ q_ => RA.steps (i' := 27) (L' := [some (.ref 0), some (.int r)]) (st' := [.int (-1000000003)]) (h' := (h1.set 76 (.inr (.inr (2, gs.set 1 (.int 0)))))) 1 rfl q_) ?_
    refine GX.ret rfl rfl ?_
    exact ⟨rfl, o34r, fx⟩
  obtain ⟨r_, h2, q, rfl, C1⟩ := key_
  exact ⟨h2, ⟨Nat.le_of_ble_eq_true rfl, ⟨_, _, rfl⟩, q⟩, C1⟩
theorem txc_ok {c : Nat} {gs ls : List Value} {sg : Nat → Int32} {r key pc ln : Int32} {h1 : List pC} (hh : HI HT h) (h6 : ri h 34 6 = nI c) (q1 : Run prog E pV1 (d + 4) mX2_readInto [.ref 76, .ref 3] h (some (.int r), h1, 0, 0)) (C : CM h h1 gs ls sg) (r0_ : r < 0) (hc : c < 14) (hk : key = 0 ∨ key = 1 ∨ key = 2) (W : LF ls ln key pc) : ∃ h2 : List pC, Run prog E pV1 (d + 5) mX7_text [.ref 0] h (some (.int (nI c)), h2, 0, 0) ∧ ri h2 34 6 = nI (c + 1) ∧ ri h2 (6 + 2 * c) 2 = key ∧ ri h2 (6 + 2 * c) 3 = pc ∧ (∀ k : Nat, k < 3 → ri h2 38 k = va_up (ri h 38) key.toNatClampNeg (nI c) k) ∧ ∀ k : Nat, k < 14 → k ≠ c → ∀ i : Nat, ri h2 (6 + 2 * k) i = ri h (6 + 2 * k) i := by
  obtain ⟨os, oo, oF⟩ := hi_obj hh (a := 0) rfl
  have a0 : os[0]? = some (.ref 1) := oF.ref (k := 0) rfl
  have a1 : os[1]? = some (.ref 34) := oF.ref (k := 1) rfl
  have a4 : os[4]? = some (.ref 76) := oF.ref (k := 4) rfl
  obtain ⟨ms, ho1, mF⟩ := hi_obj hh (a := 1) rfl
  have m0 : ms[0]? = some (.ref 2) := mF.ref (k := 0) rfl
  have m1 : ms[1]? = some (.ref 3) := mF.ref (k := 1) rfl
  obtain ⟨ws, ho34, wF⟩ := hi_obj hh (a := 34) rfl
  have w6 : ws[6]? = some (.int (nI c)) := by rw [← h6]; exact fld_i (k := 8) hh ho34 rfl
  obtain ⟨gs0, ho76, -⟩ := hi_obj hh (a := 76) rfl
  have Q1 := C.1
  have fr : ∀ (x : Nat) (o : Nat × List Value), x ≠ 76 → x ≠ 3 → x ≠ 78 → x ≠ 4 → pobj h x = some o → pobj h1 x = some o := fun x o b1 b2 b3 b4 hp => by
    unfold pobj at hp ⊢
    rw [C.2.2.2.2 x b1 b2 b3 b4]
    exact hp
  have o1 := fr 0 _ (by decide) (by decide) (by decide) (by decide) oo
  have o2 : pobj (h1.set 76 (.inr (.inr (2, gs.set 1 (.int 0))))) 0 = some (7, os) := (pobj_ne (by decide)).trans o1
  have o34 : pobj (h1.set 76 (.inr (.inr (2, gs.set 1 (.int 0))))) 34 = some (6, ws) := (pobj_ne (by decide)).trans (fr 34 _ (by decide) (by decide) (by decide) (by decide) ho34)
  have o34r := ri_ob o34 w6
  have fx : ∀ x i : Nat, x ≠ 76 → x ≠ 3 → x ≠ 78 → x ≠ 4 → ri (h1.set 76 (.inr (.inr (2, gs.set 1 (.int 0))))) x i = ri h x i := fun x i b1 b2 b3 b4 => by
    unfold ri ct
    rw [List.getElem?_set_ne (Ne.symm b1), C.2.2.2.2 x b1 b2 b3 b4]
  obtain ⟨x, hc2, hx4, hx⟩ := laws_at hh
  obtain ⟨rs, t, R0, r0, r1, r2, r3⟩ := lrow_x hh c hc
  obtain ⟨kt, p38, u38, -⟩ := hi_int (a := 38) (n := 3) (sg := []) hh rfl
  obtain ⟨cd, p4⟩ := C.2.2.2.1
  have fri : ∀ (x : Nat) (o : Nat × (Nat → Int32)), x ≠ 76 → x ≠ 3 → x ≠ 78 → x ≠ 4 → pint h x = some o → pint h1 x = some o := fun x o b1 b2 b3 b4 hp => C.pi b1 b2 b3 b4 hp
  obtain ⟨h9, qa, p9_⟩ := addText_x (E := E) (d := d + 1) (h := h1.set 76 (.inr (.inr (2, gs.set 1 (.int 0))))) hc hk o34 (wF.ref (k := 0) rfl) (wF.ref (k := 4) rfl) w6 ((pobj_ne (by decide)).trans (fr 1 _ (by decide) (by decide) (by decide) (by decide) ho1)) m0 m1 (by rw [List.getElem?_set_ne (by decide), C.2.2.2.2 2 (by decide) (by decide) (by decide) (by decide)]; exact hc2) hx4 hx ((pobj_ne (by decide)).trans C.2.1) W ((pint_ne (by decide)).trans p4) ⟨R0.1, (pobj_ne (by omega)).trans (fr _ _ (by omega) (by omega) (by omega) (by omega) R0.2.1), (pint_ne (by omega)).trans (fri _ _ (by omega) (by omega) (by omega) (by omega) R0.2.2.1), fun _ _ _ => rfl⟩ r0 r1 r2 r3 ((pint_ne (by decide)).trans (fri 38 _ (by decide) (by decide) (by decide) (by decide) p38))
  have p9 : ri h9 34 6 = nI (c + 1) ∧ ri h9 (6 + 2 * c) 2 = key ∧ ri h9 (6 + 2 * c) 3 = pc ∧ (∀ k : Nat, k < 3 → ri h9 38 k = va_up (ri h 38) key.toNatClampNeg (nI c) k) ∧ ∀ k : Nat, k < 14 → k ≠ c → ∀ i : Nat, ri h9 (6 + 2 * k) i = ri h (6 + 2 * k) i := by
    refine ⟨p9_.1, p9_.2.1, p9_.2.2.1, fun k hk3 => (p9_.2.2.2.1 k hk3).trans ?_, fun k hk hkc i => (p9_.2.2.2.2 k hk hkc i).trans (fx _ _ (by omega) (by omega) (by omega) (by omega))⟩
    by_cases e : k = key.toNatClampNeg
    · rw [e, va_up_self, va_up_self]
    · rw [va_up_ne _ _ e, va_up_ne _ _ e]
      exact (u38 k hk3).symm
  have key_ : GX E (fun r_ h2 => r_ = some (.int (nI c)) ∧ ri h2 34 6 = nI (c + 1) ∧ ri h2 (6 + 2 * c) 2 = key ∧ ri h2 (6 + 2 * c) 3 = pc ∧ (∀ k : Nat, k < 3 → ri h2 38 k = va_up (ri h 38) key.toNatClampNeg (nI c) k) ∧ ∀ k : Nat, k < 14 → k ≠ c → ∀ i : Nat, ri h2 (6 + 2 * k) i = ri h (6 + 2 * k) i) (d + 5) mX7_text 0 [some (.ref 0), none] [] h := by
    refine GX.lift (fun _ q_ => RA.steps (i' := 1) (L' := [some (.ref 0), none]) (st' := [.ref 0]) (h' := h) 1 rfl q_) ?_
    refine GX.lift (fun _ q_ => RA.getf rfl oo rfl a4 q_) ?_
    refine GX.lift (fun _ q_ => RA.steps (i' := 3) (L' := [some (.ref 0), none]) (st' := [.ref 0, .ref 76]) (h' := h) 1 rfl q_) ?_
    refine GX.lift (fun _ q_ => RA.getf rfl oo rfl a0 q_) ?_
    refine GX.lift (fun _ q_ => RA.getf rfl ho1 rfl m1 q_) ?_
    refine GX.lift (fun _ q_ => RA.call0 (N := mX2_readInto) (as := [.ref 76, .ref 3]) (rest := []) rfl rfl (pcallV rfl rfl ho76 rfl rfl (Nat.le_of_ble_eq_true rfl)) q1 q_) ?_
    refine GX.lift (fun _ q_ => RA.steps (i' := 8) (L' := [some (.ref 0), some (.int r)]) (st' := [.ref 0]) (h' := h1) 2 rfl q_) ?_
    refine GX.lift (fun _ q_ => RA.getf rfl o1 rfl a4 q_) ?_
    refine GX.lift (fun _ q_ => RA.steps (i' := 10) (L' := [some (.ref 0), some (.int r)]) (st' := [.int 0, .ref 76]) (h' := h1) 1 rfl q_) ?_
    refine GX.lift (fun _ z => RA.putf rfl Q1 rfl rfl z) ?_
    refine GX.lift (fun _ q_ => RA.steps (i' := 12) (L' := [some (.ref 0), some (.int r)]) (st' := [.int r]) (h' := (h1.set 76 (.inr (.inr (2, gs.set 1 (.int 0)))))) 1 rfl q_) ?_
    refine GX.lift (fun _ q_ => RA.if1T rfl (decide_eq_true r0_) q_) ?_
    refine GX.lift (fun _ q_ => RA.steps (i' := 18) (L' := [some (.ref 0), some (.int r)]) (st' := [.ref 0]) (h' := (h1.set 76 (.inr (.inr (2, gs.set 1 (.int 0)))))) 1 rfl q_) ?_
    refine GX.lift (fun _ q_ => RA.getf rfl o2 rfl a1 q_) ?_
    refine GX.lift (fun _ q_ => RA.getf rfl o34 rfl w6 q_) ?_
    refine GX.lift (fun _ q_ => RA.steps (i' := 21) (L' := [some (.ref 0), some (.int r)]) (st' := [.int 14, .int (nI c)]) (h' := (h1.set 76 (.inr (.inr (2, gs.set 1 (.int 0)))))) 1 rfl q_) ?_
    refine GX.lift (fun _ q_ => RA.if2F rfl (decide_eq_false (Int32.not_le.mpr (show nI c < nI 14 from nI_lt (by omega) (by decide)))) q_) ?_
    refine GX.lift (fun _ q_ => RA.steps (i' := 23) (L' := [some (.ref 0), some (.int r)]) (st' := [.ref 0]) (h' := (h1.set 76 (.inr (.inr (2, gs.set 1 (.int 0)))))) 1 rfl q_) ?_
    refine GX.lift (fun _ q_ => RA.getf rfl o2 rfl a1 q_) ?_
    refine GX.lift (fun _ q_ => RA.call0 (N := mX6_addText) (as := [.ref 34]) (rest := []) rfl rfl (pcallV rfl rfl o34 rfl rfl (Nat.le_of_ble_eq_true rfl)) qa q_) ?_
    refine GX.lift (fun _ q_ => RA.steps (i' := 27) (L' := [some (.ref 0), some (.int r)]) (st' := [.int (nI c)]) (h' := h9) 1 rfl q_) ?_
    refine GX.ret rfl rfl ?_
    exact ⟨rfl, p9⟩
  obtain ⟨r_, h2, q, rfl, C1⟩ := key_
  exact ⟨h2, ⟨Nat.le_of_ble_eq_true rfl, ⟨_, _, rfl⟩, q⟩, C1⟩
end TXC
