/-! ===== readInto of the class ===== -/
section RDI
variable {E : pX} {Φ : Option Value → List pC → Prop} {d : Nat} {h0 h : List pC} {f g : Nat → Int32}
/-- where it stands (its sort and its end follow), does it stand right behind a word, signs that wait, is a piece wanted, how many there are -/
abbrev KS : Type := Nat × Int32 × List Int32 × Int32 × Int32
def nxb (g : Nat → Int32) (n b : Nat) : Nat := skp g n (n - wEnd g n b) (wEnd g n b)
/-- one turn: nothing is said / a fault or the end / on -/
def cst (g : Nat → Int32) (n : Nat) (key : Int32) (c : KS) : Option (Option KS) := if kd g n c.1 = 0 then some none else match gon g key (kd g n c.1) c.1 (wEnd g n c.1) c.2.1 c.2.2.1 c.2.2.2.1 c.2.2.2.2 with
  | none => none
  | some none => some none
  | some (some q) => some (some (nxb g n c.1, glu (nI (kd g n c.1)) (wEnd g n c.1) (nxb g n c.1), q))
def its (g : Nat → Int32) (n : Nat) (key : Int32) : Nat → KS → Option KS
  | 0, c => some c
  | k + 1, c => match cst g n key c with
    | some (some c2) => its g n key k c2
    | _ => none
theorem its_1 {n k : Nat} {key : Int32} {c c2 : KS} (h1 : cst g n key c = some (some c2)) : its g n key (k + 1) c = its g n key k c2 := by
  rw [its, h1]
theorem its_add {n : Nat} {key : Int32} : ∀ {k1 k2 : Nat} {c c2 c3 : KS}, its g n key k1 c = some c2 → its g n key k2 c2 = some c3 → its g n key (k1 + k2) c = some c3
  | 0, k2, c, c2, c3, h1, h2 => by
    cases h1
    rw [Nat.zero_add]
    exact h2
  | k1 + 1, k2, c, c2, c3, h1, h2 => by
    rw [its] at h1
    rw [show k1 + 1 + k2 = (k1 + k2) + 1 by omega, its]
    split at h1
    · exact its_add h1 h2
    · cases h1
theorem nxb_le {n b : Nat} (hb : b ≤ n) : wEnd g n b ≤ nxb g n b ∧ nxb g n b ≤ n := skp_le g n (n - wEnd g n b) (wEnd g n b) (by have := wEnd_le (g := g) hb; omega)
theorem gon_ln {key : Int32} {s b p : Nat} {gl wa pc : Int32} {st st2 : List Int32} {wa2 pc2 : Int32} (hr : gon g key s b p gl st wa pc = some (some (st2, wa2, pc2))) : st2.length ≤ st.length + 1 ∧ (wa2 = 0 ∨ wa2 = 1) := by
  have l1 := unw_len 1 st
  have l4 := unw_len 4 st
  have lr := unw_len (rk (g b)) st
  have ls := snots_len st
  have l2 := snots_len (unw 1 st).tail
  have lt : (unw 1 st).tail.length ≤ (unw 1 st).length := by
    rw [List.length_tail]
    omega
  have lc : ∀ (x : Int32) (k : List Int32), (x :: k).length = k.length + 1 := fun _ _ => rfl
  unfold gon at hr
  repeat' split at hr
  all_goals first
    | (cases hr; done)
    | (cases hr; refine ⟨?_, ?_⟩ <;> first | exact Or.inl rfl | exact Or.inr rfl | (rw [lc]; omega) | omega)
/-- is the reading good -/
def okS (g : Nat → Int32) (n : Nat) (c : KS) : Prop := kd g n c.1 = 0 ∧ c.2.2.2.1 = 0 ∧ cn1 40 c.2.2.1 = 0
/-- what readInto comes to -/
def RdE (h0 : List pC) (g : Nat → Int32) (n : Nat) (key : Int32) (c : KS) : Option Value → List pC → Prop := fun r h1 => (¬ okS g n c ∧ r = some (.int (nI c.1)) ∧ FA h0 h1 n c.1 key) ∨ (okS g n c ∧ r = some (.int (-1)) ∧ ∃ (s b p gl : Int32) (st : List Int32) (br no wa : Int32), CR h0 h1 (nI n) s b p gl st br no wa key c.2.2.2.2)
theorem rd_52 {n k0 : Nat} {key : Int32} {c : KS} (hl : c.2.2.1.length ≤ 96) (ez : kd g n c.1 = 0) (C : CS h0 h n (kd g n c.1) c.1 (wEnd g n c.1) c.2.1 c.2.2.1 c.2.2.2.1 key c.2.2.2.2) : GX E (RdE h0 g n key c) (d + 7) mX2_readInto 52 [some (.ref 76), some (.ref 3), some (.int key), some (.int (nI k0))] [] h := by
  have ⟨gs, ls, sg, ln, H, F, W, hS⟩ := C
  have ⟨f0, f1, f2, f3, f4, f5, f6, f7, f8, f9, f10⟩ := F
  have ⟨w0, w1, w2, w3⟩ := W
  have a40 := cn1_le 40 c.2.2.1
  by_cases wz : c.2.2.2.1 = 0
  rotate_left
  · skip
    refine GX.lift (fun _ q_ => RA.steps (i' := 53) (L' := [some (.ref 76), some (.ref 3), some (.int key), some (.int (nI k0))]) (st' := [.ref 76]) (h' := h) 1 rfl q_) ?_
    refine GX.lift (fun _ q_ => RA.getf rfl H.1 rfl f10 q_) ?_
    refine GX.lift (fun _ q_ => RA.if1T rfl (decide_eq_true wz) q_) ?_
    refine GX.lift (fun _ q_ => RA.steps (i' := 59) (L' := [some (.ref 76), some (.ref 3), some (.int key), some (.int (nI k0))]) (st' := [.ref 76]) (h' := h) 1 rfl q_) ?_
    refine GX.lift (fun _ q_ => RA.getf rfl H.1 rfl f3 q_) ?_
    refine GX.ret rfl rfl ?_
    exact Or.inl ⟨fun z => wz z.2.1, rfl, C.fa⟩
  by_cases bz : cn1 40 c.2.2.1 = 0
  rotate_left
  · skip
    refine GX.lift (fun _ q_ => RA.steps (i' := 53) (L' := [some (.ref 76), some (.ref 3), some (.int key), some (.int (nI k0))]) (st' := [.ref 76]) (h' := h) 1 rfl q_) ?_
    refine GX.lift (fun _ q_ => RA.getf rfl H.1 rfl f10 q_) ?_
    refine GX.lift (fun _ q_ => RA.if1F rfl (decide_eq_false (fun z => z wz)) q_) ?_
    refine GX.lift (fun _ q_ => RA.steps (i' := 56) (L' := [some (.ref 76), some (.ref 3), some (.int key), some (.int (nI k0))]) (st' := [.ref 76]) (h' := h) 1 rfl q_) ?_
    refine GX.lift (fun _ q_ => RA.getf rfl H.1 rfl f8 q_) ?_
    refine GX.lift (fun _ q_ => RA.if1F rfl (decide_eq_false (Int32.not_le.mpr (nI_p0 (by omega) (by omega)))) q_) ?_
    refine GX.lift (fun _ q_ => RA.steps (i' := 59) (L' := [some (.ref 76), some (.ref 3), some (.int key), some (.int (nI k0))]) (st' := [.ref 76]) (h' := h) 1 rfl q_) ?_
    refine GX.lift (fun _ q_ => RA.getf rfl H.1 rfl f3 q_) ?_
    refine GX.ret rfl rfl ?_
    exact Or.inl ⟨fun z => bz z.2.2, rfl, C.fa⟩
  obtain ⟨h1, q1, C1⟩ := unwind_x (E := E) (d := d + 4) (r := 1) (by decide) hl C
  refine GX.lift (fun _ q_ => RA.steps (i' := 53) (L' := [some (.ref 76), some (.ref 3), some (.int key), some (.int (nI k0))]) (st' := [.ref 76]) (h' := h) 1 rfl q_) ?_
  refine GX.lift (fun _ q_ => RA.getf rfl H.1 rfl f10 q_) ?_
  refine GX.lift (fun _ q_ => RA.if1F rfl (decide_eq_false (fun z => z wz)) q_) ?_
  refine GX.lift (fun _ q_ => RA.steps (i' := 56) (L' := [some (.ref 76), some (.ref 3), some (.int key), some (.int (nI k0))]) (st' := [.ref 76]) (h' := h) 1 rfl q_) ?_
  refine GX.lift (fun _ q_ => RA.getf rfl H.1 rfl f8 q_) ?_
  refine GX.lift (fun _ q_ => RA.if1T rfl (decide_eq_true (show nI (cn1 40 c.2.2.1) ≤ 0 by rw [bz]; decide +kernel)) q_) ?_
  refine GX.lift (fun _ q_ => RA.steps (i' := 64) (L' := [some (.ref 76), some (.ref 3), some (.int key), some (.int (nI k0))]) (st' := [.int 1, .ref 3, .ref 76]) (h' := h) 3 rfl q_) ?_
  refine GX.lift (fun _ q_ => RA.call0 (N := mX2_unwind) (as := [.ref 76, .ref 3, .int 1]) (rest := []) rfl rfl (pcallV rfl rfl H.1 rfl rfl (Nat.le_of_ble_eq_true rfl)) q1 q_) ?_
  refine GX.lift (fun _ q_ => RA.steps (i' := 66) (L' := [some (.ref 76), some (.ref 3), some (.int key), some (.int (nI k0))]) (st' := [.int (-1)]) (h' := h1) 1 rfl q_) ?_
  refine GX.ret rfl rfl ?_
  exact Or.inr ⟨⟨ez, wz, bz⟩, rfl, _, _, _, _, _, _, _, _, C1⟩
theorem rd_35 {n : Nat} {key : Int32} {c' : KS} (pt : pint h0 77 = some (96, f)) (fg : ∀ j : Nat, j < 96 → f j = g j) (hn : n ≤ 96) (hg : ∀ j : Nat, j < 96 → (0 : Int32) ≤ g j) (hd : 6 ≤ d) (hk : key = 0 ∨ key = 1 ∨ key = 2) : ∀ (k : Nat) (c : KS) (k0 : Nat) (h : List pC), c.1 ≤ n → c.2.2.1.length ≤ c.1 → k0 ≤ c.1 → (c.2.2.2.1 = 0 ∨ c.2.2.2.1 = 1) → its g n key k c = some c' → cst g n key c' = some none → CS h0 h n (kd g n c.1) c.1 (wEnd g n c.1) c.2.1 c.2.2.1 c.2.2.2.1 key c.2.2.2.2 → GX E (RdE h0 g n key c') (d + 7) mX2_readInto 35 [some (.ref 76), some (.ref 3), some (.int key), some (.int (nI k0))] [] h := by
  intro k
  induction k with
  | zero =>
    intro c k0 h hb hl hk0 hw hi hf C
    have hi : c = c' := Option.some.inj hi
    rw [← hi] at hf ⊢
    have ⟨gs, ls, sg, ln, H, F, W, hS⟩ := C
    have ⟨f0, f1, f2, f3, f4, f5, f6, f7, f8, f9, f10⟩ := F
    have ⟨w0, w1, w2, w3⟩ := W
    have el := wEnd_le (g := g) hb
    have s4 : kd g n c.1 ≤ 3 := by rcases kd_cases g n c.1 with z | z | z | z <;> omega
    by_cases ez : kd g n c.1 = 0
    · skip
      by_cases k9 : 96 ≤ k0
      · refine GX.lift (fun _ q_ => RA.steps (i' := 37) (L' := [some (.ref 76), some (.ref 3), some (.int key), some (.int (nI k0))]) (st' := [.int 96, .int (nI k0)]) (h' := h) 2 rfl q_) ?_
        refine GX.lift (fun _ q_ => RA.if2T rfl (decide_eq_true (show nI 96 ≤ nI k0 from nI_le k9 (by omega))) q_) ?_
        exact rd_52 (by omega) ez C
      refine GX.lift (fun _ q_ => RA.steps (i' := 37) (L' := [some (.ref 76), some (.ref 3), some (.int key), some (.int (nI k0))]) (st' := [.int 96, .int (nI k0)]) (h' := h) 2 rfl q_) ?_
      refine GX.lift (fun _ q_ => RA.if2F rfl (decide_eq_false (Int32.not_le.mpr (show nI k0 < nI 96 from nI_lt (by omega) (by decide)))) q_) ?_
      refine GX.lift (fun _ q_ => RA.steps (i' := 39) (L' := [some (.ref 76), some (.ref 3), some (.int key), some (.int (nI k0))]) (st' := [.ref 76]) (h' := h) 1 rfl q_) ?_
      refine GX.lift (fun _ q_ => RA.getf rfl H.1 rfl f2 q_) ?_
      refine GX.lift (fun _ q_ => RA.if1T rfl (decide_eq_true (by rw [ez]; exact nI_0)) q_) ?_
      exact rd_52 (by omega) ez C
    · have hbn : c.1 < n := by have := el.2.2 ez; omega
      unfold cst at hf
      rw [if_neg ez] at hf
      split at hf
      · cases hf
      · rename_i eg
        rcases gon_x (E := E) (d := d + 1) pt fg hn (by omega) hk rfl ez hb (by omega) hw C eg with ⟨-, h1, q1, C1⟩ | ⟨_, _, _, _, e, -⟩
        · skip
          refine GX.lift (fun _ q_ => RA.steps (i' := 37) (L' := [some (.ref 76), some (.ref 3), some (.int key), some (.int (nI k0))]) (st' := [.int 96, .int (nI k0)]) (h' := h) 2 rfl q_) ?_
          refine GX.lift (fun _ q_ => RA.if2F rfl (decide_eq_false (Int32.not_le.mpr (show nI k0 < nI 96 from nI_lt (by omega) (by decide)))) q_) ?_
          refine GX.lift (fun _ q_ => RA.steps (i' := 39) (L' := [some (.ref 76), some (.ref 3), some (.int key), some (.int (nI k0))]) (st' := [.ref 76]) (h' := h) 1 rfl q_) ?_
          refine GX.lift (fun _ q_ => RA.getf rfl H.1 rfl f2 q_) ?_
          refine GX.lift (fun _ q_ => RA.if1F rfl (decide_eq_false (fun z => ez ((nI_eq (by omega) (by decide)).mp (show nI (kd g n c.1) = nI 0 from z.trans nI_0.symm)))) q_) ?_
          refine GX.lift (fun _ q_ => RA.steps (i' := 43) (L' := [some (.ref 76), some (.ref 3), some (.int key), some (.int (nI k0))]) (st' := [.ref 3, .ref 76]) (h' := h) 2 rfl q_) ?_
          refine GX.lift (fun _ q_ => RA.call0 (N := mX2_goesOn) (as := [.ref 76, .ref 3]) (rest := []) rfl rfl (pcallV rfl rfl H.1 rfl rfl (Nat.le_of_ble_eq_true rfl)) q1 q_) ?_
          refine GX.lift (fun _ q_ => RA.if1F rfl rfl q_) ?_
          have ⟨s5, p5, gl5, st5, br5, no5, wa5, pc5, gs5, ls5, sg5, ln5, H5, F5, W5, S5⟩ := C1
          refine GX.lift (fun _ q_ => RA.steps (i' := 46) (L' := [some (.ref 76), some (.ref 3), some (.int key), some (.int (nI k0))]) (st' := [.ref 76]) (h' := h1) 1 rfl q_) ?_
          refine GX.lift (fun _ q_ => RA.getf rfl H5.1 rfl F5.2.2.2.1 q_) ?_
          refine GX.ret rfl rfl ?_
          exact Or.inl ⟨fun z => ez z.1, rfl, C1⟩
        · cases e
      · cases hf
  | succ k ih =>
    intro c k0 h hb hl hk0 hw hi hf C
    have ⟨gs, ls, sg, ln, H, F, W, hS⟩ := C
    have ⟨f0, f1, f2, f3, f4, f5, f6, f7, f8, f9, f10⟩ := F
    have ⟨w0, w1, w2, w3⟩ := W
    have el := wEnd_le (g := g) hb
    have s4 : kd g n c.1 ≤ 3 := by rcases kd_cases g n c.1 with z | z | z | z <;> omega
    have nb := nxb_le (g := g) hb
    rw [its] at hi
    split at hi
    rotate_left
    · cases hi
    rename_i c2 e2
    unfold cst at e2
    by_cases ez : kd g n c.1 = 0
    · rw [if_pos ez] at e2
      cases e2
    rw [if_neg ez] at e2
    have hbn := el.2.2 ez
    split at e2
    · cases e2
    · cases e2
    rename_i q eg
    obtain ⟨st2, wa2, pc2⟩ := q
    cases e2
    have gl := gon_ln eg
    rcases gon_x (E := E) (d := d + 1) pt fg hn (by omega) hk rfl ez hb (by omega) hw C eg with ⟨e, -⟩ | ⟨st3, wa3, pc3, h1, e, q1, C1⟩
    · cases e
    · cases e
      refine GX.lift (fun _ q_ => RA.steps (i' := 37) (L' := [some (.ref 76), some (.ref 3), some (.int key), some (.int (nI k0))]) (st' := [.int 96, .int (nI k0)]) (h' := h) 2 rfl q_) ?_
      refine GX.lift (fun _ q_ => RA.if2F rfl (decide_eq_false (Int32.not_le.mpr (show nI k0 < nI 96 from nI_lt (by omega) (by decide)))) q_) ?_
      refine GX.lift (fun _ q_ => RA.steps (i' := 39) (L' := [some (.ref 76), some (.ref 3), some (.int key), some (.int (nI k0))]) (st' := [.ref 76]) (h' := h) 1 rfl q_) ?_
      refine GX.lift (fun _ q_ => RA.getf rfl H.1 rfl f2 q_) ?_
      refine GX.lift (fun _ q_ => RA.if1F rfl (decide_eq_false (fun z => ez ((nI_eq (by omega) (by decide)).mp (show nI (kd g n c.1) = nI 0 from z.trans nI_0.symm)))) q_) ?_
      refine GX.lift (fun _ q_ => RA.steps (i' := 43) (L' := [some (.ref 76), some (.ref 3), some (.int key), some (.int (nI k0))]) (st' := [.ref 3, .ref 76]) (h' := h) 2 rfl q_) ?_
      refine GX.lift (fun _ q_ => RA.call0 (N := mX2_goesOn) (as := [.ref 76, .ref 3]) (rest := []) rfl rfl (pcallV rfl rfl H.1 rfl rfl (Nat.le_of_ble_eq_true rfl)) q1 q_) ?_
      refine GX.lift (fun _ q_ => RA.if1T rfl rfl q_) ?_
      have ⟨gs5, ls5, sg5, ln5, H5, F5, W5, S5⟩ := C1
      obtain ⟨h2, gs6, q2, H6, F6⟩ := nw_v (E := E) (d := d + 2) pt fg hn hg el.2.1 H5 F5
      refine GX.lift (fun _ q_ => RA.steps (i' := 49) (L' := [some (.ref 76), some (.ref 3), some (.int key), some (.int (nI k0))]) (st' := [.ref 76]) (h' := h1) 1 rfl q_) ?_
      refine GX.lift (fun _ q_ => RA.call0 (N := mX2_nextWord) (as := [.ref 76]) (rest := []) rfl rfl (pcallV rfl rfl H5.1 rfl rfl (Nat.le_of_ble_eq_true rfl)) q2 q_) ?_
      refine GX.lift (fun _ q_ => RA.iinc rfl rfl (nI_1 k0) rfl q_) ?_
      refine GX.lift (fun _ q_ => RA.steps (i' := 35) (L' := [some (.ref 76), some (.ref 3), some (.int key), some (.int (nI (k0 + 1)))]) (st' := []) (h' := h2) 1 rfl q_) ?_
      exact ih (nxb g n c.1, glu (nI (kd g n c.1)) (wEnd g n c.1) (nxb g n c.1), st2, wa2, pc2) (k0 + 1) h2 nb.2 (by show st2.length ≤ nxb g n c.1; omega) (by show k0 + 1 ≤ nxb g n c.1; omega) gl.2 hi hf ⟨gs6, ls5, sg5, ln5, H6, F6, W5, S5⟩
end RDI
/-! ===== the grammar against the class's turns: what holds ahead and behind ===== -/
section GRD2
variable {E : pX} {d : Nat} {h h' h1 h2 h3 h4 : List pC} {g : Nat → Int32} {n : Nat} {key : Int32}
/-- token and counts are alike -/
def TS (g : Nat → Int32) (n b : Nat) (gl : Int32) (st : List Int32) (h : List pC) : Prop := ((∀ j : Nat, j < 96 → ri h 124 j = g j) ∧ n ≤ 96 ∧ b ≤ n) ∧ (ri h 110 15 = nI n ∧ ri h 110 16 = nI b ∧ ri h 110 17 = nI (wEnd g n b)) ∧ ri h 110 18 = tkc (kd g n b) gl (wEnd g n b - b) ∧ (kd g n b = 1 → ri h 110 20 = if wEnd g n b - b = 1 then g b else 0) ∧ (kd g n b = 3 → ri h 110 20 = g b) ∧ fi h 21 = cn1 40 st ∧ fi h 22 = cn1 33 st
theorem TS.cn {b : Nat} {gl : Int32} {st st2 : List Int32} (t : TS g n b gl st h) (e1 : cn1 40 st2 = cn1 40 st) (e2 : cn1 33 st2 = cn1 33 st) : TS g n b gl st2 h := by
  obtain ⟨t1, t2, t3, t4, t5, t6, t7⟩ := t
  exact ⟨t1, t2, t3, t4, t5, by rw [e1]; exact t6, by rw [e2]; exact t7⟩
/-- signs of rank Fl or more do not follow -/
def Fo (Fl : Nat) (g : Nat → Int32) (n b : Nat) (S : List Int32) : Prop := kd g n b = 3 → (∀ r : Nat, Fl ≤ r → r ≤ 5 → r ≠ 3 → rk (g b) ≠ r) ∧ (Fl ≤ 3 → rk (g b) = 3 → rk (tp (unw 4 S)) = 3)
def bs (Lv : Nat) (st : List Int32) : List Int32 := if Lv = 6 then snots st else st
theorem bs_6 (st : List Int32) : bs 6 st = snots st := if_pos rfl
theorem bs_n {Lv : Nat} (hl : Lv ≠ 6) (st : List Int32) : bs Lv st = st := if_neg hl
/-- what stands on top binds less -/
def SC (Lv : Nat) (st : List Int32) : Prop := Lv ≤ 5 → ¬ tp st = 33 ∧ rk (tp st) < Lv
theorem SC.up {Lv : Nat} {st : List Int32} (hl : Lv ≤ 5) (s : SC Lv st) : SC (Lv + 1) st := fun _ => ⟨(s hl).1, by have := (s hl).2; omega⟩
theorem snots_n {st : List Int32} (hs : ¬ tp st = 33) : snots st = st := by
  cases st with
  | nil => rfl
  | cons x k =>
    have hs : ¬ x = 33 := hs
    rw [snots, if_neg hs]
theorem unw_n {r : Nat} {st : List Int32} (hr : 1 ≤ r) (hs : rk (tp st) < r) : unw r st = st := by
  cases st with
  | nil => rfl
  | cons x k =>
    have hs : rk x < r := hs
    rw [unw, if_neg (by omega)]
theorem unw_app {r : Nat} {st : List Int32} (hr : 1 ≤ r) (hs : rk (tp st) < r) : ∀ W : List Int32, (∀ x ∈ W, r ≤ rk x) → unw r (W ++ st) = st
  | [], _ => unw_n hr hs
  | x :: W, hw => by
    show unw r (x :: (W ++ st)) = st
    rw [unw, if_pos (hw x List.mem_cons_self)]
    exact unw_app hr hs W (fun y hy => hw y (List.mem_cons_of_mem _ hy))
/-- the class comes to a fault, where the reference stands -/
def NO (g : Nat → Int32) (n : Nat) (key : Int32) (b : Nat) (gl : Int32) (st : List Int32) (pc : Int32) (h' : List pC) : Prop := ∃ (k : Nat) (c' : KS), its g n key k (b, gl, st, 1, pc) = some c' ∧ cst g n key c' = some none ∧ ¬ okS g n c' ∧ ri h' 110 16 = nI c'.1
/-- the class comes behind what was read -/
def YS (Lv Fl : Nat) (g : Nat → Int32) (n : Nat) (key : Int32) (b : Nat) (gl : Int32) (st : List Int32) (pc : Int32) (h' : List pC) : Prop := ∃ (k b' : Nat) (gl' : Int32) (W : List Int32), its g n key k (b, gl, st, 1, pc) = some (b', gl', W ++ bs Lv st, 0, ri h' 110 25) ∧ TS g n b' gl' st h' ∧ (∀ x ∈ W, Lv ≤ rk x ∧ Lv ≤ 5) ∧ Fo Fl g n b' (W ++ bs Lv st)
def RES (Lv : Nat) (g : Nat → Int32) (n : Nat) (key : Int32) (b : Nat) (gl : Int32) (st : List Int32) (h : List pC) (r : Int32) (h' : List pC) : Prop := (r = 0 ∧ NO g n key b gl st (ri h 110 25) h') ∨ (r = 1 ∧ OKP h h' ∧ YS Lv Lv g n key b gl st (ri h 110 25) h')
/-- the contract of a method of the grammar, with the class's turns -/
def GD (E : pX) (M : pM) (k : Int) (Lv : Nat) (m : Nat) : Prop := ∀ (d : Nat) (h : List pC) (key : Int32) (g : Nat → Int32) (n b : Nat) (gl : Int32) (st : List Int32), (key = 0 ∨ key = 1 ∨ key = 2) → PIn h → TS g n b gl st h → SC Lv st → (97 - fi h 16).toNat ≤ m → 12 + 6 * (8 - fi h 21) + (8 - fi h 22) + k ≤ (d : Int) → ∃ (r : Int32) (h' : List pC), Run prog E pV1 d M [.ref 110, .int key] h (some (.int r), h', 0, 0) ∧ HI HT h' ∧ FrP h h' ∧ RES Lv g n key b gl st h r h'
theorem NO.cmp {k b b2 : Nat} {gl gl2 : Int32} {st st2 : List Int32} {pc pc2 : Int32} (hi : its g n key k (b, gl, st, 1, pc) = some (b2, gl2, st2, 1, pc2)) (q : NO g n key b2 gl2 st2 pc2 h') : NO g n key b gl st pc h' := by
  obtain ⟨k2, c', e1, e2, e3, e4⟩ := q
  exact ⟨k + k2, c', its_add hi e1, e2, e3, e4⟩
theorem tk_sign {b : Nat} {gl : Int32} {st : List Int32} (t : TS g n b gl st h) : (ri h 110 18 = 3 ↔ kd g n b = 3) ∧ (ri h 110 18 = 0 ↔ kd g n b = 0) := by
  have t3 := t.2.2.1
  rw [t3]
  rcases kd_cases g n b with ⟨_, e⟩ | ⟨_, _, e⟩ | ⟨_, _, _, e⟩ | ⟨_, _, _, e⟩
  · rw [e, tkc_0]
    exact ⟨⟨fun z => absurd z (by decide), fun z => absurd z (by decide)⟩, ⟨fun _ => rfl, fun _ => rfl⟩⟩
  · rw [e, tkc_1]
    refine ⟨⟨fun z => ?_, fun z => absurd z (by decide)⟩, ⟨fun z => ?_, fun z => absurd z (by decide)⟩⟩
    · split at z <;> exact absurd z (by decide)
    · split at z <;> exact absurd z (by decide)
  · rw [e, tkc_2]
    refine ⟨⟨fun z => ?_, fun z => absurd z (by decide)⟩, ⟨fun z => ?_, fun z => absurd z (by decide)⟩⟩
    · split at z <;> exact absurd z (by decide)
    · split at z <;> exact absurd z (by decide)
  · rw [e, tkc_3]
    exact ⟨⟨fun _ => rfl, fun _ => rfl⟩, ⟨fun z => absurd z (by decide), fun z => absurd z (by decide)⟩⟩
/-- cells outside what a step of the reader writes -/
theorem TS.fr {b : Nat} {gl : Int32} {st : List Int32} (t : TS g n b gl st h) (hp : ∀ j : Nat, ri h1 124 j = ri h 124 j) (hf : ∀ i : Nat, (15 ≤ i ∧ i ≤ 18) ∨ (20 ≤ i ∧ i ≤ 22) → ri h1 110 i = ri h 110 i) : TS g n b gl st h1 := by
  obtain ⟨⟨t1, a1, a2⟩, ⟨t2, t3, t4⟩, t5, t6, t7, t8, t9⟩ := t
  refine ⟨⟨fun j hj => by rw [hp]; exact t1 j hj, a1, a2⟩, ⟨by rw [hf 15 (by omega)]; exact t2, by rw [hf 16 (by omega)]; exact t3, by rw [hf 17 (by omega)]; exact t4⟩, by rw [hf 18 (by omega)]; exact t5, fun q => by rw [hf 20 (by omega)]; exact t6 q, fun q => by rw [hf 20 (by omega)]; exact t7 q, ?_, ?_⟩
  · unfold fi
    rw [hf 21 (by omega)]
    exact t8
  · unfold fi
    rw [hf 22 (by omega)]
    exact t9
/-- on to the next token, where the token was no fault -/
theorem TS.nx {b : Nat} {gl : Int32} {st : List Int32} (hp : HI HT h) (t : TS g n b gl st h) (h4 : ri h 110 18 ≠ 4) (h0 : kd g n b ≠ 0) {e : Int} (r2 : Run prog E pV1 (d + 8) mX8_nextToken [.ref 110] h (none, h2, 0, 0)) (n2 : PNt h e none h2) : TS g n (nxb g n b) (glu (nI (kd g n b)) (wEnd g n b) (nxb g n b)) st h2 ∧ ri h2 110 25 = ri h 110 25 ∧ nxb g n b ≤ n := by
  obtain ⟨⟨t1, a1, a2⟩, ⟨t2, t3, t4⟩, t5, t6, t7, t8, t9⟩ := t
  have el := wEnd_le (g := g) a2
  have nb := nxb_le (g := g) a2
  obtain ⟨fs, ho, hF⟩ := hi_obj hp HTm
  have at_ : ∀ (i : Nat) (lo hi : Int), MX[i]? = some (0, lo, hi, 0) → fs[i]? = some (.int (ri h 110 i)) := fun i lo hi hx => fld_at ho (m_fld hp hx).1
  have F : NF fs n b (wEnd g n b) (ri h 110 18) (ri h 110 20) := ⟨hF.ref (a := 124) rfl, by rw [← t2]; exact at_ 15 0 96 rfl, by rw [← t3]; exact at_ 16 0 96 rfl, by rw [← t4]; exact at_ 17 0 96 rfl, at_ 18 0 4 rfl, ⟨_, at_ 19 _ _ rfl⟩, at_ 20 _ _ rfl⟩
  obtain ⟨f, p1, u1, -⟩ := hi_int (a := 124) (n := 96) (sg := [(0, 95, 0, 255)]) hp rfl
  obtain ⟨h', gs', q, N, R⟩ := nt_v (E := E) (d := d) (g := g) p1 (fun j hj => by rw [← u1 j hj]; exact t1 j hj) a1 el.2.1 ho F
  have e1 : h' = h2 := (Prod.mk.inj (Prod.mk.inj (Run.det q r2)).2).1
  rw [e1] at N
  obtain ⟨-, n1, n3, -⟩ := n2
  have f2 : ∀ i : Nat, i < 16 ∨ 20 < i → ri h2 110 i = ri h 110 i := fun i hi => ri_fr n3 (nin_iff.mpr (by
    simp only [WNt, List.forall_mem_cons]
    exact ⟨by omega, fun _ h => absurd h List.not_mem_nil⟩))
  have get : ∀ (i : Nat) (v : Int32), gs'[i]? = some (.int v) → ri h2 110 i = v := fun i v hv => by
    unfold ri ct
    rw [pobj_at N.1]
    dsimp only
    rw [hv]
  obtain ⟨R16, R17, R18, R20, R23⟩ := R
  have etg : tgt (wEnd g n b) (nxb g n b) (ri h 110 18) = glu (nI (kd g n b)) (wEnd g n b) (nxb g n b) := by
    have hlt := el.2.2 h0
    unfold tgt glu
    congr 1
    refine propext ?_
    rw [t5]
    rw [t5] at h4
    rcases kd_cases g n b with ⟨_, e⟩ | ⟨_, _, e⟩ | ⟨_, _, _, e⟩ | ⟨_, _, _, e⟩
    · exact absurd e h0
    · rw [e, tkc_1] at h4 ⊢
      by_cases c : gl = 0
      · rw [if_pos c, if_pos ⟨by omega, Or.inl rfl⟩, if_pos (Or.inl nI1)]
      · rw [if_neg c] at h4
        exact absurd rfl h4
    · rw [e, tkc_2] at h4 ⊢
      by_cases c : gl = 0 ∧ wEnd g n b - b ≤ 4
      · rw [if_pos c, if_pos ⟨by omega, Or.inr rfl⟩, if_pos (Or.inr (by decide +kernel))]
      · rw [if_neg c] at h4
        exact absurd rfl h4
    · rw [e, tkc_3, if_neg (fun z => z.2.elim (by decide) (by decide)), if_neg (fun z => z.elim (by decide +kernel) (by decide +kernel))]
  rw [show skp g n (n - wEnd g n b) (wEnd g n b) = nxb g n b from rfl] at R16 R17 R18 R20 R23
  rw [etg] at R18
  refine ⟨⟨⟨fun j hj => by rw [ri_fr n3 rfl]; exact t1 j hj, a1, nb.2⟩, ⟨by rw [f2 15 (by omega)]; exact t2, get 16 _ R16, get 17 _ R17⟩, get 18 _ R18, fun z => get 20 _ (R20 z), fun z => get 20 _ (R23 z), ?_, ?_⟩, f2 25 (by omega), nb.2⟩
  · unfold fi
    rw [f2 21 (by omega)]
    exact t8
  · unfold fi
    rw [f2 22 (by omega)]
    exact t9
theorem rk_cn {c : Int32} (hc : rk c ≠ 0) (st : List Int32) : cn1 40 (c :: st) = cn1 40 st ∧ cn1 33 (c :: st) = cn1 33 st := ⟨cn_c0 (fun z => by rw [z] at hc; exact hc rk_40), cn_c0 (fun z => by rw [z] at hc; exact hc rk_33)⟩
/-- the class takes a sign behind a piece -/
theorem cst_op {b : Nat} {gl pc : Int32} {st W : List Int32} {r : Nat} (hr : 1 ≤ r) (hk : kd g n b = 3) (hc : rk (g b) = r) (hW : ∀ x ∈ W, (if r = 3 then 4 else r) ≤ rk x) (hs : rk (tp st) < r) : cst g n key (b, gl, W ++ st, 0, pc) = some (some (nxb g n b, glu (nI (kd g n b)) (wEnd g n b) (nxb g n b), g b :: st, 1, pc)) := by
  have e : gon g key (kd g n b) b (wEnd g n b) gl (W ++ st) 0 pc = some (some (g b :: st, 1, pc)) := by
    unfold gon
    rw [if_pos hk, if_neg (by decide), if_neg (fun z => by rw [z.1] at hc; rw [rk_41] at hc; omega), if_neg (by omega)]
    by_cases e3 : r = 3
    · rw [if_pos (by omega)]
      rw [if_pos e3] at hW
      rw [unw_app (by decide) (by omega) W hW, if_neg (by omega)]
    · rw [if_neg (by omega)]
      rw [if_neg e3] at hW
      rw [hc, unw_app hr hs W hW]
  unfold cst
  rw [if_neg (by show kd g n b ≠ 0; omega)]
  show (match gon g key (kd g n b) b (wEnd g n b) gl (W ++ st) 0 pc with
    | none => none
    | some none => some none
    | some (some q) => some (some (nxb g n b, glu (nI (kd g n b)) (wEnd g n b) (nxb g n b), q))) = _
  rw [e]
/-- a sign, and on to what stands behind it -/
theorem YS.op {Lv b : Nat} {gl pc c : Int32} {st : List Int32} (hl : 1 ≤ Lv) (h5 : Lv ≤ 5) (hp : PIn h1) (y : YS Lv (Lv + 1) g n key b gl st pc h1 ∨ (Lv = 3 ∧ YS 4 4 g n key b gl st pc h1)) (h3y : Lv = 3 → YS 4 4 g n key b gl st pc h1) (hs : SC Lv st) (h18 : ri h1 110 18 = 3) (h20 : ri h1 110 20 = c) (hc : rk c = Lv) {e : Int} (r2 : Run prog E pV1 (d + 8) mX8_nextToken [.ref 110] h1 (none, h2, 0, 0)) (n2 : PNt h1 e none h2) : ∃ (k b2 : Nat) (gl2 : Int32), its g n key k (b, gl, st, 1, pc) = some (b2, gl2, c :: st, 1, ri h2 110 25) ∧ TS g n b2 gl2 (c :: st) h2 ∧ SC (Lv + 1) (c :: st) := by
  have h0 : rk c ≠ 0 := by omega
  have body : ∀ (k b' : Nat) (gl' : Int32) (W : List Int32), its g n key k (b, gl, st, 1, pc) = some (b', gl', W ++ st, 0, ri h1 110 25) → TS g n b' gl' st h1 → (∀ x ∈ W, (if Lv = 3 then 4 else Lv) ≤ rk x) → ∃ (k b2 : Nat) (gl2 : Int32), its g n key k (b, gl, st, 1, pc) = some (b2, gl2, c :: st, 1, ri h2 110 25) ∧ TS g n b2 gl2 (c :: st) h2 ∧ SC (Lv + 1) (c :: st) := by
    intro k b' gl' W e1 t hW
    have k3 := (tk_sign t).1.mp h18
    have gb : g b' = c := by rw [← h20]; exact (t.2.2.2.2.1 k3).symm
    have cs := cst_op (key := key) (gl := gl') (pc := ri h1 110 25) (st := st) (W := W) (r := Lv) hl k3 (by rw [gb]; exact hc) hW (hs h5).2
    obtain ⟨t2, e25, nb⟩ := t.nx hp.1 (by rw [h18]; decide) (by omega) r2 n2
    rw [gb] at cs
    have rc := rk_cn h0 st
    refine ⟨k + 1, _, _, its_add e1 (by rw [its_1 cs, e25]; rfl), t2.cn rc.1 rc.2, fun _ => ⟨fun z => h0 (by rw [show c = 33 from z]; exact rk_33), by show rk c < Lv + 1; omega⟩⟩
  by_cases e3 : Lv = 3
  · obtain ⟨k, b', gl', W, e1, t, hW, -⟩ := h3y e3
    rw [bs_n (by decide)] at e1
    exact body k b' gl' W e1 t (fun x hx => by rw [if_pos e3]; exact (hW x hx).1)
  · rcases y with ⟨k, b', gl', W, e1, t, hW, -⟩ | ⟨e, -⟩
    · rw [bs_n (by omega)] at e1
      exact body k b' gl' W e1 t (fun x hx => by rw [if_neg e3]; exact (hW x hx).1)
    · exact absurd e e3
/-- a step is laid: the token stands -/
theorem STp.ts {what v : Int32} {b : Nat} {gl : Int32} {st : List Int32} (hp : HI HT h) (hl : fi h 23 ≤ 97) (s : STp what v h h1) (t : TS g n b gl st h) : TS g n b gl st h1 ∧ ri h1 110 25 = ri h 110 25 := by
  have hs := (st_fr hp hl s).2
  have hr : ∀ i, i ≠ 23 → ri h1 110 i = ri h 110 i := fun i hi => Int32.toInt_inj.mp (hs i hi)
  obtain ⟨s1, s2, -, -, -⟩ := s
  exact ⟨t.fr (fun j => ri_ct (s2 124 j (fun q => by omega) (fun q => by omega))) (fun i hi => hr i (by omega)), hr 25 (by decide)⟩
/-- which signs have a rank -/
theorem rk_i5 {c : Int32} (q : rk c = 5) : c = 42 ∨ c = 47 := by
  unfold rk at q
  repeat' split at q
  all_goals first
    | omega
    | assumption
theorem rk_i4 {c : Int32} (q : rk c = 4) : c = 43 ∨ c = 45 := by
  unfold rk at q
  repeat' split at q
  all_goals first
    | omega
    | assumption
theorem rk_i3 {c : Int32} (q : rk c = 3) : c = 60 ∨ c = 61 ∨ c = 62 := by
  unfold rk at q
  repeat' split at q
  all_goals first
    | omega
    | assumption
theorem rk_i2 {c : Int32} (q : rk c = 2) : c = 38 := by
  unfold rk at q
  repeat' split at q
  all_goals first
    | omega
    | assumption
theorem rk_i1 {c : Int32} (q : rk c = 1) : c = 124 := by
  unfold rk at q
  repeat' split at q
  all_goals first
    | omega
    | assumption
theorem bs_c {Lv : Nat} {c : Int32} {st : List Int32} (hc : rk c ≠ 0) : bs Lv (c :: st) = c :: st := by
  by_cases e : Lv = 6
  · rw [e, bs_6]
    exact snots_n (fun z => hc (by rw [show c = 33 from z]; exact rk_33))
  · exact bs_n e _
/-- a part behind a sign: it joins -/
theorem YS.jn {Lv Fl k b b2 : Nat} {gl gl2 pc pc2 c : Int32} {st : List Int32} (hl : 1 ≤ Lv) (h5 : Lv ≤ 5) (hc : rk c = Lv) (e2 : its g n key k (b, gl, st, 1, pc) = some (b2, gl2, c :: st, 1, pc2)) (y : YS (Lv + 1) (Lv + 1) g n key b2 gl2 (c :: st) pc2 h3) (ht : ∀ (b' : Nat) (gl' : Int32), TS g n b' gl' (c :: st) h3 → TS g n b' gl' (c :: st) h4 ∧ ri h4 110 25 = ri h3 110 25) (hF : ∀ (b' : Nat) (W : List Int32), (∀ x ∈ W, Lv + 1 ≤ rk x ∧ Lv + 1 ≤ 5) → Fo (Lv + 1) g n b' (W ++ (c :: st)) → Fo Fl g n b' (W ++ (c :: st))) : YS Lv Fl g n key b gl st pc h4 := by
  obtain ⟨k3, b3, gl3, W, e3, t3, hW, fo⟩ := y
  have h0 : rk c ≠ 0 := by omega
  rw [bs_c h0] at e3 fo
  obtain ⟨t4, e25⟩ := ht b3 gl3 t3
  have rc := rk_cn h0 st
  have ea : W ++ [c] ++ bs Lv st = W ++ (c :: st) := by
    rw [bs_n (by omega), List.append_assoc]
    rfl
  refine ⟨k + k3, b3, gl3, W ++ [c], ?_, t4.cn rc.1.symm rc.2.symm, fun x hx => ?_, ?_⟩
  · rw [ea, e25]
    exact its_add e2 e3
  · rcases List.mem_append.mp hx with hx | hx
    · have := hW x hx
      omega
    · rw [List.mem_singleton.mp hx]
      omega
  · rw [ea]
    exact hF b3 W hW fo
theorem YS.lf {Lv : Nat} {b : Nat} {gl pc : Int32} {st : List Int32} (h5 : Lv ≤ 5) (hs : SC Lv st) (y : YS (Lv + 1) (Lv + 1) g n key b gl st pc h1) : YS Lv (Lv + 1) g n key b gl st pc h1 := by
  obtain ⟨k, b', gl', W, e, t, hW, fo⟩ := y
  have eb : bs (Lv + 1) st = bs Lv st := by
    rw [bs_n (Lv := Lv) (by omega) st]
    by_cases e6 : Lv + 1 = 6
    · rw [e6, bs_6]
      exact snots_n (hs h5).1
    · exact bs_n e6 st
  rw [eb] at e fo
  exact ⟨k, b', gl', W, e, t, fun x hx => by have := hW x hx; omega, fo⟩
/-- no sign of that rank follows -/
theorem YS.ex {Lv Fl Gl : Nat} {b : Nat} {gl pc : Int32} {st : List Int32} (y : YS Lv Fl g n key b gl st pc h1) (hn : ∀ c : Int32, rk c = Gl → ri h1 110 18 = 3 → ri h1 110 20 = c → False) (hG : Fl = Gl + 1) (h3 : Gl ≤ 3 → Fl ≤ 3 ∨ Gl = 3) : YS Lv Gl g n key b gl st pc h1 := by
  obtain ⟨k, b', gl', W, e, t, hW, fo⟩ := y
  refine ⟨k, b', gl', W, e, t, hW, fun k3 => ?_⟩
  have nn : rk (g b') ≠ Gl := fun q => hn (g b') q ((tk_sign t).1.mpr k3) (t.2.2.2.2.1 k3)
  obtain ⟨f1, f2⟩ := fo k3
  refine ⟨fun r h1 h2 h4 => ?_, fun hl q => ?_⟩
  · by_cases er : r = Gl
    · rw [er]
      exact nn
    · exact f1 r (by omega) h2 h4
  · rcases h3 hl with z | z
    · exact f2 z q
    · exact absurd (q.trans z.symm) nn
end GRD2

/-! ===== the grammar against the class's turns: signs between (printed by program) ===== -/
section GRE2
variable {E : pX} {d : Nat} {h h1 : List pC} {g : Nat → Int32} {n : Nat} {key : Int32}
theorem YS.w43 {b : Nat} {gl pc : Int32} {st : List Int32} (y : YS 4 3 g n key b gl st pc h1) : YS 3 3 g n key b gl st pc h1 := by
  obtain ⟨k, b', gl', W, e, t, hW, fo⟩ := y
  exact ⟨k, b', gl', W, e, t, fun x hx => by have := hW x hx; omega, fo⟩
theorem gd_term {m : Nat} (hY : ∀ m' ≤ m, GD E mX8_part0 0 6 m') : GD E mX8_term 1 5 m := by
  intro d0 h key g n b gl st hk hp ht hs hm hd
  obtain ⟨d, rfl⟩ : ∃ d', d0 = d' + 9 := ⟨d0 - 9, by
    have r21 := (m_fld hp.1 (i := 21) (lo := 0) (hi := 8) rfl).2
    have r22 := (m_fld hp.1 (i := 22) (lo := 0) (hi := 8) rfl).2
    omega⟩
  have loop : ∀ (M : Nat) (h1 : List pC) (l2 : Option Value), (97 - fi h1 16).toNat = M → OKP h h1 → FrP h h1 → YS 5 6 g n key b gl st (ri h 110 25) h1 → ∃ (r : Int32) (h' : List pC), RA prog E pV1 (d + 9) mX8_term 6 [some (.ref 110), some (.int key), l2] [] h1 (some (.int r), h', 0, 0) ∧ HI HT h' ∧ FrP h h' ∧ RES 5 g n key b gl st h r h' := by
    intro M
    induction M using Nat.strongRecOn with
    | _ M ih =>
      intro h1 l2 hM ok1 f1 y1
      obtain ⟨fs, ho, -⟩ := hi_obj ok1.1.1 HTm
      obtain ⟨c20, -⟩ := m_fld ok1.1.1 (i := 20) (lo := -2147483648) (hi := 2147483647) rfl
      have go : ∀ c : Int32, (c = 42 ∨ c = 47) → ri h1 110 18 = 3 → ri h1 110 20 = c → ∃ (r : Int32) (h' : List pC), RA prog E pV1 (d + 9) mX8_term 14 [some (.ref 110), some (.int key), l2] [] h1 (some (.int r), h', 0, 0) ∧ HI HT h' ∧ FrP h h' ∧ RES 5 g n key b gl st h r h' := by
        intro c hc h18 h20
        have k18 : fi h1 18 ≠ 0 := by unfold fi; rw [h18]; decide
        obtain ⟨h2, r2, n2⟩ := next_x (E := E) (V := pV1) (d := d) ok1.1.1 ok1.1.2.2.1
        obtain ⟨i2, f2, n21, n22, n23, n16, n18, -⟩ := nt_in ok1.1 n2
        have n18 := n18 k18
        have z1 := ok1.2.1
        have z2 := ok1.2.2.1
        have z3 := ok1.2.2.2.1
        have hcr : rk c = 5 := (by rcases hc with rfl | rfl <;> decide)
        obtain ⟨k2, b2, gl2, e2, t2, sc2⟩ := YS.op (Lv := 5) (by decide) (by decide) ok1.1 (Or.inl y1) (fun z => absurd z (by decide)) hs h18 h20 hcr r2 n2
        obtain ⟨r3, h3, q3, i3, f3, ok3⟩ := hY (97 - fi h2 16).toNat (by omega) (d + 8) h2 key g n b2 gl2 (c :: st) hk i2 t2 sc2 (Nat.le_refl _) (by push_cast at hd ⊢; omega)
        have pre : ∀ res, RA prog E pV1 (d + 9) mX8_term 22 [some (.ref 110), some (.int key), some (.int c)] [.int r3] h3 res → RA prog E pV1 (d + 9) mX8_term 14 [some (.ref 110), some (.int key), l2] [] h1 res := by
          intro res k
          refine RA.steps 1 rfl ?_
          refine RA.getf rfl ho rfl (fld_at ho c20) ?_
          rw [h20]
          refine RA.steps 2 rfl ?_
          refine call110 rfl rfl rfl rfl ok1.1.1 rfl (Nat.le_of_ble_eq_true rfl) r2 ?_
          refine RA.steps 2 rfl ?_
          exact call110 rfl rfl rfl rfl i2.1 rfl (Nat.le_of_ble_eq_true rfl) q3 k
        rcases ok3 with ⟨rfl, no3⟩ | ⟨rfl, ok3, y3⟩
        · refine ⟨0, h3, pre _ ?_, i3, (f1.tr f2 ok1.2.2.2.2.1).tr f3 (by have := ok1.2.2.2.2.1; omega), Or.inl ⟨rfl, no3.cmp e2⟩⟩
          refine RA.if1F rfl rfl ?_
          refine RA.steps 1 rfl ?_
          exact RA.ret rfl rfl
        · have hl3 : fi h3 23 ≤ 97 := by
            have b3 := (m_fld i3 (i := 16) (lo := 0) (hi := 96) rfl).2
            have := ok3.1.2.2.2.2
            omega
          obtain ⟨h4, r4, s1, s2, s3, s4, s5⟩ := step_x (E := E) (V := pV1) (d := d + 7) 2 c i3 hl3 ok3.1.2.2.2.2.2
          obtain ⟨ok4, f4, n4⟩ := ok_two hp ok1 f1 k18 n2 ok3 f3 (c := c) (h4 := h4) ⟨s1, s2, s3, s4, s5⟩ (by rcases hc with rfl | rfl <;> decide)
          have y4 : YS 5 6 g n key b gl st (ri h 110 25) h4 := YS.jn (by decide) (by decide) hcr e2 y3 (fun b' gl' t => STp.ts i3 hl3 (what := 2) (v := c) ⟨s1, s2, s3, s4, s5⟩ t) (fun b' W hW fo => fo)
          obtain ⟨r, h', q, w⟩ := ih (97 - fi h4 16).toNat (by have b4 := (m_fld s1 (i := 16) (lo := 0) (hi := 96) rfl).2; omega) h4 (some (.int c)) rfl ok4 f4 y4
          refine ⟨r, h', pre _ ?_, w⟩
          refine RA.if1T rfl rfl ?_
          refine RA.steps 3 rfl ?_
          refine call110 rfl rfl rfl rfl i3 rfl (Nat.le_of_ble_eq_true rfl) r4 ?_
          exact RA.steps 1 rfl q
      have s1 := isSign_x (E := E) (V := pV1) (d := d + 7) 42 ok1.1.1
      have s2 := isSign_x (E := E) (V := pV1) (d := d + 7) 47 ok1.1.1
      by_cases e1 : ri h1 110 18 = 3 ∧ ri h1 110 20 = 42
      · rw [if_pos e1] at s1
        obtain ⟨r, h', q, w⟩ := go 42 (Or.inl rfl) e1.1 e1.2
        refine ⟨r, h', ?_, w⟩
        refine RA.steps 2 rfl ?_
        refine call110 rfl rfl rfl rfl ok1.1.1 rfl (Nat.le_of_ble_eq_true rfl) s1 ?_
        exact RA.if1T rfl rfl q
      · rw [if_neg e1] at s1
        by_cases e2 : ri h1 110 18 = 3 ∧ ri h1 110 20 = 47
        · rw [if_pos e2] at s2
          obtain ⟨r, h', q, w⟩ := go 47 (Or.inr rfl) e2.1 e2.2
          refine ⟨r, h', ?_, w⟩
          refine RA.steps 2 rfl ?_
          refine call110 rfl rfl rfl rfl ok1.1.1 rfl (Nat.le_of_ble_eq_true rfl) s1 ?_
          refine RA.if1F rfl rfl ?_
          refine RA.steps 2 rfl ?_
          refine call110 rfl rfl rfl rfl ok1.1.1 rfl (Nat.le_of_ble_eq_true rfl) s2 ?_
          exact RA.if1F rfl rfl q
        · rw [if_neg e2] at s2
          have yx : YS 5 5 g n key b gl st (ri h 110 25) h1 := y1.ex (fun c q q18 q20 => by
            rcases rk_i5 q with rfl | rfl
            · exact e1 ⟨q18, q20⟩
            · exact e2 ⟨q18, q20⟩) rfl (fun z => absurd z (by decide))
          refine ⟨1, h1, ?_, ok1.1.1, f1, Or.inr ⟨rfl, ok1, yx⟩⟩
          refine RA.steps 2 rfl ?_
          refine call110 rfl rfl rfl rfl ok1.1.1 rfl (Nat.le_of_ble_eq_true rfl) s1 ?_
          refine RA.if1F rfl rfl ?_
          refine RA.steps 2 rfl ?_
          refine call110 rfl rfl rfl rfl ok1.1.1 rfl (Nat.le_of_ble_eq_true rfl) s2 ?_
          refine RA.if1T rfl rfl ?_
          refine RA.steps 1 rfl ?_
          exact RA.ret rfl rfl
  obtain ⟨r1, h1, q1, i1, f1, ok1⟩ := hY (97 - fi h 16).toNat hm (d + 8) h key g n b gl st hk hp ht (hs.up (by decide)) (Nat.le_refl _) (by push_cast at hd ⊢; omega)
  have st_ : ∀ r h', RA prog E pV1 (d + 9) mX8_term 3 [some (.ref 110), some (.int key), none] [.int r1] h1 (some (.int r), h', 0, 0) → Run prog E pV1 (d + 9) mX8_term [.ref 110, .int key] h (some (.int r), h', 0, 0) := by
    intro r h' k
    refine ⟨Nat.le_of_ble_eq_true rfl, ⟨_, _, rfl⟩, ?_⟩
    refine RA.steps 2 rfl ?_
    exact call110 rfl rfl rfl rfl hp.1 rfl (Nat.le_of_ble_eq_true rfl) q1 k
  rcases ok1 with ⟨rfl, no1⟩ | ⟨rfl, ok1, y1⟩
  · refine ⟨0, h1, st_ _ _ ?_, i1, f1, Or.inl ⟨rfl, no1⟩⟩
    refine RA.if1F rfl rfl ?_
    refine RA.steps 1 rfl ?_
    exact RA.ret rfl rfl
  · obtain ⟨r, h', q, w⟩ := loop (97 - fi h1 16).toNat h1 none rfl ok1 f1 (y1.lf (by decide) hs)
    exact ⟨r, h', st_ _ _ (RA.if1T rfl rfl q), w⟩
theorem gd_sum {m : Nat} (hY : ∀ m' ≤ m, GD E mX8_term 1 5 m') : GD E mX8_sum 2 4 m := by
  intro d0 h key g n b gl st hk hp ht hs hm hd
  obtain ⟨d, rfl⟩ : ∃ d', d0 = d' + 9 := ⟨d0 - 9, by
    have r21 := (m_fld hp.1 (i := 21) (lo := 0) (hi := 8) rfl).2
    have r22 := (m_fld hp.1 (i := 22) (lo := 0) (hi := 8) rfl).2
    omega⟩
  have loop : ∀ (M : Nat) (h1 : List pC) (l2 : Option Value), (97 - fi h1 16).toNat = M → OKP h h1 → FrP h h1 → YS 4 5 g n key b gl st (ri h 110 25) h1 → ∃ (r : Int32) (h' : List pC), RA prog E pV1 (d + 9) mX8_sum 6 [some (.ref 110), some (.int key), l2] [] h1 (some (.int r), h', 0, 0) ∧ HI HT h' ∧ FrP h h' ∧ RES 4 g n key b gl st h r h' := by
    intro M
    induction M using Nat.strongRecOn with
    | _ M ih =>
      intro h1 l2 hM ok1 f1 y1
      obtain ⟨fs, ho, -⟩ := hi_obj ok1.1.1 HTm
      obtain ⟨c20, -⟩ := m_fld ok1.1.1 (i := 20) (lo := -2147483648) (hi := 2147483647) rfl
      have go : ∀ c : Int32, (c = 43 ∨ c = 45) → ri h1 110 18 = 3 → ri h1 110 20 = c → ∃ (r : Int32) (h' : List pC), RA prog E pV1 (d + 9) mX8_sum 14 [some (.ref 110), some (.int key), l2] [] h1 (some (.int r), h', 0, 0) ∧ HI HT h' ∧ FrP h h' ∧ RES 4 g n key b gl st h r h' := by
        intro c hc h18 h20
        have k18 : fi h1 18 ≠ 0 := by unfold fi; rw [h18]; decide
        obtain ⟨h2, r2, n2⟩ := next_x (E := E) (V := pV1) (d := d) ok1.1.1 ok1.1.2.2.1
        obtain ⟨i2, f2, n21, n22, n23, n16, n18, -⟩ := nt_in ok1.1 n2
        have n18 := n18 k18
        have z1 := ok1.2.1
        have z2 := ok1.2.2.1
        have z3 := ok1.2.2.2.1
        have hcr : rk c = 4 := (by rcases hc with rfl | rfl <;> decide)
        obtain ⟨k2, b2, gl2, e2, t2, sc2⟩ := YS.op (Lv := 4) (by decide) (by decide) ok1.1 (Or.inl y1) (fun z => absurd z (by decide)) hs h18 h20 hcr r2 n2
        obtain ⟨r3, h3, q3, i3, f3, ok3⟩ := hY (97 - fi h2 16).toNat (by omega) (d + 8) h2 key g n b2 gl2 (c :: st) hk i2 t2 sc2 (Nat.le_refl _) (by push_cast at hd ⊢; omega)
        have pre : ∀ res, RA prog E pV1 (d + 9) mX8_sum 22 [some (.ref 110), some (.int key), some (.int c)] [.int r3] h3 res → RA prog E pV1 (d + 9) mX8_sum 14 [some (.ref 110), some (.int key), l2] [] h1 res := by
          intro res k
          refine RA.steps 1 rfl ?_
          refine RA.getf rfl ho rfl (fld_at ho c20) ?_
          rw [h20]
          refine RA.steps 2 rfl ?_
          refine call110 rfl rfl rfl rfl ok1.1.1 rfl (Nat.le_of_ble_eq_true rfl) r2 ?_
          refine RA.steps 2 rfl ?_
          exact call110 rfl rfl rfl rfl i2.1 rfl (Nat.le_of_ble_eq_true rfl) q3 k
        rcases ok3 with ⟨rfl, no3⟩ | ⟨rfl, ok3, y3⟩
        · refine ⟨0, h3, pre _ ?_, i3, (f1.tr f2 ok1.2.2.2.2.1).tr f3 (by have := ok1.2.2.2.2.1; omega), Or.inl ⟨rfl, no3.cmp e2⟩⟩
          refine RA.if1F rfl rfl ?_
          refine RA.steps 1 rfl ?_
          exact RA.ret rfl rfl
        · have hl3 : fi h3 23 ≤ 97 := by
            have b3 := (m_fld i3 (i := 16) (lo := 0) (hi := 96) rfl).2
            have := ok3.1.2.2.2.2
            omega
          obtain ⟨h4, r4, s1, s2, s3, s4, s5⟩ := step_x (E := E) (V := pV1) (d := d + 7) 2 c i3 hl3 ok3.1.2.2.2.2.2
          obtain ⟨ok4, f4, n4⟩ := ok_two hp ok1 f1 k18 n2 ok3 f3 (c := c) (h4 := h4) ⟨s1, s2, s3, s4, s5⟩ (by rcases hc with rfl | rfl <;> decide)
          have y4 : YS 4 5 g n key b gl st (ri h 110 25) h4 := YS.jn (by decide) (by decide) hcr e2 y3 (fun b' gl' t => STp.ts i3 hl3 (what := 2) (v := c) ⟨s1, s2, s3, s4, s5⟩ t) (fun b' W hW fo => fo)
          obtain ⟨r, h', q, w⟩ := ih (97 - fi h4 16).toNat (by have b4 := (m_fld s1 (i := 16) (lo := 0) (hi := 96) rfl).2; omega) h4 (some (.int c)) rfl ok4 f4 y4
          refine ⟨r, h', pre _ ?_, w⟩
          refine RA.if1T rfl rfl ?_
          refine RA.steps 3 rfl ?_
          refine call110 rfl rfl rfl rfl i3 rfl (Nat.le_of_ble_eq_true rfl) r4 ?_
          exact RA.steps 1 rfl q
      have s1 := isSign_x (E := E) (V := pV1) (d := d + 7) 43 ok1.1.1
      have s2 := isSign_x (E := E) (V := pV1) (d := d + 7) 45 ok1.1.1
      by_cases e1 : ri h1 110 18 = 3 ∧ ri h1 110 20 = 43
      · rw [if_pos e1] at s1
        obtain ⟨r, h', q, w⟩ := go 43 (Or.inl rfl) e1.1 e1.2
        refine ⟨r, h', ?_, w⟩
        refine RA.steps 2 rfl ?_
        refine call110 rfl rfl rfl rfl ok1.1.1 rfl (Nat.le_of_ble_eq_true rfl) s1 ?_
        exact RA.if1T rfl rfl q
      · rw [if_neg e1] at s1
        by_cases e2 : ri h1 110 18 = 3 ∧ ri h1 110 20 = 45
        · rw [if_pos e2] at s2
          obtain ⟨r, h', q, w⟩ := go 45 (Or.inr rfl) e2.1 e2.2
          refine ⟨r, h', ?_, w⟩
          refine RA.steps 2 rfl ?_
          refine call110 rfl rfl rfl rfl ok1.1.1 rfl (Nat.le_of_ble_eq_true rfl) s1 ?_
          refine RA.if1F rfl rfl ?_
          refine RA.steps 2 rfl ?_
          refine call110 rfl rfl rfl rfl ok1.1.1 rfl (Nat.le_of_ble_eq_true rfl) s2 ?_
          exact RA.if1F rfl rfl q
        · rw [if_neg e2] at s2
          have yx : YS 4 4 g n key b gl st (ri h 110 25) h1 := y1.ex (fun c q q18 q20 => by
            rcases rk_i4 q with rfl | rfl
            · exact e1 ⟨q18, q20⟩
            · exact e2 ⟨q18, q20⟩) rfl (fun z => absurd z (by decide))
          refine ⟨1, h1, ?_, ok1.1.1, f1, Or.inr ⟨rfl, ok1, yx⟩⟩
          refine RA.steps 2 rfl ?_
          refine call110 rfl rfl rfl rfl ok1.1.1 rfl (Nat.le_of_ble_eq_true rfl) s1 ?_
          refine RA.if1F rfl rfl ?_
          refine RA.steps 2 rfl ?_
          refine call110 rfl rfl rfl rfl ok1.1.1 rfl (Nat.le_of_ble_eq_true rfl) s2 ?_
          refine RA.if1T rfl rfl ?_
          refine RA.steps 1 rfl ?_
          exact RA.ret rfl rfl
  obtain ⟨r1, h1, q1, i1, f1, ok1⟩ := hY (97 - fi h 16).toNat hm (d + 8) h key g n b gl st hk hp ht (hs.up (by decide)) (Nat.le_refl _) (by push_cast at hd ⊢; omega)
  have st_ : ∀ r h', RA prog E pV1 (d + 9) mX8_sum 3 [some (.ref 110), some (.int key), none] [.int r1] h1 (some (.int r), h', 0, 0) → Run prog E pV1 (d + 9) mX8_sum [.ref 110, .int key] h (some (.int r), h', 0, 0) := by
    intro r h' k
    refine ⟨Nat.le_of_ble_eq_true rfl, ⟨_, _, rfl⟩, ?_⟩
    refine RA.steps 2 rfl ?_
    exact call110 rfl rfl rfl rfl hp.1 rfl (Nat.le_of_ble_eq_true rfl) q1 k
  rcases ok1 with ⟨rfl, no1⟩ | ⟨rfl, ok1, y1⟩
  · refine ⟨0, h1, st_ _ _ ?_, i1, f1, Or.inl ⟨rfl, no1⟩⟩
    refine RA.if1F rfl rfl ?_
    refine RA.steps 1 rfl ?_
    exact RA.ret rfl rfl
  · obtain ⟨r, h', q, w⟩ := loop (97 - fi h1 16).toNat h1 none rfl ok1 f1 (y1.lf (by decide) hs)
    exact ⟨r, h', st_ _ _ (RA.if1T rfl rfl q), w⟩
theorem gd_test {m : Nat} (hY : ∀ m' ≤ m, GD E mX8_sum 2 4 m') : GD E mX8_test 3 3 m := by
  intro d0 h key g n b gl st hk hp ht hs hm hd
  obtain ⟨d, rfl⟩ : ∃ d', d0 = d' + 9 := ⟨d0 - 9, by
    have r21 := (m_fld hp.1 (i := 21) (lo := 0) (hi := 8) rfl).2
    have r22 := (m_fld hp.1 (i := 22) (lo := 0) (hi := 8) rfl).2
    omega⟩
  have loop : ∀ (M : Nat) (h1 : List pC) (l2 : Option Value), (97 - fi h1 16).toNat = M → OKP h h1 → FrP h h1 → YS 4 4 g n key b gl st (ri h 110 25) h1 → ∃ (r : Int32) (h' : List pC), RA prog E pV1 (d + 9) mX8_test 6 [some (.ref 110), some (.int key), l2] [] h1 (some (.int r), h', 0, 0) ∧ HI HT h' ∧ FrP h h' ∧ RES 3 g n key b gl st h r h' := by
    intro M h1 l2 hM ok1 f1 y1
    obtain ⟨fs, ho, -⟩ := hi_obj ok1.1.1 HTm
    obtain ⟨c20, -⟩ := m_fld ok1.1.1 (i := 20) (lo := -2147483648) (hi := 2147483647) rfl
    have go : ∀ c : Int32, (c = 60 ∨ c = 61 ∨ c = 62) → ri h1 110 18 = 3 → ri h1 110 20 = c → ∃ (r : Int32) (h' : List pC), RA prog E pV1 (d + 9) mX8_test 18 [some (.ref 110), some (.int key), l2] [] h1 (some (.int r), h', 0, 0) ∧ HI HT h' ∧ FrP h h' ∧ RES 3 g n key b gl st h r h' := by
      intro c hc h18 h20
      have k18 : fi h1 18 ≠ 0 := by unfold fi; rw [h18]; decide
      obtain ⟨h2, r2, n2⟩ := next_x (E := E) (V := pV1) (d := d) ok1.1.1 ok1.1.2.2.1
      obtain ⟨i2, f2, n21, n22, n23, n16, n18, -⟩ := nt_in ok1.1 n2
      have n18 := n18 k18
      have z1 := ok1.2.1
      have z2 := ok1.2.2.1
      have z3 := ok1.2.2.2.1
      have hcr : rk c = 3 := (by rcases hc with rfl | rfl | rfl <;> decide)
      obtain ⟨k2, b2, gl2, e2, t2, sc2⟩ := YS.op (Lv := 3) (by decide) (by decide) ok1.1 (Or.inr ⟨rfl, y1⟩) (fun z => y1) hs h18 h20 hcr r2 n2
      obtain ⟨r3, h3, q3, i3, f3, ok3⟩ := hY (97 - fi h2 16).toNat (by omega) (d + 8) h2 key g n b2 gl2 (c :: st) hk i2 t2 sc2 (Nat.le_refl _) (by push_cast at hd ⊢; omega)
      have pre : ∀ res, RA prog E pV1 (d + 9) mX8_test 26 [some (.ref 110), some (.int key), some (.int c)] [.int r3] h3 res → RA prog E pV1 (d + 9) mX8_test 18 [some (.ref 110), some (.int key), l2] [] h1 res := by
        intro res k
        refine RA.steps 1 rfl ?_
        refine RA.getf rfl ho rfl (fld_at ho c20) ?_
        rw [h20]
        refine RA.steps 2 rfl ?_
        refine call110 rfl rfl rfl rfl ok1.1.1 rfl (Nat.le_of_ble_eq_true rfl) r2 ?_
        refine RA.steps 2 rfl ?_
        exact call110 rfl rfl rfl rfl i2.1 rfl (Nat.le_of_ble_eq_true rfl) q3 k
      rcases ok3 with ⟨rfl, no3⟩ | ⟨rfl, ok3, y3⟩
      · refine ⟨0, h3, pre _ ?_, i3, (f1.tr f2 ok1.2.2.2.2.1).tr f3 (by have := ok1.2.2.2.2.1; omega), Or.inl ⟨rfl, no3.cmp e2⟩⟩
        refine RA.if1F rfl rfl ?_
        refine RA.steps 1 rfl ?_
        exact RA.ret rfl rfl
      · have hl3 : fi h3 23 ≤ 97 := by
          have b3 := (m_fld i3 (i := 16) (lo := 0) (hi := 96) rfl).2
          have := ok3.1.2.2.2.2
          omega
        obtain ⟨h4, r4, s1, s2, s3, s4, s5⟩ := step_x (E := E) (V := pV1) (d := d + 7) 2 c i3 hl3 ok3.1.2.2.2.2.2
        obtain ⟨ok4, f4, n4⟩ := ok_two hp ok1 f1 k18 n2 ok3 f3 (c := c) (h4 := h4) ⟨s1, s2, s3, s4, s5⟩ (by rcases hc with rfl | rfl | rfl <;> decide)
        have y4 : YS 3 3 g n key b gl st (ri h 110 25) h4 := YS.jn (by decide) (by decide) hcr e2 y3 (fun b' gl' t => STp.ts i3 hl3 (what := 2) (v := c) ⟨s1, s2, s3, s4, s5⟩ t) (fun b' W hW fo => fun k3 => ⟨fun r q1 q2 q3 => (fo k3).1 r (by omega) q2 q3, fun _ _ => by rw [unw_app (r := 4) (st := c :: st) (by decide) (by show rk c < 4; omega) W (fun x hx => (hW x hx).1)]; exact hcr⟩)
        refine ⟨1, h4, pre _ ?_, s1, f4, Or.inr ⟨rfl, ok4, y4⟩⟩
        refine RA.if1T rfl rfl ?_
        refine RA.steps 3 rfl ?_
        refine call110 rfl rfl rfl rfl i3 rfl (Nat.le_of_ble_eq_true rfl) r4 ?_
        refine RA.steps 1 rfl ?_
        exact RA.ret rfl rfl
    have s1 := isSign_x (E := E) (V := pV1) (d := d + 7) 60 ok1.1.1
    have s2 := isSign_x (E := E) (V := pV1) (d := d + 7) 61 ok1.1.1
    have s3 := isSign_x (E := E) (V := pV1) (d := d + 7) 62 ok1.1.1
    by_cases e1 : ri h1 110 18 = 3 ∧ ri h1 110 20 = 60
    · rw [if_pos e1] at s1
      obtain ⟨r, h', q, w⟩ := go 60 (Or.inl rfl) e1.1 e1.2
      refine ⟨r, h', ?_, w⟩
      refine RA.steps 2 rfl ?_
      refine call110 rfl rfl rfl rfl ok1.1.1 rfl (Nat.le_of_ble_eq_true rfl) s1 ?_
      exact RA.if1T rfl rfl q
    · rw [if_neg e1] at s1
      by_cases e2 : ri h1 110 18 = 3 ∧ ri h1 110 20 = 61
      · rw [if_pos e2] at s2
        obtain ⟨r, h', q, w⟩ := go 61 (Or.inr (Or.inl rfl)) e2.1 e2.2
        refine ⟨r, h', ?_, w⟩
        refine RA.steps 2 rfl ?_
        refine call110 rfl rfl rfl rfl ok1.1.1 rfl (Nat.le_of_ble_eq_true rfl) s1 ?_
        refine RA.if1F rfl rfl ?_
        refine RA.steps 2 rfl ?_
        refine call110 rfl rfl rfl rfl ok1.1.1 rfl (Nat.le_of_ble_eq_true rfl) s2 ?_
        exact RA.if1T rfl rfl q
      · rw [if_neg e2] at s2
        by_cases e3 : ri h1 110 18 = 3 ∧ ri h1 110 20 = 62
        · rw [if_pos e3] at s3
          obtain ⟨r, h', q, w⟩ := go 62 (Or.inr (Or.inr rfl)) e3.1 e3.2
          refine ⟨r, h', ?_, w⟩
          refine RA.steps 2 rfl ?_
          refine call110 rfl rfl rfl rfl ok1.1.1 rfl (Nat.le_of_ble_eq_true rfl) s1 ?_
          refine RA.if1F rfl rfl ?_
          refine RA.steps 2 rfl ?_
          refine call110 rfl rfl rfl rfl ok1.1.1 rfl (Nat.le_of_ble_eq_true rfl) s2 ?_
          refine RA.if1F rfl rfl ?_
          refine RA.steps 2 rfl ?_
          refine call110 rfl rfl rfl rfl ok1.1.1 rfl (Nat.le_of_ble_eq_true rfl) s3 ?_
          exact RA.if1F rfl rfl q
        · rw [if_neg e3] at s3
          have yx : YS 4 3 g n key b gl st (ri h 110 25) h1 := y1.ex (fun c q q18 q20 => by
            rcases rk_i3 q with rfl | rfl | rfl
            · exact e1 ⟨q18, q20⟩
            · exact e2 ⟨q18, q20⟩
            · exact e3 ⟨q18, q20⟩) rfl (fun z => Or.inr rfl)
          refine ⟨1, h1, ?_, ok1.1.1, f1, Or.inr ⟨rfl, ok1, YS.w43 yx⟩⟩
          refine RA.steps 2 rfl ?_
          refine call110 rfl rfl rfl rfl ok1.1.1 rfl (Nat.le_of_ble_eq_true rfl) s1 ?_
          refine RA.if1F rfl rfl ?_
          refine RA.steps 2 rfl ?_
          refine call110 rfl rfl rfl rfl ok1.1.1 rfl (Nat.le_of_ble_eq_true rfl) s2 ?_
          refine RA.if1F rfl rfl ?_
          refine RA.steps 2 rfl ?_
          refine call110 rfl rfl rfl rfl ok1.1.1 rfl (Nat.le_of_ble_eq_true rfl) s3 ?_
          refine RA.if1T rfl rfl ?_
          refine RA.steps 1 rfl ?_
          exact RA.ret rfl rfl
  obtain ⟨r1, h1, q1, i1, f1, ok1⟩ := hY (97 - fi h 16).toNat hm (d + 8) h key g n b gl st hk hp ht (hs.up (by decide)) (Nat.le_refl _) (by push_cast at hd ⊢; omega)
  have st_ : ∀ r h', RA prog E pV1 (d + 9) mX8_test 3 [some (.ref 110), some (.int key), none] [.int r1] h1 (some (.int r), h', 0, 0) → Run prog E pV1 (d + 9) mX8_test [.ref 110, .int key] h (some (.int r), h', 0, 0) := by
    intro r h' k
    refine ⟨Nat.le_of_ble_eq_true rfl, ⟨_, _, rfl⟩, ?_⟩
    refine RA.steps 2 rfl ?_
    exact call110 rfl rfl rfl rfl hp.1 rfl (Nat.le_of_ble_eq_true rfl) q1 k
  rcases ok1 with ⟨rfl, no1⟩ | ⟨rfl, ok1, y1⟩
  · refine ⟨0, h1, st_ _ _ ?_, i1, f1, Or.inl ⟨rfl, no1⟩⟩
    refine RA.if1F rfl rfl ?_
    refine RA.steps 1 rfl ?_
    exact RA.ret rfl rfl
  · obtain ⟨r, h', q, w⟩ := loop (97 - fi h1 16).toNat h1 none rfl ok1 f1 y1
    exact ⟨r, h', st_ _ _ (RA.if1T rfl rfl q), w⟩
theorem gd_both {m : Nat} (hY : ∀ m' ≤ m, GD E mX8_test 3 3 m') : GD E mX8_both 4 2 m := by
  intro d0 h key g n b gl st hk hp ht hs hm hd
  obtain ⟨d, rfl⟩ : ∃ d', d0 = d' + 9 := ⟨d0 - 9, by
    have r21 := (m_fld hp.1 (i := 21) (lo := 0) (hi := 8) rfl).2
    have r22 := (m_fld hp.1 (i := 22) (lo := 0) (hi := 8) rfl).2
    omega⟩
  have loop : ∀ (M : Nat) (h1 : List pC), (97 - fi h1 16).toNat = M → OKP h h1 → FrP h h1 → YS 2 3 g n key b gl st (ri h 110 25) h1 → ∃ (r : Int32) (h' : List pC), RA prog E pV1 (d + 9) mX8_both 6 [some (.ref 110), some (.int key)] [] h1 (some (.int r), h', 0, 0) ∧ HI HT h' ∧ FrP h h' ∧ RES 2 g n key b gl st h r h' := by
    intro M
    induction M using Nat.strongRecOn with
    | _ M ih =>
      intro h1 hM ok1 f1 y1
      have s1 := isSign_x (E := E) (V := pV1) (d := d + 7) 38 ok1.1.1
      by_cases e1 : ri h1 110 18 = 3 ∧ ri h1 110 20 = 38
      · rw [if_pos e1] at s1
        have h18 := e1.1
        have h20 := e1.2
        have k18 : fi h1 18 ≠ 0 := by unfold fi; rw [h18]; decide
        obtain ⟨h2, r2, n2⟩ := next_x (E := E) (V := pV1) (d := d) ok1.1.1 ok1.1.2.2.1
        obtain ⟨i2, f2, n21, n22, n23, n16, n18, -⟩ := nt_in ok1.1 n2
        have n18 := n18 k18
        have z1 := ok1.2.1
        have z2 := ok1.2.2.1
        have z3 := ok1.2.2.2.1
        have hcr : rk 38 = 2 := (by decide)
        obtain ⟨k2, b2, gl2, e2, t2, sc2⟩ := YS.op (Lv := 2) (by decide) (by decide) ok1.1 (Or.inl y1) (fun z => absurd z (by decide)) hs h18 h20 hcr r2 n2
        obtain ⟨r3, h3, q3, i3, f3, ok3⟩ := hY (97 - fi h2 16).toNat (by omega) (d + 8) h2 key g n b2 gl2 (38 :: st) hk i2 t2 sc2 (Nat.le_refl _) (by push_cast at hd ⊢; omega)
        have pre : ∀ res, RA prog E pV1 (d + 9) mX8_both 15 [some (.ref 110), some (.int key)] [.int r3] h3 res → RA prog E pV1 (d + 9) mX8_both 6 [some (.ref 110), some (.int key)] [] h1 res := by
          intro res k
          refine RA.steps 2 rfl ?_
          refine call110 rfl rfl rfl rfl ok1.1.1 rfl (Nat.le_of_ble_eq_true rfl) s1 ?_
          refine RA.if1F rfl rfl ?_
          refine RA.steps 1 rfl ?_
          refine call110 rfl rfl rfl rfl ok1.1.1 rfl (Nat.le_of_ble_eq_true rfl) r2 ?_
          refine RA.steps 2 rfl ?_
          exact call110 rfl rfl rfl rfl i2.1 rfl (Nat.le_of_ble_eq_true rfl) q3 k
        rcases ok3 with ⟨rfl, no3⟩ | ⟨rfl, ok3, y3⟩
        · refine ⟨0, h3, pre _ ?_, i3, (f1.tr f2 ok1.2.2.2.2.1).tr f3 (by have := ok1.2.2.2.2.1; omega), Or.inl ⟨rfl, no3.cmp e2⟩⟩
          refine RA.if1F rfl rfl ?_
          refine RA.steps 1 rfl ?_
          exact RA.ret rfl rfl
        · have hl3 : fi h3 23 ≤ 97 := by
            have b3 := (m_fld i3 (i := 16) (lo := 0) (hi := 96) rfl).2
            have := ok3.1.2.2.2.2
            omega
          obtain ⟨h4, r4, s1, s2, s3, s4, s5⟩ := step_x (E := E) (V := pV1) (d := d + 7) 2 38 i3 hl3 ok3.1.2.2.2.2.2
          obtain ⟨ok4, f4, n4⟩ := ok_two hp ok1 f1 k18 n2 ok3 f3 (c := 38) (h4 := h4) ⟨s1, s2, s3, s4, s5⟩ (by decide)
          have y4 : YS 2 3 g n key b gl st (ri h 110 25) h4 := YS.jn (by decide) (by decide) hcr e2 y3 (fun b' gl' t => STp.ts i3 hl3 (what := 2) (v := 38) ⟨s1, s2, s3, s4, s5⟩ t) (fun b' W hW fo => fo)
          obtain ⟨r, h', q, w⟩ := ih (97 - fi h4 16).toNat (by have b4 := (m_fld s1 (i := 16) (lo := 0) (hi := 96) rfl).2; omega) h4 rfl ok4 f4 y4
          refine ⟨r, h', pre _ ?_, w⟩
          refine RA.if1T rfl rfl ?_
          refine RA.steps 3 rfl ?_
          refine call110 rfl rfl rfl rfl i3 rfl (Nat.le_of_ble_eq_true rfl) r4 ?_
          exact RA.steps 1 rfl q
      · rw [if_neg e1] at s1
        have yx : YS 2 2 g n key b gl st (ri h 110 25) h1 := y1.ex (fun c q q18 q20 => e1 ⟨q18, q20.trans (rk_i2 q)⟩) rfl (fun _ => Or.inl (by decide))
        refine ⟨1, h1, ?_, ok1.1.1, f1, Or.inr ⟨rfl, ok1, yx⟩⟩
        refine RA.steps 2 rfl ?_
        refine call110 rfl rfl rfl rfl ok1.1.1 rfl (Nat.le_of_ble_eq_true rfl) s1 ?_
        refine RA.if1T rfl rfl ?_
        refine RA.steps 1 rfl ?_
        exact RA.ret rfl rfl
  obtain ⟨r1, h1, q1, i1, f1, ok1⟩ := hY (97 - fi h 16).toNat hm (d + 8) h key g n b gl st hk hp ht (hs.up (by decide)) (Nat.le_refl _) (by push_cast at hd ⊢; omega)
  have st_ : ∀ r h', RA prog E pV1 (d + 9) mX8_both 3 [some (.ref 110), some (.int key)] [.int r1] h1 (some (.int r), h', 0, 0) → Run prog E pV1 (d + 9) mX8_both [.ref 110, .int key] h (some (.int r), h', 0, 0) := by
    intro r h' k
    refine ⟨Nat.le_of_ble_eq_true rfl, ⟨_, _, rfl⟩, ?_⟩
    refine RA.steps 2 rfl ?_
    exact call110 rfl rfl rfl rfl hp.1 rfl (Nat.le_of_ble_eq_true rfl) q1 k
  rcases ok1 with ⟨rfl, no1⟩ | ⟨rfl, ok1, y1⟩
  · refine ⟨0, h1, st_ _ _ ?_, i1, f1, Or.inl ⟨rfl, no1⟩⟩
    refine RA.if1F rfl rfl ?_
    refine RA.steps 1 rfl ?_
    exact RA.ret rfl rfl
  · obtain ⟨r, h', q, w⟩ := loop (97 - fi h1 16).toNat h1 rfl ok1 f1 (y1.lf (by decide) hs)
    exact ⟨r, h', st_ _ _ (RA.if1T rfl rfl q), w⟩
theorem gd_either {m : Nat} (hY : ∀ m' ≤ m, GD E mX8_both 4 2 m') : GD E mX8_either 5 1 m := by
  intro d0 h key g n b gl st hk hp ht hs hm hd
  obtain ⟨d, rfl⟩ : ∃ d', d0 = d' + 9 := ⟨d0 - 9, by
    have r21 := (m_fld hp.1 (i := 21) (lo := 0) (hi := 8) rfl).2
    have r22 := (m_fld hp.1 (i := 22) (lo := 0) (hi := 8) rfl).2
    omega⟩
  have loop : ∀ (M : Nat) (h1 : List pC), (97 - fi h1 16).toNat = M → OKP h h1 → FrP h h1 → YS 1 2 g n key b gl st (ri h 110 25) h1 → ∃ (r : Int32) (h' : List pC), RA prog E pV1 (d + 9) mX8_either 6 [some (.ref 110), some (.int key)] [] h1 (some (.int r), h', 0, 0) ∧ HI HT h' ∧ FrP h h' ∧ RES 1 g n key b gl st h r h' := by
    intro M
    induction M using Nat.strongRecOn with
    | _ M ih =>
      intro h1 hM ok1 f1 y1
      have s1 := isSign_x (E := E) (V := pV1) (d := d + 7) 124 ok1.1.1
      by_cases e1 : ri h1 110 18 = 3 ∧ ri h1 110 20 = 124
      · rw [if_pos e1] at s1
        have h18 := e1.1
        have h20 := e1.2
        have k18 : fi h1 18 ≠ 0 := by unfold fi; rw [h18]; decide
        obtain ⟨h2, r2, n2⟩ := next_x (E := E) (V := pV1) (d := d) ok1.1.1 ok1.1.2.2.1
        obtain ⟨i2, f2, n21, n22, n23, n16, n18, -⟩ := nt_in ok1.1 n2
        have n18 := n18 k18
        have z1 := ok1.2.1
        have z2 := ok1.2.2.1
        have z3 := ok1.2.2.2.1
        have hcr : rk 124 = 1 := (by decide)
        obtain ⟨k2, b2, gl2, e2, t2, sc2⟩ := YS.op (Lv := 1) (by decide) (by decide) ok1.1 (Or.inl y1) (fun z => absurd z (by decide)) hs h18 h20 hcr r2 n2
        obtain ⟨r3, h3, q3, i3, f3, ok3⟩ := hY (97 - fi h2 16).toNat (by omega) (d + 8) h2 key g n b2 gl2 (124 :: st) hk i2 t2 sc2 (Nat.le_refl _) (by push_cast at hd ⊢; omega)
        have pre : ∀ res, RA prog E pV1 (d + 9) mX8_either 15 [some (.ref 110), some (.int key)] [.int r3] h3 res → RA prog E pV1 (d + 9) mX8_either 6 [some (.ref 110), some (.int key)] [] h1 res := by
          intro res k
          refine RA.steps 2 rfl ?_
          refine call110 rfl rfl rfl rfl ok1.1.1 rfl (Nat.le_of_ble_eq_true rfl) s1 ?_
          refine RA.if1F rfl rfl ?_
          refine RA.steps 1 rfl ?_
          refine call110 rfl rfl rfl rfl ok1.1.1 rfl (Nat.le_of_ble_eq_true rfl) r2 ?_
          refine RA.steps 2 rfl ?_
          exact call110 rfl rfl rfl rfl i2.1 rfl (Nat.le_of_ble_eq_true rfl) q3 k
        rcases ok3 with ⟨rfl, no3⟩ | ⟨rfl, ok3, y3⟩
        · refine ⟨0, h3, pre _ ?_, i3, (f1.tr f2 ok1.2.2.2.2.1).tr f3 (by have := ok1.2.2.2.2.1; omega), Or.inl ⟨rfl, no3.cmp e2⟩⟩
          refine RA.if1F rfl rfl ?_
          refine RA.steps 1 rfl ?_
          exact RA.ret rfl rfl
        · have hl3 : fi h3 23 ≤ 97 := by
            have b3 := (m_fld i3 (i := 16) (lo := 0) (hi := 96) rfl).2
            have := ok3.1.2.2.2.2
            omega
          obtain ⟨h4, r4, s1, s2, s3, s4, s5⟩ := step_x (E := E) (V := pV1) (d := d + 7) 2 124 i3 hl3 ok3.1.2.2.2.2.2
          obtain ⟨ok4, f4, n4⟩ := ok_two hp ok1 f1 k18 n2 ok3 f3 (c := 124) (h4 := h4) ⟨s1, s2, s3, s4, s5⟩ (by decide)
          have y4 : YS 1 2 g n key b gl st (ri h 110 25) h4 := YS.jn (by decide) (by decide) hcr e2 y3 (fun b' gl' t => STp.ts i3 hl3 (what := 2) (v := 124) ⟨s1, s2, s3, s4, s5⟩ t) (fun b' W hW fo => fo)
          obtain ⟨r, h', q, w⟩ := ih (97 - fi h4 16).toNat (by have b4 := (m_fld s1 (i := 16) (lo := 0) (hi := 96) rfl).2; omega) h4 rfl ok4 f4 y4
          refine ⟨r, h', pre _ ?_, w⟩
          refine RA.if1T rfl rfl ?_
          refine RA.steps 3 rfl ?_
          refine call110 rfl rfl rfl rfl i3 rfl (Nat.le_of_ble_eq_true rfl) r4 ?_
          exact RA.steps 1 rfl q
      · rw [if_neg e1] at s1
        have yx : YS 1 1 g n key b gl st (ri h 110 25) h1 := y1.ex (fun c q q18 q20 => e1 ⟨q18, q20.trans (rk_i1 q)⟩) rfl (fun _ => Or.inl (by decide))
        refine ⟨1, h1, ?_, ok1.1.1, f1, Or.inr ⟨rfl, ok1, yx⟩⟩
        refine RA.steps 2 rfl ?_
        refine call110 rfl rfl rfl rfl ok1.1.1 rfl (Nat.le_of_ble_eq_true rfl) s1 ?_
        refine RA.if1T rfl rfl ?_
        refine RA.steps 1 rfl ?_
        exact RA.ret rfl rfl
  obtain ⟨r1, h1, q1, i1, f1, ok1⟩ := hY (97 - fi h 16).toNat hm (d + 8) h key g n b gl st hk hp ht (hs.up (by decide)) (Nat.le_refl _) (by push_cast at hd ⊢; omega)
  have st_ : ∀ r h', RA prog E pV1 (d + 9) mX8_either 3 [some (.ref 110), some (.int key)] [.int r1] h1 (some (.int r), h', 0, 0) → Run prog E pV1 (d + 9) mX8_either [.ref 110, .int key] h (some (.int r), h', 0, 0) := by
    intro r h' k
    refine ⟨Nat.le_of_ble_eq_true rfl, ⟨_, _, rfl⟩, ?_⟩
    refine RA.steps 2 rfl ?_
    exact call110 rfl rfl rfl rfl hp.1 rfl (Nat.le_of_ble_eq_true rfl) q1 k
  rcases ok1 with ⟨rfl, no1⟩ | ⟨rfl, ok1, y1⟩
  · refine ⟨0, h1, st_ _ _ ?_, i1, f1, Or.inl ⟨rfl, no1⟩⟩
    refine RA.if1F rfl rfl ?_
    refine RA.steps 1 rfl ?_
    exact RA.ret rfl rfl
  · obtain ⟨r, h', q, w⟩ := loop (97 - fi h1 16).toNat h1 rfl ok1 f1 (y1.lf (by decide) hs)
    exact ⟨r, h', st_ _ _ (RA.if1T rfl rfl q), w⟩
end GRE2
