/-! ===== readInto of the class, from its start ===== -/
section RDM
variable {E : pX} {Φ : Option Value → List pC → Prop} {d : Nat} {h0 h : List pC} {f g : Nat → Int32}
theorem begin_x {gs ls : List Value} {sg : Nat → Int32} {ln key pc : Int32} (k0 : Int32) (H : CM h0 h gs ls sg) (W : LF ls ln key pc) : ∃ h1 : List pC, Run prog E pV1 (d + 1) mX0_begin [.ref 3, .int k0] h (none, h1, 0, 0) ∧ ∃ ls1 : List Value, CM h0 h1 gs ls1 sg ∧ LF ls1 0 k0 0 := by
  have ⟨w0, w1, w2, w3⟩ := W
  have key : GX E (fun r_ h1 => r_ = none ∧ ∃ ls1 : List Value, CM h0 h1 gs ls1 sg ∧ LF ls1 0 k0 0) (d + 1) mX0_begin 0 [some (.ref 3), some (.int k0)] [] h := by
    refine GX.lift (fun _ q_ => RA.steps (i' := 2) (L' := [some (.ref 3), some (.int k0)]) (st' := [.int k0, .ref 3]) (h' := h) 2 rfl q_) ?_
    refine GX.pW rfl H rfl (fun h_1 H_1 => ?_)
    refine GX.lift (fun _ q_ => RA.steps (i' := 5) (L' := [some (.ref 3), some (.int k0)]) (st' := [.int 0, .ref 3]) (h' := h_1) 2 rfl q_) ?_
    refine GX.pW rfl H_1 rfl (fun h_2 H_2 => ?_)
    refine GX.lift (fun _ q_ => RA.steps (i' := 8) (L' := [some (.ref 3), some (.int k0)]) (st' := [.int 0, .ref 3]) (h' := h_2) 2 rfl q_) ?_
    refine GX.pW rfl H_2 rfl (fun h_3 H_3 => ?_)
    refine GX.ret rfl rfl ?_
    exact ⟨rfl, _, H_3, ((W.p2 k0).p1 0).p3 0⟩
  obtain ⟨r_, h1, q, rfl, C1⟩ := key
  exact ⟨h1, ⟨Nat.le_of_ble_eq_true rfl, ⟨_, _, rfl⟩, q⟩, C1⟩
theorem fld_i {a c i : Nat} {fs : List Value} {k : Nat} {q : Int × Int} (hh : HI HT h) (ho : pobj h a = some (c, fs)) (he : elT HT k a i i = some (.inl q)) : fs[i]? = some (.int (ri h a i)) := by
  have := (ri_ty (k := k) (a := a) (i := i) (p := q) hh he).1
  unfold ct at this
  rw [pobj_at ho] at this
  exact this
/-- the reader and the draft, as they stand -/
theorem rd_op (hh : HI HT h) : ∃ (gs ls : List Value) (sg : Nat → Int32), CM h h gs ls sg ∧ RF gs (ri h 76 1) (ri h 76 2) (ri h 76 3) (ri h 76 4) (ri h 76 5) (ri h 76 7) (ri h 76 8) (ri h 76 9) (ri h 76 10) ∧ LF ls (ri h 3 1) (ri h 3 2) (ri h 3 3) := by
  obtain ⟨gs, hr, hF⟩ := hi_obj hh (a := 76) rfl
  obtain ⟨ls, hw, hG⟩ := hi_obj hh (a := 3) rfl
  obtain ⟨sg, p1, -, -⟩ := hi_int (a := 78) (n := 96) (sg := []) hh rfl
  obtain ⟨cd, p2, -, -⟩ := hi_int (a := 4) (n := 96) (sg := []) hh rfl
  exact ⟨gs, ls, sg, ⟨hr, hw, p1, ⟨cd, p2⟩, fun _ _ _ _ _ => rfl⟩, ⟨hF.ref (k := 0) rfl, fld_i (k := 4) hh hr rfl, fld_i (k := 4) hh hr rfl, fld_i (k := 4) hh hr rfl, fld_i (k := 4) hh hr rfl, fld_i (k := 4) hh hr rfl, hF.ref (k := 6) rfl, fld_i (k := 4) hh hr rfl, fld_i (k := 4) hh hr rfl, fld_i (k := 4) hh hr rfl, fld_i (k := 4) hh hr rfl⟩, ⟨hG.ref (k := 0) rfl, fld_i (k := 2) hh hw rfl, fld_i (k := 2) hh hw rfl, fld_i (k := 2) hh hw rfl⟩⟩
theorem kr_v {n b : Nat} {gs ls : List Value} {sg : Nat → Int32} {s gl tp br no wa : Int32} (pt : pint h0 77 = some (96, f)) (fg : ∀ j : Nat, j < 96 → f j = g j) (hn : n ≤ 96) (hb : b ≤ n) (H : CM h0 h gs ls sg) (F : RF gs (nI n) s (nI b) (nI (wEnd g n b)) gl tp br no wa) : pV1 mX2_keyRead [.ref 76] h = some (some (.int (keyV g b (wEnd g n b)))) := by
  have ⟨f0, f1, f2, f3, f4, f5, f6, f7, f8, f9, f10⟩ := F
  have el := wEnd_le (g := g) hb
  have q := rdO_of H.1 f0 f1 f3 f4 (H.pi (by decide) (by decide) (by decide) (by decide) pt) (Nat.le_of_ble_eq_true rfl)
  have pv : pV1 mX2_keyRead [.ref 76] h = some (some (.int (krV (bA 96 f (nI n)) (nI b) (nI (wEnd g n b))))) := by
    show (match rdO h 76 with
      | some q => some (some (Value.int (krV (bA q.1 q.2.1 q.2.2.1) q.2.2.2.1 q.2.2.2.2)))
      | none => none) = _
    rw [q]
  rw [pv]
  have hs : nI (wEnd g n b) - nI b = nI (wEnd g n b - b) := nIsub el.1 (by omega)
  have at_ : ∀ j : Nat, j < wEnd g n b - b → bA 96 f (nI n) (nI b + Int32.ofNat j) = g (b + j) := fun j hj => by
    rw [show nI b + Int32.ofNat j = nI (b + j) from nI_add b j]
    exact bA_at fg (by omega) hn
  have b0 : bA 96 f (nI n) (nI b + Int32.ofNat 0) = g b ∨ wEnd g n b - b = 0 := by
    by_cases c : wEnd g n b - b = 0
    · exact Or.inr c
    · exact Or.inl (at_ 0 (by omega))
  rcases b0 with b0 | b0
  · have w0 := isW_4 (p := wEnd g n b) (w := bW0) hs (by omega) b0 (at_ 1) (at_ 2) (at_ 3) (show bW0 0 &&& 255 = 103 by decide +kernel) (show bW0 1 &&& 255 = 97 by decide +kernel) (show bW0 2 &&& 255 = 105 by decide +kernel) (show bW0 3 &&& 255 = 110 by decide +kernel)
    have w1 := isW_3 (p := wEnd g n b) (w := bW1) hs (by omega) b0 (at_ 1) (at_ 2) (show bW1 0 &&& 255 = 102 by decide +kernel) (show bW1 1 &&& 255 = 101 by decide +kernel) (show bW1 2 &&& 255 = 101 by decide +kernel)
    have w2 := isW_4 (p := wEnd g n b) (w := bW2) hs (by omega) b0 (at_ 1) (at_ 2) (at_ 3) (show bW2 0 &&& 255 = 102 by decide +kernel) (show bW2 1 &&& 255 = 105 by decide +kernel) (show bW2 2 &&& 255 = 110 by decide +kernel) (show bW2 3 &&& 255 = 101 by decide +kernel)
    congr 3
    unfold krV keyV
    rw [w0, w1, w2]
    by_cases c0 : wEnd g n b - b = 4 ∧ g b = 103 ∧ g (b + 1) = 97 ∧ g (b + 2) = 105 ∧ g (b + 3) = 110
    · rw [if_pos c0, if_pos c0, if_neg (by decide)]
    · rw [if_neg c0, if_neg c0, if_pos rfl]
      by_cases c1 : wEnd g n b - b = 3 ∧ g b = 102 ∧ g (b + 1) = 101 ∧ g (b + 2) = 101
      · rw [if_pos c1, if_pos c1, if_neg (by decide)]
      · rw [if_neg c1, if_neg c1, if_pos rfl]
        by_cases c2 : wEnd g n b - b = 4 ∧ g b = 102 ∧ g (b + 1) = 105 ∧ g (b + 2) = 110 ∧ g (b + 3) = 101
        · rw [if_pos c2, if_pos c2, if_neg (by decide)]
        · rw [if_neg c2, if_neg c2, if_pos rfl]
  · congr 3
    unfold krV keyV isW
    rw [hs, b0, if_neg (show ¬ nI 0 = Int32.ofNat 4 by decide +kernel), if_neg (show ¬ nI 0 = Int32.ofNat 3 by decide +kernel), if_pos rfl, if_pos rfl, if_neg (show ¬ nI 0 = Int32.ofNat 4 by decide +kernel), if_pos rfl, if_neg (fun z => absurd z.1 (by decide)), if_neg (fun z => absurd z.1 (by decide)), if_neg (fun z => absurd z.1 (by decide))]
/-- the first word -/
def fw (g : Nat → Int32) (n : Nat) : Nat := skp g n n 0
theorem rdi_no {n : Nat} (hh : HI HT h) (hn1 : ri h 76 1 = nI n) (pt : pint h 77 = some (96, f)) (fg : ∀ j : Nat, j < 96 → f j = g j) (hn : n ≤ 96) (hg : ∀ j : Nat, j < 96 → (0 : Int32) ≤ g j) (hd : 6 ≤ d) (hk : keyV g (fw g n) (wEnd g n (fw g n)) = -1) : ∃ h1 : List pC, Run prog E pV1 (d + 7) mX2_readInto [.ref 76, .ref 3] h (some (.int (nI (fw g n))), h1, 0, 0) ∧ ∃ (gs ls : List Value) (sg : Nat → Int32), CM h h1 gs ls sg := by
  have hb : fw g n ≤ n := (skp_le g n n 0 (by omega)).2
  have key : GX E (fun r_ h1 => r_ = some (.int (nI (fw g n))) ∧ ∃ (gs ls : List Value) (sg : Nat → Int32), CM h h1 gs ls sg) (d + 7) mX2_readInto 0 [some (.ref 76), some (.ref 3), none, none] [] h := by
    obtain ⟨gs, ls, sg, H, F, W⟩ := rd_op hh
    rw [hn1] at F
    have ⟨f0, f1, f2, f3, f4, f5, f6, f7, f8, f9, f10⟩ := F
    have ⟨w0, w1, w2, w3⟩ := W
    refine GX.lift (fun _ q_ => RA.steps (i' := 2) (L' := [some (.ref 76), some (.ref 3), none, none]) (st' := [.int 0, .ref 76]) (h' := h) 2 rfl q_) ?_
    refine GX.pR rfl H rfl (fun h_1 H_1 => ?_)
    refine GX.lift (fun _ q_ => RA.steps (i' := 5) (L' := [some (.ref 76), some (.ref 3), none, none]) (st' := [.int 3, .ref 76]) (h' := h_1) 2 rfl q_) ?_
    refine GX.pR rfl H_1 rfl (fun h_2 H_2 => ?_)
    refine GX.lift (fun _ q_ => RA.steps (i' := 7) (L' := [some (.ref 76), some (.ref 3), none, none]) (st' := [.ref 76]) (h' := h_2) 1 rfl q_) ?_
    obtain ⟨h3, gs3, q3, H3, F3⟩ := nw_v (E := E) (d := d + 2) (p := 0) pt fg hn hg (Nat.zero_le n) H_2 ((F.p4 (nI 0)).p2 3)
    rw [show skp g n (n - 0) 0 = fw g n from rfl] at F3
    have kv := kr_v pt fg hn hb H3 F3
    have ⟨y0, y1, y2, y3, y4, y5, y6, y7, y8, y9, y10⟩ := F3
    refine GX.lift (fun _ q_ => RA.call0 (N := mX2_nextWord) (as := [.ref 76]) (rest := []) rfl rfl (pcallV rfl rfl H_2.1 rfl rfl (Nat.le_of_ble_eq_true rfl)) q3 q_) ?_
    refine GX.lift (fun _ q_ => RA.steps (i' := 9) (L' := [some (.ref 76), some (.ref 3), none, none]) (st' := [.ref 76]) (h' := h3) 1 rfl q_) ?_
    refine GX.lift (fun _ q_ => RA.prim (N := mX2_keyRead) (as := [.ref 76]) (rest := []) rfl rfl (pcallV rfl rfl H3.1 rfl rfl (Nat.le_of_ble_eq_true rfl)) rfl (by omega) kv q_) ?_
    refine GX.lift (fun _ q_ => RA.steps (i' := 12) (L' := [some (.ref 76), some (.ref 3), some (.int (keyV g (fw g n) (wEnd g n (fw g n)))), none]) (st' := [.int (keyV g (fw g n) (wEnd g n (fw g n)))]) (h' := h3) 2 rfl q_) ?_
    refine GX.lift (fun _ q_ => RA.if1F rfl (decide_eq_false (by rw [hk]; decide)) q_) ?_
    refine GX.lift (fun _ q_ => RA.steps (i' := 14) (L' := [some (.ref 76), some (.ref 3), some (.int (keyV g (fw g n) (wEnd g n (fw g n)))), none]) (st' := [.ref 76]) (h' := h3) 1 rfl q_) ?_
    refine GX.lift (fun _ q_ => RA.getf rfl H3.1 rfl y3 q_) ?_
    refine GX.ret rfl rfl ?_
    exact ⟨rfl, _, _, _, H3⟩
  obtain ⟨r_, h1, q, rfl, C1⟩ := key
  exact ⟨h1, ⟨Nat.le_of_ble_eq_true rfl, ⟨_, _, rfl⟩, q⟩, C1⟩
/-- where the reading of the body starts -/
def c0S (g : Nat → Int32) (n : Nat) : KS := (nxb g n (fw g n), glu (nI (kd g n (fw g n))) (wEnd g n (fw g n)) (nxb g n (fw g n)), [], 1, 0)
theorem rdi_y {n k : Nat} {key : Int32} {c' : KS} (hh : HI HT h) (hn1 : ri h 76 1 = nI n) (pt : pint h 77 = some (96, f)) (fg : ∀ j : Nat, j < 96 → f j = g j) (hn : n ≤ 96) (hg : ∀ j : Nat, j < 96 → (0 : Int32) ≤ g j) (hd : 6 ≤ d) (hk : keyV g (fw g n) (wEnd g n (fw g n)) = key) (hk3 : key = 0 ∨ key = 1 ∨ key = 2) (hi : its g n key k (c0S g n) = some c') (hf : cst g n key c' = some none) : ∃ (r : Option Value) (h1 : List pC), Run prog E pV1 (d + 7) mX2_readInto [.ref 76, .ref 3] h (r, h1, 0, 0) ∧ RdE h g n key c' r h1 := by
  have hb : fw g n ≤ n := (skp_le g n n 0 (by omega)).2
  have el := wEnd_le (g := g) hb
  have nb := nxb_le (g := g) hb
  have key_ : GX E (RdE h g n key c') (d + 7) mX2_readInto 0 [some (.ref 76), some (.ref 3), none, none] [] h := by
    obtain ⟨gs, ls, sg, H, F, W⟩ := rd_op hh
    rw [hn1] at F
    have ⟨f0, f1, f2, f3, f4, f5, f6, f7, f8, f9, f10⟩ := F
    have ⟨w0, w1, w2, w3⟩ := W
    refine GX.lift (fun _ q_ => RA.steps (i' := 2) (L' := [some (.ref 76), some (.ref 3), none, none]) (st' := [.int 0, .ref 76]) (h' := h) 2 rfl q_) ?_
    refine GX.pR rfl H rfl (fun h_1 H_1 => ?_)
    refine GX.lift (fun _ q_ => RA.steps (i' := 5) (L' := [some (.ref 76), some (.ref 3), none, none]) (st' := [.int 3, .ref 76]) (h' := h_1) 2 rfl q_) ?_
    refine GX.pR rfl H_1 rfl (fun h_2 H_2 => ?_)
    refine GX.lift (fun _ q_ => RA.steps (i' := 7) (L' := [some (.ref 76), some (.ref 3), none, none]) (st' := [.ref 76]) (h' := h_2) 1 rfl q_) ?_
    obtain ⟨h3, gs3, q3, H3, F3⟩ := nw_v (E := E) (d := d + 2) (p := 0) pt fg hn hg (Nat.zero_le n) H_2 ((F.p4 (nI 0)).p2 3)
    rw [show skp g n (n - 0) 0 = fw g n from rfl] at F3
    have kv := kr_v pt fg hn hb H3 F3
    have ⟨y0, y1, y2, y3, y4, y5, y6, y7, y8, y9, y10⟩ := F3
    refine GX.lift (fun _ q_ => RA.call0 (N := mX2_nextWord) (as := [.ref 76]) (rest := []) rfl rfl (pcallV rfl rfl H_2.1 rfl rfl (Nat.le_of_ble_eq_true rfl)) q3 q_) ?_
    refine GX.lift (fun _ q_ => RA.steps (i' := 9) (L' := [some (.ref 76), some (.ref 3), none, none]) (st' := [.ref 76]) (h' := h3) 1 rfl q_) ?_
    obtain ⟨h4, q4, ls4, H4, W4⟩ := begin_x (E := E) (d := d + 5) key H3 W
    have ⟨v0, v1, v2, v3⟩ := W4
    rw [hk] at kv
    refine GX.lift (fun _ q_ => RA.prim (N := mX2_keyRead) (as := [.ref 76]) (rest := []) rfl rfl (pcallV rfl rfl H3.1 rfl rfl (Nat.le_of_ble_eq_true rfl)) rfl (by omega) kv q_) ?_
    refine GX.lift (fun _ q_ => RA.steps (i' := 12) (L' := [some (.ref 76), some (.ref 3), some (.int key), none]) (st' := [.int key]) (h' := h3) 2 rfl q_) ?_
    refine GX.lift (fun _ q_ => RA.if1T rfl (decide_eq_true (by rcases hk3 with rfl | rfl | rfl <;> decide)) q_) ?_
    refine GX.lift (fun _ q_ => RA.steps (i' := 18) (L' := [some (.ref 76), some (.ref 3), some (.int key), none]) (st' := [.int key, .ref 3]) (h' := h3) 2 rfl q_) ?_
    refine GX.lift (fun _ q_ => RA.call0 (N := mX0_begin) (as := [.ref 3, .int key]) (rest := []) rfl rfl (pcallV rfl rfl H3.2.1 rfl rfl (Nat.le_of_ble_eq_true rfl)) q4 q_) ?_
    refine GX.lift (fun _ q_ => RA.steps (i' := 21) (L' := [some (.ref 76), some (.ref 3), some (.int key), none]) (st' := [.int 0, .ref 76]) (h' := h4) 2 rfl q_) ?_
    refine GX.pR rfl H4 rfl (fun h4_3 H4_3 => ?_)
    refine GX.lift (fun _ q_ => RA.steps (i' := 24) (L' := [some (.ref 76), some (.ref 3), some (.int key), none]) (st' := [.int 0, .ref 76]) (h' := h4_3) 2 rfl q_) ?_
    refine GX.pR rfl H4_3 rfl (fun h4_4 H4_4 => ?_)
    refine GX.lift (fun _ q_ => RA.steps (i' := 27) (L' := [some (.ref 76), some (.ref 3), some (.int key), none]) (st' := [.int 0, .ref 76]) (h' := h4_4) 2 rfl q_) ?_
    refine GX.pR rfl H4_4 rfl (fun h4_5 H4_5 => ?_)
    refine GX.lift (fun _ q_ => RA.steps (i' := 30) (L' := [some (.ref 76), some (.ref 3), some (.int key), none]) (st' := [.int 1, .ref 76]) (h' := h4_5) 2 rfl q_) ?_
    refine GX.pR rfl H4_5 rfl (fun h4_6 H4_6 => ?_)
    refine GX.lift (fun _ q_ => RA.steps (i' := 32) (L' := [some (.ref 76), some (.ref 3), some (.int key), none]) (st' := [.ref 76]) (h' := h4_6) 1 rfl q_) ?_
    have F5 := (((F3.p7 (nI 0)).p8 (nI 0)).p9 (nI 0)).p10 1
    obtain ⟨h6, gs6, q6, H6, F6⟩ := nw_v (E := E) (d := d + 2) pt fg hn hg el.2.1 H4_6 F5
    refine GX.lift (fun _ q_ => RA.call0 (N := mX2_nextWord) (as := [.ref 76]) (rest := []) rfl rfl (pcallV rfl rfl H4_6.1 rfl rfl (Nat.le_of_ble_eq_true rfl)) q6 q_) ?_
    refine GX.lift (fun _ q_ => RA.steps (i' := 35) (L' := [some (.ref 76), some (.ref 3), some (.int key), some (.int 0)]) (st' := []) (h' := h6) 2 rfl q_) ?_
    exact rd_35 (d := d) pt fg hn hg hd hk3 k (nxb g n (fw g n), glu (nI (kd g n (fw g n))) (wEnd g n (fw g n)) (nxb g n (fw g n)), [], 1, 0) 0 h6 nb.2 (Nat.zero_le _) (Nat.zero_le _) (Or.inr rfl) hi hf ⟨gs6, ls4, sg, 0, H6, F6, W4, trivial⟩
  obtain ⟨r_, h1, q, w⟩ := key_
  exact ⟨r_, h1, ⟨Nat.le_of_ble_eq_true rfl, ⟨_, _, rfl⟩, q⟩, w⟩
end RDM
/-! ===== parse against the class's turns ===== -/
section PAR2
variable {E : pX} {d : Nat} {h h' h1 h2 h3 h4 : List pC} {g : Nat → Int32} {n : Nat} {key : Int32}
def es_pb0 : List aEs := [(37, [some (5, 0, 0, 110), none, none], [(5, 0, 0, 110)], ([((5, 0, 0, 110), (0, 17, 17, 0), (0, 0, 0, 0)), ((5, 0, 0, 110), (0, 18, 18, 0), (0, 3, 3, 0)), ((5, 0, 0, 110), (0, 21, 21, 0), (0, 0, 0, 0)), ((5, 0, 0, 110), (0, 22, 22, 0), (0, 0, 0, 0)), ((5, 0, 0, 110), (0, 23, 23, 0), (0, 0, 0, 0)), ((5, 0, 0, 110), (0, 24, 24, 0), (1, 200, 79, 0)), ((5, 0, 0, 110), (0, 25, 25, 0), (0, 0, 0, 0))], [], [(0, 0, 13)])), (37, [some (5, 0, 0, 110), none, none], [(5, 0, 0, 110)], ([((5, 0, 0, 110), (0, 17, 17, 0), (0, 0, 0, 0)), ((5, 0, 0, 110), (0, 18, 18, 0), (0, 3, 3, 0)), ((5, 0, 0, 110), (0, 21, 21, 0), (0, 0, 0, 0)), ((5, 0, 0, 110), (0, 22, 22, 0), (0, 0, 0, 0)), ((5, 0, 0, 110), (0, 23, 23, 0), (0, 0, 0, 0)), ((5, 0, 0, 110), (0, 24, 24, 0), (0, 2875, 2875, 0)), ((5, 0, 0, 110), (0, 25, 25, 0), (0, 0, 0, 0))], [], [(0, 14, 14)]))]
set_option maxRecDepth 100000 in
set_option maxHeartbeats 40000000 in
theorem fs_pb0 : fsegchk prog HT [(110, 110, 17, 18), (110, 110, 21, 25)] [] tb_pa0 49 3 219 0 false g0_pa0 c0_pa0 a0_pa0 s0_pa0 es_pb0 rs_pa0 = true := by decide +kernel
/-- the first token -/
theorem TS.st (hp : HI HT h) (hg : ∀ j : Nat, j < 96 → ri h 124 j = g j) (hn : n ≤ 96) (h15 : ri h 110 15 = nI n) (h17 : fi h 17 = 0) (h18 : fi h 18 = 3) (h21 : fi h 21 = 0) (h22 : fi h 22 = 0) {e : Int} (r2 : Run prog E pV1 (d + 8) mX8_nextToken [.ref 110] h (none, h2, 0, 0)) (n2 : PNt h e none h2) : TS g n (fw g n) 0 [] h2 ∧ ri h2 110 25 = ri h 110 25 := by
  obtain ⟨fs, ho, hF⟩ := hi_obj hp HTm
  have at_ : ∀ (i : Nat) (lo hi : Int), MX[i]? = some (0, lo, hi, 0) → fs[i]? = some (.int (ri h 110 i)) := fun i lo hi hx => fld_at ho (m_fld hp hx).1
  have r16 := (m_fld hp (i := 16) (lo := 0) (hi := 96) rfl).2
  obtain ⟨b, eb, -⟩ := nIof (x := ri h 110 16) r16.1 (by unfold fi at r16; omega)
  have e17 : ri h 110 17 = nI 0 := Int32.toInt_inj.mp (by unfold fi at h17; rw [h17]; decide +kernel)
  have e18 : ri h 110 18 = 3 := Int32.toInt_inj.mp (by unfold fi at h18; rw [h18]; decide +kernel)
  have F : NF fs n b 0 3 (ri h 110 20) := ⟨hF.ref (a := 124) rfl, by rw [← h15]; exact at_ 15 0 96 rfl, by rw [← eb]; exact at_ 16 0 96 rfl, by rw [← e17]; exact at_ 17 0 96 rfl, by rw [← e18]; exact at_ 18 0 4 rfl, ⟨_, at_ 19 _ _ rfl⟩, at_ 20 _ _ rfl⟩
  obtain ⟨f, p1, u1, -⟩ := hi_int (a := 124) (n := 96) (sg := [(0, 95, 0, 255)]) hp rfl
  obtain ⟨h', gs', q, N, R⟩ := nt_v (E := E) (d := d) (g := g) p1 (fun j hj => by rw [← u1 j hj]; exact hg j hj) hn (Nat.zero_le n) ho F
  have e1 : h' = h2 := (Prod.mk.inj (Prod.mk.inj (Run.det q r2)).2).1
  rw [e1] at N
  obtain ⟨-, n1, n3, -⟩ := n2
  have f2 : ∀ i : Nat, i < 16 ∨ 20 < i → ri h2 110 i = ri h 110 i := fun i hi => ri_fr n3 (nin_iff.mpr (by
    simp only [WNt, List.forall_mem_cons]
    exact ⟨by omega, fun _ h => absurd h List.not_mem_nil⟩))
  have get : ∀ (i : Nat) (v : Int32), gs'[i]? = some (.int v) → ri h2 110 i = v := fun i v hv => by
    unfold ri ct
    rw [pobj_at N.1]
    dsimp only
    rw [hv]
  rw [show skp g n (n - 0) 0 = fw g n from rfl, show tgt 0 (fw g n) 3 = 0 from rfl] at R
  obtain ⟨R16, R17, R18, R20, R23⟩ := R
  refine ⟨⟨⟨fun j hj => by rw [ri_fr n3 rfl]; exact hg j hj, hn, (skp_le g n n 0 (by omega)).2⟩, ⟨by rw [f2 15 (by omega)]; exact h15, get 16 _ R16, get 17 _ R17⟩, get 18 _ R18, fun z => get 20 _ (R20 z), fun z => get 20 _ (R23 z), ?_, ?_⟩, f2 25 (by omega)⟩
  · unfold fi
    rw [f2 21 (by omega)]
    exact h21
  · unfold fi
    rw [f2 22 (by omega)]
    exact h22
/-- what parse comes to, in the class's terms -/
def OUT (g : Nat → Int32) (n : Nat) (w : Int32) (h' : List pC) : Prop := (keyV g (fw g n) (wEnd g n (fw g n)) = -1 ∧ w = -1 ∧ ri h' 110 16 = nI (fw g n)) ∨ ∃ (key : Int32) (k : Nat) (c' : KS), keyV g (fw g n) (wEnd g n (fw g n)) = key ∧ (key = 0 ∨ key = 1 ∨ key = 2) ∧ its g n key k (c0S g n) = some c' ∧ cst g n key c' = some none ∧ ((w = -1 ∧ ¬ okS g n c' ∧ ri h' 110 16 = nI c'.1) ∨ (w = key ∧ okS g n c' ∧ ri h' 110 25 = c'.2.2.2.2))
/-- a word that is a number is no key -/
theorem keyV_d {b p : Nat} (e : kd g n b = 2) : keyV g b p = -1 := by
  have q := kd_bD e
  have q2 := Int32.le_iff_toInt_le.mp q.2
  rw [show (57 : Int32).toInt = 57 by decide] at q2
  have ne : ∀ c : Int32, 58 ≤ c.toInt → ¬ g b = c := fun c hc z => by rw [z] at q2; omega
  unfold keyV
  rw [if_neg (fun z => ne 103 (by decide) z.2.1), if_neg (fun z => ne 102 (by decide) z.2.1), if_neg (fun z => ne 102 (by decide) z.2.1)]
theorem parse_v {d c : Nat} (hh : HI HT h) (hc : c ≤ 14) (h1c : ri h 111 1 = nI c) (hg : ∀ j : Nat, j < 96 → ri h 124 j = g j) (hn : n ≤ 96) (h15 : ri h 110 15 = nI n) : ∃ (w : Int32) (h' : List pC), Run prog E pV1 (d + 80) mX8_parse [.ref 110] h (some (.int w), h', 0, 0) ∧ PaP c h w h' ∧ OUT g n w h' := by
  generalize hla : (if c < 14 then 79 + 200 * c else 2875 : Nat) = la
  have hb79 : 79 ≤ la := by rw [← hla]; split <;> omega
  have key : Gl prog E pV1 (fun r h' => ∃ w : Int32, r = some (.int w) ∧ PaP c h w h' ∧ OUT g n w h') (d + 80) mX8_parse 0 (pent 3 [.ref 110]) [] h [] := by
    obtain ⟨f, p1, u1, -⟩ := hi_int hh HT111
    have hct1 : ct h 111 1 = some (.int (nI c)) := by rw [ct_ri p1 (by decide), ← u1 1 (by decide), h1c]
    refine fseg_ok (σ0 := fun _ => (c : Int)) (J := fun _ => True) fs_pb0 rfl (fun k N c hk => by cases hk) (fun _ _ => trivial) (by omega) ?_ (cok.cs ⟨111, 1, _, Or.inl ⟨rfl, rfl⟩, cnZ 1, hct1, Nat.le_refl 1, zG.mk (by decide) (by rw [nI_toInt (by omega)]; show (c : Int) = 1 * (c : Int) + 0; omega) (by decide)⟩ cok.nil) (LG.cons (lGr 110) (LG.cons (lG.any rfl) (LG.cons (lG.any rfl) LGn))) trivial hh (fun p hp => by cases hp) (fun z hz L1 st1 h1 hL1 hS1 hp1 hh1 hf1 => ?_)
    · intro k e hk
      match k, hk with
      | 0, hk => cases hk; exact ⟨by show (0 : Int) ≤ (c : Int); omega, by show (c : Int) ≤ 14; omega⟩
      | k + 1, hk => simp [g0_pa0] at hk
    -- both ways
    have go : ∀ (C : aC) (x : AV), hp1 = hp1 → (∃ a, x = a) → fi h1 17 = 0 → fi h1 18 = 3 → fi h1 21 = 0 → fi h1 22 = 0 → fi h1 23 = 0 → fi h1 24 = (la : Int) → fi h1 25 = 0 → L1.length = 3 → pget L1 0 = some (.ref 110) → pcat2 (pget L1 1) = false → pcat2 (pget L1 2) = false → st1 = [.ref 110] → Gl prog E pV1 (fun r h' => ∃ w : Int32, r = some (.int w) ∧ PaP c h w h' ∧ OUT g n w h') (d + 80) mX8_parse 37 L1 st1 h1 [] := by
      intro _ _ _ _ g17 g18 g21 g22 g23 g24 g25 hl l0 l1 l2 hst
      subst hst
      match L1, hl with
      | [a0, a1, a2], _ =>
        obtain rfl : a0 = _ := l0
        have r15 := (m_fld hh1 (i := 15) (lo := 0) (hi := 96) rfl).2
        obtain ⟨h2, q2, n2⟩ := next_x (E := E) (V := pV1) (d := d + 71) hh1 (by omega)
        have hg1 : ∀ j : Nat, j < 96 → ri h1 124 j = g j := fun j hj => by rw [ri_fr hf1 rfl]; exact hg j hj
        have h151 : ri h1 110 15 = nI n := by rw [ri_fr hf1 rfl]; exact h15
        obtain ⟨ts2, e252⟩ := TS.st (E := E) (d := d + 71) hh1 hg1 hn h151 g17 g18 g21 g22 q2 n2
        have z25 : ri h2 110 25 = 0 := by
          rw [e252]
          exact Int32.toInt_inj.mp (by unfold fi at g25; rw [g25]; decide)
        have n2_ := n2
        obtain ⟨-, b1, b2, b3, b4, b5, b6⟩ := n2
        have m21 := fi_fr b2 (i := 21) rfl
        have m22 := fi_fr b2 (i := 22) rfl
        have m23 := fi_fr b2 (i := 23) rfl
        have m24 := fi_fr b2 (i := 24) rfl
        have i2 : PIn h2 := ⟨b1, b4, b5, b6, by omega⟩
        have r17 := (m_fld b1 (i := 17) (lo := 0) (hi := 96) rfl).2
        obtain ⟨w, w1, w2, q3⟩ := key_x (E := E) (V := pV1) (d := d + 77) b1 r17.2
        have ew : w = keyV g (fw g n) (wEnd g n (fw g n)) := Value.int.inj (Option.some.inj (Prod.mk.inj (Run.det q3 (key_v (E := E) (d := d + 77) b1 rfl ts2))).1)
        have pre : ∀ res, RA prog E pV1 (d + 80) mX8_parse 42 [some (.ref 110), some (.int w), a2] [.int w] h2 res → RA prog E pV1 (d + 80) mX8_parse 37 [some (.ref 110), a1, a2] [.ref 110] h1 res := by
          intro res k
          refine call110 rfl rfl rfl rfl hh1 rfl (Nat.le_of_ble_eq_true rfl) q2 ?_
          refine RA.steps 1 rfl ?_
          refine call110 rfl rfl rfl rfl b1 rfl (Nat.le_of_ble_eq_true rfl) q3 ?_
          exact RA.steps 2 rfl k
        -- the end: the tape is used up
        have fin : ∀ (g_ : Int32) (h3 : List pC), HI HT h3 → (∀ a i, ¬ (a = 110 ∧ 15 ≤ i ∧ i ≤ 25) → ¬ (a = 111 ∧ la ≤ i ∧ i < la + 196) → ct h3 a i = ct h a i) → (g_ = 0 ∨ (g_ = 1 ∧ 0 ≤ w.toInt ∧ 0 ≤ fi h3 23 ∧ fi h3 23 ≤ 96 ∧ ∀ n, hT (ri h3 111) la (fi h3 23).toNat 0 n = some (n + 1))) → ∃ (v : Int32) (h4 : List pC), RA prog E pV1 (d + 80) mX8_parse 62 [some (.ref 110), some (.int w), some (.int g_)] [] h3 (some (.int v), h4, 0, 0) ∧ PaP c h v h4 ∧ ((g_ = 0 ∧ v = -1) ∨ (g_ = 1 ∧ v = w)) ∧ ri h4 110 16 = ri h3 110 16 ∧ ri h4 110 25 = ri h3 110 25 := by
          intro g_ h3 hh3 f3 hg_
          obtain ⟨fs3, ho3, -⟩ := hi_obj hh3 HTm
          obtain ⟨x1, x2, x3⟩ := fld_put (i := 15) (lo := 0) (hi := 96) (v := 0) hh3 ho3 rfl (by decide)
          have x23 := oneF.k (i := 15) (j := 23) x2 (by omega)
          have xri := oneF.s (i := 15) x2
          have fr4 : ∀ a i, ¬ (a = 110 ∧ 15 ≤ i ∧ i ≤ 25) → ¬ (a = 111 ∧ (if c < 14 then 79 + 200 * c else 2875) ≤ i ∧ i < (if c < 14 then 79 + 200 * c else 2875) + 196) → ct (h3.set 110 (.inr (.inr (8, fs3.set 15 (.int 0))))) a i = ct h a i := by
            intro a i n1 n2
            rw [hla] at n2
            rw [x2 a i (fun q => n1 ⟨q.1, by omega, by omega⟩)]
            exact f3 a i n1 n2
          have x16 : ri (h3.set 110 (.inr (.inr (8, fs3.set 15 (.int 0))))) 110 16 = ri h3 110 16 := ri_ct (x2 110 16 (fun q => by omega))
          have x25 : ri (h3.set 110 (.inr (.inr (8, fs3.set 15 (.int 0))))) 110 25 = ri h3 110 25 := ri_ct (x2 110 25 (fun q => by omega))
          rcases hg_ with rfl | ⟨rfl, g1, g2, g3, g4⟩
          · refine ⟨-1, _, ?_, ⟨x1, fr4, Or.inl rfl, x3.trans (by decide)⟩, Or.inl ⟨rfl, rfl⟩, x16, x25⟩
            refine RA.steps 2 rfl ?_
            refine RA.putf rfl ho3 rfl rfl ?_
            refine RA.steps 1 rfl ?_
            refine RA.if1T rfl rfl ?_
            refine RA.steps 1 rfl ?_
            exact RA.ret rfl rfl
          · refine ⟨w, _, ?_, ⟨x1, fr4, Or.inr ⟨g1, w2, by rw [x23]; exact g2, by rw [x23]; exact g3, fun n => ?_⟩, x3.trans (by decide)⟩, Or.inr ⟨rfl, rfl⟩, x16, x25⟩
            · refine RA.steps 2 rfl ?_
              refine RA.putf rfl ho3 rfl rfl ?_
              refine RA.steps 1 rfl ?_
              refine RA.if1F rfl rfl ?_
              refine RA.steps 2 rfl ?_
              exact RA.ret rfl rfl
            · rw [hla, x23, hT_eq (f := ri h3 111) _ _ _ (fun j _ _ => xri j)]
              exact g4 n
        have f2 : ∀ a i, ¬ (a = 110 ∧ 15 ≤ i ∧ i ≤ 25) → ct h2 a i = ct h a i := fun a i n1 => by
          rw [b2 a i (nin_iff.mpr (by
            simp only [WNt, List.forall_mem_cons]
            exact ⟨by omega, fun _ h => absurd h List.not_mem_nil⟩)), hf1 a i (nin_iff.mpr (by
            simp only [List.forall_mem_cons]
            exact ⟨by omega, by omega, fun _ h => absurd h List.not_mem_nil⟩))]
        by_cases hw : w < 0
        · obtain ⟨v, h4, k, kp, kv, kv16, -⟩ := fin 0 h2 b1 (fun a i n1 _ => f2 a i n1) (Or.inl rfl)
          have km : keyV g (fw g n) (wEnd g n (fw g n)) = -1 := by
            rcases keyV_i g (fw g n) (wEnd g n (fw g n)) with y | ⟨y, -⟩
            · exact y
            · rw [← ew] at y
              rcases y with rfl | rfl | rfl <;> exact absurd hw (by decide)
          refine ⟨_, h4, pre _ ?_, v, rfl, kp, Or.inl ⟨km, kv.elim (fun y => y.2) (fun y => absurd y.1 (by decide)), by rw [kv16]; exact ts2.2.1.2.1⟩⟩
          refine RA.if1T rfl (decide_eq_true hw) ?_
          refine RA.steps 3 rfl ?_
          exact RA.if1T rfl rfl k
        · have hw0 := i0_of hw
          obtain ⟨h3, q4, n3⟩ := next_x (E := E) (V := pV1) (d := d + 71) b1 b5
          obtain ⟨i3, f3, z21, z22, z23, z16, z18, zri⟩ := nt_in i2 n3
          have ky := (keyV_i g (fw g n) (wEnd g n (fw g n))).resolve_left (fun y => hw (by rw [ew, y]; decide))
          rw [← ew] at ky
          have kd0 : kd g n (fw g n) ≠ 0 := fun y => by
            have y1 := wEnd_0 y
            have y2 := ky.2
            omega
          have k4 : ri h2 110 18 ≠ 4 := by
            rw [ts2.2.2.1]
            rcases kd_cases g n (fw g n) with ⟨_, e⟩ | ⟨_, _, e⟩ | ⟨_, _, _, e⟩ | ⟨_, _, _, e⟩
            · exact absurd e kd0
            · rw [e, tkc_1, if_pos rfl]
              decide
            · exact absurd (keyV_d e) (fun y => by rw [ew] at ky; rw [y] at ky; rcases ky.1 with z | z | z <;> exact absurd z (by decide))
            · rw [e, tkc_3]
              decide
          obtain ⟨ts3, e253, -⟩ := ts2.nx b1 k4 kd0 q4 n3
          have c0e : ((nxb g n (fw g n), glu (nI (kd g n (fw g n))) (wEnd g n (fw g n)) (nxb g n (fw g n)), [], 1, ri h3 110 25) : KS) = c0S g n := by
            unfold c0S
            rw [e253, z25]
          have z24 := f3.k (i := 24) (by omega) (by omega)
          obtain ⟨r, h4, q5, i4, f4, ok⟩ := (gd_all (E := E) (97 - fi h3 16).toNat).2 (d + 79) h3 w g n _ _ [] ky.1 i3 ts3 (fun _ => ⟨by decide, by decide⟩) (Nat.le_refl _) (by push_cast; omega)
          have pre2 : ∀ res, RA prog E pV1 (d + 80) mX8_parse 54 [some (.ref 110), some (.int w), some (.int 1)] [.int r] h4 res → RA prog E pV1 (d + 80) mX8_parse 37 [some (.ref 110), a1, a2] [.ref 110] h1 res := by
            intro res k
            refine pre _ ?_
            refine RA.if1F rfl (decide_eq_false hw) ?_
            refine RA.steps 4 rfl ?_
            refine RA.if1F rfl rfl ?_
            refine RA.steps 1 rfl ?_
            refine call110 rfl rfl rfl rfl b1 rfl (Nat.le_of_ble_eq_true rfl) q4 ?_
            refine RA.steps 2 rfl ?_
            exact call110 rfl rfl rfl rfl i3.1 rfl (Nat.le_of_ble_eq_true rfl) q5 k
          have f4' : ∀ a i, ¬ (a = 110 ∧ 15 ≤ i ∧ i ≤ 25) → ¬ (a = 111 ∧ la ≤ i ∧ i < la + 196) → ct h4 a i = ct h a i := fun a i n1 n2 => by
            rw [f4 a i (fun q => n1 ⟨q.1, by omega, by omega⟩) (fun q => n1 ⟨q.1, by omega, by omega⟩) (fun q => n2 ⟨q.1, by omega, by omega⟩)]
            rw [f3 a i (fun q => n1 ⟨q.1, by omega, by omega⟩) (fun q => n1 ⟨q.1, by omega, by omega⟩) (fun q => n2 ⟨q.1, by omega, by omega⟩)]
            exact f2 a i n1
          rcases ok with ⟨rfl, no4⟩ | ⟨rfl, ok, y4_⟩
          · obtain ⟨v, h5, k, kp, kv, kv16, -⟩ := fin 0 h4 i4 f4' (Or.inl rfl)
            obtain ⟨k9, c9, e9, cs9, no9, b9⟩ := no4
            rw [c0e] at e9
            refine ⟨_, h5, pre2 _ ?_, v, rfl, kp, Or.inr ⟨w, k9, c9, ew.symm, ky.1, e9, cs9, Or.inl ⟨kv.elim (fun y => y.2) (fun y => absurd y.1 (by decide)), no9, by rw [kv16]; exact b9⟩⟩⟩
            refine RA.if1T rfl rfl ?_
            exact RA.steps 2 rfl k
          · obtain ⟨fs4, ho4, -⟩ := hi_obj i4 HTm
            obtain ⟨c18, -⟩ := m_fld i4 (i := 18) (lo := 0) (hi := 4) rfl
            obtain ⟨k1, k2, k3, k4, k5, k6, k7⟩ := ok
            obtain ⟨k9, b9, gl9, W9, e9, t9, hW9, fo9⟩ := y4_
            rw [c0e, bs_n (by decide), List.append_nil] at e9
            rw [bs_n (by decide), List.append_nil] at fo9
            have cz : cn1 40 W9 = 0 := by
              have y := unw_app (r := 1) (st := []) (Nat.le_refl 1) (by decide) W9 (fun x hx => (hW9 x hx).1)
              rw [List.append_nil] at y
              rw [← unw_cn rk_40 (r := 1) (Nat.le_refl 1), y]
              rfl
            have cs9 := cst_fo (key := w) (gl := gl9) (pc := ri h4 110 25) fo9 (fun z => by rw [cz] at z; exact absurd z.2.2 (by decide))
            have r16 := (m_fld i4 (i := 16) (lo := 0) (hi := 96) rfl).2
            have r23 := (m_fld i4 (i := 23) (lo := 0) (hi := 98) rfl).2
            by_cases e18 : ri h4 110 18 = 0
            · obtain ⟨v, h5, k, kp, kv, -, kv25⟩ := fin 1 h4 i4 f4' (Or.inr ⟨rfl, hw0, r23.1, by have := k1.2.2.2.2; omega, fun n => by
                have := k7 n
                rw [show (fi h3 24).toNat = la by omega, show (fi h3 23).toNat = 0 by omega, show fi h4 23 - fi h3 23 = fi h4 23 by omega] at this
                exact this⟩)
              refine ⟨_, h5, pre2 _ ?_, v, rfl, kp, Or.inr ⟨w, k9, _, ew.symm, ky.1, e9, cs9, Or.inr ⟨kv.elim (fun y => absurd y.1 (by decide)) (fun y => y.2), ⟨(tk_sign t9).2.mp e18, rfl, cz⟩, kv25⟩⟩⟩
              refine RA.if1F rfl rfl ?_
              refine RA.steps 1 rfl ?_
              refine RA.getf rfl ho4 rfl (fld_at ho4 c18) ?_
              refine RA.if1F rfl (decide_eq_false (Decidable.not_not.mpr e18)) ?_
              exact RA.steps 3 rfl k
            · obtain ⟨v, h5, k, kp, kv, kv16, -⟩ := fin 0 h4 i4 f4' (Or.inl rfl)
              refine ⟨_, h5, pre2 _ ?_, v, rfl, kp, Or.inr ⟨w, k9, _, ew.symm, ky.1, e9, cs9, Or.inl ⟨kv.elim (fun y => y.2) (fun y => absurd y.1 (by decide)), fun z => e18 ((tk_sign t9).2.mpr z.1), by rw [kv16]; exact t9.2.1.2.1⟩⟩⟩
              refine RA.if1F rfl rfl ?_
              refine RA.steps 1 rfl ?_
              refine RA.getf rfl ho4 rfl (fld_at ho4 c18) ?_
              refine RA.if1T rfl (decide_eq_true e18) ?_
              exact RA.steps 2 rfl k
    have stk : ∀ {st : List Value}, SG 1 (fun _ => (c : Int)) st [(5, 0, 0, 110)] → st = [.ref 110] := fun {st} hs => by
      obtain ⟨w, r, rfl, hv, hr⟩ := hs.cons_inv
      obtain rfl := hr.nil_inv
      obtain ⟨b, rfl, hb | hb⟩ := hv.ref (Or.inl rfl)
      · rw [hb.2]
      · exact absurd hb.1 (show ¬ (5 : Nat) = 6 by decide)
    rcases List.mem_cons.mp hz with rfl | hz
    · have e24 := ck_in (i := 24) hp1.1 (List.mem_cons_of_mem _ (List.mem_cons_of_mem _ (List.mem_cons_of_mem _ (List.mem_cons_of_mem _ (List.mem_cons_of_mem _ List.mem_cons_self)))))
      have e24 : fi h1 24 = 200 * (c : Int) + 79 := e24
      have h13 := hp1.2.2 _ List.mem_cons_self
      have h13 : (0 : Int) ≤ (c : Int) ∧ (c : Int) ≤ 13 := h13
      rw [if_pos (by omega)] at hla
      exact go [] any7 rfl ⟨_, rfl⟩ (ck_inc (i := 17) hp1.1 List.mem_cons_self) (ck_inc (i := 18) hp1.1 (List.mem_cons_of_mem _ List.mem_cons_self)) (ck_inc (i := 21) hp1.1 (List.mem_cons_of_mem _ (List.mem_cons_of_mem _ List.mem_cons_self))) (ck_inc (i := 22) hp1.1 (List.mem_cons_of_mem _ (List.mem_cons_of_mem _ (List.mem_cons_of_mem _ List.mem_cons_self)))) (ck_inc (i := 23) hp1.1 (List.mem_cons_of_mem _ (List.mem_cons_of_mem _ (List.mem_cons_of_mem _ (List.mem_cons_of_mem _ List.mem_cons_self))))) (by omega) (ck_inc (i := 25) hp1.1 (List.mem_cons_of_mem _ (List.mem_cons_of_mem _ (List.mem_cons_of_mem _ (List.mem_cons_of_mem _ (List.mem_cons_of_mem _ (List.mem_cons_of_mem _ List.mem_cons_self))))))) hL1.1 (hL1.r (k := 0) rfl) (hL1.2 1 none rfl) (hL1.2 2 none rfl) (stk hS1)
    · obtain rfl := List.mem_singleton.mp hz
      have e24 := ck_inc (i := 24) hp1.1 (List.mem_cons_of_mem _ (List.mem_cons_of_mem _ (List.mem_cons_of_mem _ (List.mem_cons_of_mem _ (List.mem_cons_of_mem _ List.mem_cons_self)))))
      have h13 := hp1.2.2 _ List.mem_cons_self
      have h13 : (14 : Int) ≤ (c : Int) ∧ (c : Int) ≤ 14 := h13
      rw [if_neg (by omega)] at hla
      exact go [] any7 rfl ⟨_, rfl⟩ (ck_inc (i := 17) hp1.1 List.mem_cons_self) (ck_inc (i := 18) hp1.1 (List.mem_cons_of_mem _ List.mem_cons_self)) (ck_inc (i := 21) hp1.1 (List.mem_cons_of_mem _ (List.mem_cons_of_mem _ List.mem_cons_self))) (ck_inc (i := 22) hp1.1 (List.mem_cons_of_mem _ (List.mem_cons_of_mem _ (List.mem_cons_of_mem _ List.mem_cons_self)))) (ck_inc (i := 23) hp1.1 (List.mem_cons_of_mem _ (List.mem_cons_of_mem _ (List.mem_cons_of_mem _ (List.mem_cons_of_mem _ List.mem_cons_self))))) (by omega) (ck_inc (i := 25) hp1.1 (List.mem_cons_of_mem _ (List.mem_cons_of_mem _ (List.mem_cons_of_mem _ (List.mem_cons_of_mem _ (List.mem_cons_of_mem _ (List.mem_cons_of_mem _ List.mem_cons_self))))))) hL1.1 (hL1.r (k := 0) rfl) (hL1.2 1 none rfl) (hL1.2 2 none rfl) (stk hS1)
  obtain ⟨r, h', k1, w, rfl, k2, k3⟩ := key
  exact ⟨w, h', ⟨Nat.le_of_ble_eq_true rfl, ⟨_, _, rfl⟩, k1⟩, k2, k3⟩
end PAR2
