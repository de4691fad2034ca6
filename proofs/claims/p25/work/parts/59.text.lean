/-! ===== parse, text ===== -/
section TXT
variable {E : pX} {V : pV} {h h1 h2 h3 h4 : List pC}
theorem ck_g {n : Nat} {σ : Nat → Int} {C : aC} {a i : Nat} {v : AV} (hC : cok n σ h C) (hm : (rf5 a, cn (i : Int), v) ∈ C) : ∃ w, ct h a i = some w ∧ vG n σ w v := by
  obtain ⟨a', i', w, h1, h2, h3, h4⟩ := hC _ hm
  have e1 : a' = a := ref_one h1 (n := n) (σ := σ) (x := rf5 a) (Or.inl ⟨rfl, rfl⟩)
  have e2 : i' = i := by
    have := det_ok (x := cn (i : Int)) (by unfold det cn; simp) h2 (cnZ (i : Int))
    omega
  subst e1
  subst e2
  exact ⟨w, h3, h4⟩
/-- what parse leaves: -1, or a key and the steps of a text, all in the row behind what is told -/
def PaP (c : Nat) (h : List pC) (w : Int32) (h' : List pC) : Prop := HI HT h' ∧ (∀ a i, ¬ (a = 110 ∧ 15 ≤ i ∧ i ≤ 25) → ¬ (a = 111 ∧ (if c < 14 then 79 + 200 * c else 2875) ≤ i ∧ i < (if c < 14 then 79 + 200 * c else 2875) + 196) → ct h' a i = ct h a i) ∧ (w = -1 ∨ (0 ≤ w.toInt ∧ w.toInt ≤ 2 ∧ 0 ≤ fi h' 23 ∧ fi h' 23 ≤ 96 ∧ ∀ n, hT (ri h' 111) (if c < 14 then 79 + 200 * c else 2875) (fi h' 23).toNat 0 n = some (n + 1))) ∧ fi h' 15 = 0
theorem parse_x {d c : Nat} (hh : HI HT h) (hc : c ≤ 14) (h1c : ri h 111 1 = nI c) : ∃ (w : Int32) (h' : List pC), Run prog E V (d + 80) mX8_parse [.ref 110] h (some (.int w), h', 0, 0) ∧ PaP c h w h' := by
  generalize hla : (if c < 14 then 79 + 200 * c else 2875 : Nat) = la
  have hb79 : 79 ≤ la := by rw [← hla]; split <;> omega
  have key : Gl prog E V (fun r h' => ∃ w : Int32, r = some (.int w) ∧ PaP c h w h') (d + 80) mX8_parse 0 (pent 3 [.ref 110]) [] h [] := by
    obtain ⟨f, p1, u1, -⟩ := hi_int hh HT111
    have hct1 : ct h 111 1 = some (.int (nI c)) := by rw [ct_ri p1 (by decide), ← u1 1 (by decide), h1c]
    refine fseg_ok (σ0 := fun _ => (c : Int)) (J := fun _ => True) fs_pa0 rfl (fun k N c hk => by cases hk) (fun _ _ => trivial) (by omega) ?_ (cok.cs ⟨111, 1, _, Or.inl ⟨rfl, rfl⟩, cnZ 1, hct1, Nat.le_refl 1, zG.mk (by decide) (by rw [nI_toInt (by omega)]; show (c : Int) = 1 * (c : Int) + 0; omega) (by decide)⟩ cok.nil) (LG.cons (lGr 110) (LG.cons (lG.any rfl) (LG.cons (lG.any rfl) LGn))) trivial hh (fun p hp => by cases hp) (fun z hz L1 st1 h1 hL1 hS1 hp1 hh1 hf1 => ?_)
    · intro k e hk
      match k, hk with
      | 0, hk => cases hk; exact ⟨by show (0 : Int) ≤ (c : Int); omega, by show (c : Int) ≤ 14; omega⟩
      | k + 1, hk => simp [g0_pa0] at hk
    -- both ways
    have go : ∀ (C : aC) (x : AV), hp1 = hp1 → (∃ a, x = a) → fi h1 17 = 0 → fi h1 18 = 3 → fi h1 21 = 0 → fi h1 22 = 0 → fi h1 23 = 0 → fi h1 24 = (la : Int) → L1.length = 3 → pget L1 0 = some (.ref 110) → pcat2 (pget L1 1) = false → pcat2 (pget L1 2) = false → st1 = [.ref 110] → Gl prog E V (fun r h' => ∃ w : Int32, r = some (.int w) ∧ PaP c h w h') (d + 80) mX8_parse 37 L1 st1 h1 [] := by
      intro _ _ _ _ g17 g18 g21 g22 g23 g24 hl l0 l1 l2 hst
      subst hst
      match L1, hl with
      | [a0, a1, a2], _ =>
        obtain rfl : a0 = _ := l0
        have r15 := (m_fld hh1 (i := 15) (lo := 0) (hi := 96) rfl).2
        obtain ⟨h2, q2, n2⟩ := next_x (E := E) (V := V) (d := d + 71) hh1 (by omega)
        obtain ⟨-, b1, b2, b3, b4, b5, b6⟩ := n2
        have m21 := fi_fr b2 (i := 21) rfl
        have m22 := fi_fr b2 (i := 22) rfl
        have m23 := fi_fr b2 (i := 23) rfl
        have m24 := fi_fr b2 (i := 24) rfl
        have i2 : PIn h2 := ⟨b1, b4, b5, b6, by omega⟩
        have r17 := (m_fld b1 (i := 17) (lo := 0) (hi := 96) rfl).2
        obtain ⟨w, w1, w2, q3⟩ := key_x (E := E) (V := V) (d := d + 77) b1 r17.2
        have pre : ∀ res, RA prog E V (d + 80) mX8_parse 42 [some (.ref 110), some (.int w), a2] [.int w] h2 res → RA prog E V (d + 80) mX8_parse 37 [some (.ref 110), a1, a2] [.ref 110] h1 res := by
          intro res k
          refine call110 rfl rfl rfl rfl hh1 rfl (Nat.le_of_ble_eq_true rfl) q2 ?_
          refine RA.steps 1 rfl ?_
          refine call110 rfl rfl rfl rfl b1 rfl (Nat.le_of_ble_eq_true rfl) q3 ?_
          exact RA.steps 2 rfl k
        -- the end: the tape is used up
        have fin : ∀ (g : Int32) (h3 : List pC), HI HT h3 → (∀ a i, ¬ (a = 110 ∧ 15 ≤ i ∧ i ≤ 25) → ¬ (a = 111 ∧ la ≤ i ∧ i < la + 196) → ct h3 a i = ct h a i) → (g = 0 ∨ (g = 1 ∧ 0 ≤ w.toInt ∧ 0 ≤ fi h3 23 ∧ fi h3 23 ≤ 96 ∧ ∀ n, hT (ri h3 111) la (fi h3 23).toNat 0 n = some (n + 1))) → ∃ (v : Int32) (h4 : List pC), RA prog E V (d + 80) mX8_parse 62 [some (.ref 110), some (.int w), some (.int g)] [] h3 (some (.int v), h4, 0, 0) ∧ PaP c h v h4 := by
          intro g h3 hh3 f3 hg
          obtain ⟨fs3, ho3, -⟩ := hi_obj hh3 HTm
          obtain ⟨x1, x2, x3⟩ := fld_put (i := 15) (lo := 0) (hi := 96) (v := 0) hh3 ho3 rfl (by decide)
          have x23 := oneF.k (i := 15) (j := 23) x2 (by omega)
          have xri := oneF.s (i := 15) x2
          have fr4 : ∀ a i, ¬ (a = 110 ∧ 15 ≤ i ∧ i ≤ 25) → ¬ (a = 111 ∧ (if c < 14 then 79 + 200 * c else 2875) ≤ i ∧ i < (if c < 14 then 79 + 200 * c else 2875) + 196) → ct (h3.set 110 (.inr (.inr (8, fs3.set 15 (.int 0))))) a i = ct h a i := by
            intro a i n1 n2
            rw [hla] at n2
            rw [x2 a i (fun q => n1 ⟨q.1, by omega, by omega⟩)]
            exact f3 a i n1 n2
          rcases hg with rfl | ⟨rfl, g1, g2, g3, g4⟩
          · refine ⟨-1, _, ?_, x1, fr4, Or.inl rfl, x3.trans (by decide)⟩
            refine RA.steps 2 rfl ?_
            refine RA.putf rfl ho3 rfl rfl ?_
            refine RA.steps 1 rfl ?_
            refine RA.if1T rfl rfl ?_
            refine RA.steps 1 rfl ?_
            exact RA.ret rfl rfl
          · refine ⟨w, _, ?_, x1, fr4, Or.inr ⟨g1, w2, by rw [x23]; exact g2, by rw [x23]; exact g3, fun n => ?_⟩, x3.trans (by decide)⟩
            · refine RA.steps 2 rfl ?_
              refine RA.putf rfl ho3 rfl rfl ?_
              refine RA.steps 1 rfl ?_
              refine RA.if1F rfl rfl ?_
              refine RA.steps 2 rfl ?_
              exact RA.ret rfl rfl
            · rw [hla, x23, hT_eq (f := ri h3 111) _ _ _ (fun j _ _ => xri j)]
              exact g4 n
        have f2 : ∀ a i, ¬ (a = 110 ∧ 15 ≤ i ∧ i ≤ 25) → ct h2 a i = ct h a i := fun a i n1 => by
          rw [b2 a i (nin_iff.mpr (by
            simp only [WNt, List.forall_mem_cons]
            exact ⟨by omega, fun _ h => absurd h List.not_mem_nil⟩)), hf1 a i (nin_iff.mpr (by
            simp only [List.forall_mem_cons]
            exact ⟨by omega, by omega, fun _ h => absurd h List.not_mem_nil⟩))]
        by_cases hw : w < 0
        · obtain ⟨v, h4, k, kp⟩ := fin 0 h2 b1 (fun a i n1 _ => f2 a i n1) (Or.inl rfl)
          refine ⟨_, h4, pre _ ?_, v, rfl, kp⟩
          refine RA.if1T rfl (decide_eq_true hw) ?_
          refine RA.steps 3 rfl ?_
          exact RA.if1T rfl rfl k
        · have hw0 := i0_of hw
          obtain ⟨h3, q4, n3⟩ := next_x (E := E) (V := V) (d := d + 71) b1 b5
          obtain ⟨i3, f3, z21, z22, z23, z16, z18, zri⟩ := nt_in i2 n3
          have z24 := f3.k (i := 24) (by omega) (by omega)
          obtain ⟨r, h4, q5, i4, f4, ok⟩ := (gm_all (97 - fi h3 16).toNat).2 (d + 79) h3 w ⟨hw0, w2⟩ i3 (Nat.le_refl _) (by push_cast; omega)
          have pre2 : ∀ res, RA prog E V (d + 80) mX8_parse 54 [some (.ref 110), some (.int w), some (.int 1)] [.int r] h4 res → RA prog E V (d + 80) mX8_parse 37 [some (.ref 110), a1, a2] [.ref 110] h1 res := by
            intro res k
            refine pre _ ?_
            refine RA.if1F rfl (decide_eq_false hw) ?_
            refine RA.steps 4 rfl ?_
            refine RA.if1F rfl rfl ?_
            refine RA.steps 1 rfl ?_
            refine call110 rfl rfl rfl rfl b1 rfl (Nat.le_of_ble_eq_true rfl) q4 ?_
            refine RA.steps 2 rfl ?_
            exact call110 rfl rfl rfl rfl i3.1 rfl (Nat.le_of_ble_eq_true rfl) q5 k
          have f4' : ∀ a i, ¬ (a = 110 ∧ 15 ≤ i ∧ i ≤ 25) → ¬ (a = 111 ∧ la ≤ i ∧ i < la + 196) → ct h4 a i = ct h a i := fun a i n1 n2 => by
            rw [f4 a i (fun q => n1 ⟨q.1, by omega, by omega⟩) (fun q => n1 ⟨q.1, by omega, by omega⟩) (fun q => n2 ⟨q.1, by omega, by omega⟩)]
            rw [f3 a i (fun q => n1 ⟨q.1, by omega, by omega⟩) (fun q => n1 ⟨q.1, by omega, by omega⟩) (fun q => n2 ⟨q.1, by omega, by omega⟩)]
            exact f2 a i n1
          rcases ok with rfl | ⟨rfl, ok⟩
          · obtain ⟨v, h5, k, kp⟩ := fin 0 h4 i4 f4' (Or.inl rfl)
            refine ⟨_, h5, pre2 _ ?_, v, rfl, kp⟩
            refine RA.if1T rfl rfl ?_
            exact RA.steps 2 rfl k
          · obtain ⟨fs4, ho4, -⟩ := hi_obj i4 HTm
            obtain ⟨c18, -⟩ := m_fld i4 (i := 18) (lo := 0) (hi := 4) rfl
            obtain ⟨k1, k2, k3, k4, k5, k6, k7⟩ := ok
            have r16 := (m_fld i4 (i := 16) (lo := 0) (hi := 96) rfl).2
            have r23 := (m_fld i4 (i := 23) (lo := 0) (hi := 98) rfl).2
            by_cases e18 : ri h4 110 18 = 0
            · obtain ⟨v, h5, k, kp⟩ := fin 1 h4 i4 f4' (Or.inr ⟨rfl, hw0, r23.1, by have := k1.2.2.2.2; omega, fun n => by
                have := k7 n
                rw [show (fi h3 24).toNat = la by omega, show (fi h3 23).toNat = 0 by omega, show fi h4 23 - fi h3 23 = fi h4 23 by omega] at this
                exact this⟩)
              refine ⟨_, h5, pre2 _ ?_, v, rfl, kp⟩
              refine RA.if1F rfl rfl ?_
              refine RA.steps 1 rfl ?_
              refine RA.getf rfl ho4 rfl (fld_at ho4 c18) ?_
              refine RA.if1F rfl (decide_eq_false (Decidable.not_not.mpr e18)) ?_
              exact RA.steps 3 rfl k
            · obtain ⟨v, h5, k, kp⟩ := fin 0 h4 i4 f4' (Or.inl rfl)
              refine ⟨_, h5, pre2 _ ?_, v, rfl, kp⟩
              refine RA.if1F rfl rfl ?_
              refine RA.steps 1 rfl ?_
              refine RA.getf rfl ho4 rfl (fld_at ho4 c18) ?_
              refine RA.if1T rfl (decide_eq_true e18) ?_
              exact RA.steps 2 rfl k
    have stk : ∀ {st : List Value}, SG 1 (fun _ => (c : Int)) st [(5, 0, 0, 110)] → st = [.ref 110] := fun {st} hs => by
      obtain ⟨w, r, rfl, hv, hr⟩ := hs.cons_inv
      obtain rfl := hr.nil_inv
      obtain ⟨b, rfl, hb | hb⟩ := hv.ref (Or.inl rfl)
      · rw [hb.2]
      · exact absurd hb.1 (show ¬ (5 : Nat) = 6 by decide)
    rcases List.mem_cons.mp hz with rfl | hz
    · have e24 := ck_in (i := 24) hp1.1 (List.mem_cons_of_mem _ (List.mem_cons_of_mem _ (List.mem_cons_of_mem _ (List.mem_cons_of_mem _ (List.mem_cons_of_mem _ List.mem_cons_self)))))
      have e24 : fi h1 24 = 200 * (c : Int) + 79 := e24
      have h13 := hp1.2.2 _ List.mem_cons_self
      have h13 : (0 : Int) ≤ (c : Int) ∧ (c : Int) ≤ 13 := h13
      rw [if_pos (by omega)] at hla
      exact go [] any7 rfl ⟨_, rfl⟩ (ck_inc (i := 17) hp1.1 List.mem_cons_self) (ck_inc (i := 18) hp1.1 (List.mem_cons_of_mem _ List.mem_cons_self)) (ck_inc (i := 21) hp1.1 (List.mem_cons_of_mem _ (List.mem_cons_of_mem _ List.mem_cons_self))) (ck_inc (i := 22) hp1.1 (List.mem_cons_of_mem _ (List.mem_cons_of_mem _ (List.mem_cons_of_mem _ List.mem_cons_self)))) (ck_inc (i := 23) hp1.1 (List.mem_cons_of_mem _ (List.mem_cons_of_mem _ (List.mem_cons_of_mem _ (List.mem_cons_of_mem _ List.mem_cons_self))))) (by omega) hL1.1 (hL1.r (k := 0) rfl) (hL1.2 1 none rfl) (hL1.2 2 none rfl) (stk hS1)
    · obtain rfl := List.mem_singleton.mp hz
      have e24 := ck_inc (i := 24) hp1.1 (List.mem_cons_of_mem _ (List.mem_cons_of_mem _ (List.mem_cons_of_mem _ (List.mem_cons_of_mem _ (List.mem_cons_of_mem _ List.mem_cons_self)))))
      have h13 := hp1.2.2 _ List.mem_cons_self
      have h13 : (14 : Int) ≤ (c : Int) ∧ (c : Int) ≤ 14 := h13
      rw [if_neg (by omega)] at hla
      exact go [] any7 rfl ⟨_, rfl⟩ (ck_inc (i := 17) hp1.1 List.mem_cons_self) (ck_inc (i := 18) hp1.1 (List.mem_cons_of_mem _ List.mem_cons_self)) (ck_inc (i := 21) hp1.1 (List.mem_cons_of_mem _ (List.mem_cons_of_mem _ List.mem_cons_self))) (ck_inc (i := 22) hp1.1 (List.mem_cons_of_mem _ (List.mem_cons_of_mem _ (List.mem_cons_of_mem _ List.mem_cons_self)))) (ck_inc (i := 23) hp1.1 (List.mem_cons_of_mem _ (List.mem_cons_of_mem _ (List.mem_cons_of_mem _ (List.mem_cons_of_mem _ List.mem_cons_self))))) (by omega) hL1.1 (hL1.r (k := 0) rfl) (hL1.2 1 none rfl) (hL1.2 2 none rfl) (stk hS1)
  obtain ⟨r, h', k1, w, rfl, k2⟩ := key
  exact ⟨w, h', ⟨Nat.le_of_ble_eq_true rfl, ⟨_, _, rfl⟩, k1⟩, k2⟩
end TXT
