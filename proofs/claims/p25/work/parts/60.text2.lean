/-! ===== the contract of text ===== -/
section TX2
variable {E : pX} {V : pV} {h h1 h2 : List pC}
set_option maxRecDepth 100000 in
set_option maxHeartbeats 40000000 in
theorem sa_tx : (List.range 14).all (fun c => fsegchk prog HT [(111, 111, 1, 1), (111, 111, 75 + 200 * c, 77 + 200 * c)] [] (fun _ _ => none) 70 3 220 10 false [.inl (0, 2), .inl (0, 98), .inl (-2147483648, 2147483647)] [(rf5 111, cn 1, cn (c : Int)), (rf5 110, cn 23, (1, 1, 0, 1)), (rf5 110, cn 25, (1, 1, 0, 2))] [(5, 0, 0, 110), (1, 1, 0, 0), (7, 0, 0, 0)] [] [] [(some (cn (c : Int)), ([(rf5 111, cn 1, cn ((c : Int) + 1)), (rf5 111, cn ((77 + 200 * c : Nat) : Int), (1, 1, 0, 1))], [], []))]) = true := by decide +kernel
def WTx : aW := [(110, 110, 15, 25), (111, 111, 1, 1), (111, 111, 75, 3074)]
theorem pa_fr {c : Nat} {w : Int32} (hc : c ≤ 14) (hp : PaP c h w h1) : Fr WTx h h1 ∧ (∀ i, i < (if c < 14 then 79 + 200 * c else 2875) → ri h1 111 i = ri h 111 i) ∧ (∀ i, ri h1 112 i = ri h 112 i) := by
  have hb : (if c < 14 then 79 + 200 * c else 2875 : Nat) ≤ 2875 ∧ 79 ≤ (if c < 14 then 79 + 200 * c else 2875 : Nat) := by split <;> omega
  obtain ⟨-, p2, -⟩ := hp
  refine ⟨fun a i hi => ?_, fun i hi => ri_ct (p2 111 i (by omega) (by omega)), fun i => ri_ct (p2 112 i (by omega) (by omega))⟩
  have hi2 := nin_iff.mp hi
  simp only [WTx, List.forall_mem_cons] at hi2
  obtain ⟨n1, n2, n3, -⟩ := hi2
  exact p2 a i (fun q => n1 ⟨by omega, by omega, q.2.1, q.2.2⟩) (fun q => n3 ⟨by omega, by omega, by omega, by omega⟩)
/-- texts that were told stay as they are -/
theorem ti_keep {f g : Nat → Int32} {c N : Nat} (hf : TI f) (h1 : f 1 = nI c) (hc : c ≤ 14) (hg : g 1 = nI N) (hN : N ≤ 14) (he : ∀ i, 75 ≤ i → i < 75 + 200 * c → g i = f i) (hnew : ∀ t, c ≤ t → t < N → ∃ m : Nat, m ≤ 98 ∧ g (77 + 200 * t) = nI m ∧ wfT g (75 + 200 * t) m 0 0) : TI g := fun t ht1 ht2 => by
  rw [hg, nI_toInt (by omega)] at ht2
  by_cases htc : t < c
  · obtain ⟨m, m1, m2, m3⟩ := hf t ht1 (by rw [h1, nI_toInt (by omega)]; omega)
    exact ⟨m, m1, by rw [he _ (by omega) (by omega)]; exact m2, wfT_eq m 0 0 (fun j j1 j2 => he j (by omega) (by omega)) m3⟩
  · exact hnew t (by omega) (by omega)
theorem Gl.weak {P Q : Option Value → List pC → Prop} {d : Nat} {M : pM} {i : Nat} {L : pL} {st : List Value} (g : Gl prog E V P d M i L st h []) (hw : ∀ r h', P r h' → Q r h') : Gl prog E V Q d M i L st h [] := by
  obtain ⟨r, h', k1, k2⟩ := g
  exact ⟨r, h', k1, hw r h' k2⟩
/-- text, and the tape used up -/
theorem text_gl (d : Nat) (as : List Value) (h : List pC) (hd : 90 ≤ d) (ha : argsG as [.inr (false, [110])]) (hh : HI HT h) (hj : JT h) : Gl prog E V (fun r h' => LPo WTx h r h' ∧ fi h' 15 = 0) d mX8_text 0 (pent (m_l mX8_text) as) [] h [] := by
  obtain ⟨d, rfl⟩ : ∃ d', d = d' + 81 := ⟨d - 81, by omega⟩
  obtain rfl := at1 ha
  obtain ⟨f0, c, -, u0, hc, hc1⟩ := n_texts hh
  have h1c : ri h 111 1 = nI c := by rw [u0 1 (by decide)]; exact hc1
  obtain ⟨w, h1, q1, hp⟩ := parse_x (E := E) (V := V) (d := d) hh hc h1c
  obtain ⟨fr1, k111, k112⟩ := pa_fr hc hp
  have hb : (if c < 14 then 79 + 200 * c else 2875 : Nat) ≤ 2875 ∧ 79 ≤ (if c < 14 then 79 + 200 * c else 2875 : Nat) := by split <;> omega
  have hb2 : 75 + 200 * c ≤ (if c < 14 then 79 + 200 * c else 2875 : Nat) := by split <;> omega
  obtain ⟨hh1, p2, hw, h15⟩ := hp
  have h1c' : ri h1 111 1 = nI c := by rw [k111 1 (by omega)]; exact h1c
  have hj1 : JT h1 := ⟨ti_keep hj.1 h1c hc h1c' hc (fun i i1 i2 => k111 i (by omega)) (fun t t1 t2 => by omega), TI_eq (k112 1) (fun j _ _ => k112 j) hj.2⟩
  have pre : ∀ res, RA prog E V (d + 81) mX8_text 4 [some (.ref 110), some (.int w), none] [.int w] h1 res → RA prog E V (d + 81) mX8_text 0 (pent (m_l mX8_text) [.ref 110]) [] h res := by
    intro res k
    refine RA.steps 1 rfl ?_
    refine call110 rfl rfl rfl rfl hh rfl (Nat.le_of_ble_eq_true rfl) q1 ?_
    exact RA.steps 2 rfl k
  obtain ⟨fs1, ho1, -⟩ := hi_obj hh1 HTm
  obtain ⟨c16, -⟩ := m_fld hh1 (i := 16) (lo := 0) (hi := 96) rfl
  have top : ∀ v : Int32, retG (some (.int v)) (some (-2147483648, 2147483647)) := fun v => ⟨v, rfl, i32_lo v, i32_hi v⟩
  rcases hw with rfl | ⟨w0, w2, l0, l1, hT1⟩
  · refine ⟨some (.int (-100 - ri h1 110 16)), h1, pre _ ?_, ⟨top _, hh1, fr1, hj1⟩, h15⟩
    refine RA.if1F rfl rfl ?_
    refine RA.steps 2 rfl ?_
    refine RA.getf rfl ho1 rfl (fld_at ho1 c16) ?_
    refine RA.steps (i' := 9) (L' := [some (.ref 110), some (.int (-1)), none]) (st' := [.int (-100 - ri h1 110 16)]) (h' := h1) 1 rfl ?_
    exact RA.ret rfl rfl
  · have wpos : (0 : Int32) ≤ w := Int32.le_iff_toInt_le.mpr w0
    obtain ⟨fs, ho, f0', -, -⟩ := m_obj hh1
    obtain ⟨f, p1, u1, -⟩ := hi_int hh1 HT111
    have hf1 : f 1 = nI c := by rw [← u1 1 (by decide)]; exact h1c'
    by_cases c14 : c = 14
    · subst c14
      refine ⟨some (.int (-1000000003)), h1, pre _ ?_, ⟨top _, hh1, fr1, hj1⟩, h15⟩
      refine RA.if1T rfl (decide_eq_true wpos) ?_
      refine RA.steps 1 rfl ?_
      refine RA.getf rfl ho rfl f0' ?_
      refine RA.steps 1 rfl ?_
      refine RA.iald rfl p1 ⟨by decide, Nat.le_of_ble_eq_true rfl⟩ hf1 ?_
      refine RA.steps 1 rfl ?_
      refine RA.if2F rfl rfl ?_
      refine RA.steps 1 rfl ?_
      exact RA.ret rfl rfl
    · have c13 : c < 14 := by omega
      rw [if_pos c13] at hT1 k111
      refine Gl.via (i' := 10) (L' := [some (.ref 110), some (.int w), none]) (st' := []) (h1 := h1) (fun res k => pre _ (RA.if1T rfl (decide_eq_true wpos) k)) ?_
      obtain ⟨c23, r23⟩ := m_fld hh1 (i := 23) (lo := 0) (hi := 98) rfl
      have hct1 : ct h1 111 1 = some (.int (nI c)) := by rw [ct_ri p1 (by decide), hf1]
      refine fseg_ok (σ0 := fun j => match j with | 0 => w.toInt | 1 => fi h1 23 | _ => fi h1 25) (J := fun _ => True) (List.all_eq_true.mp sa_tx c (List.mem_range.mpr c13)) rfl (fun k N c hk => by cases hk) (fun _ _ => trivial) (by omega) ?_ (cok.cs ⟨111, 1, _, Or.inl ⟨rfl, rfl⟩, cnZ 1, hct1, Nat.zero_le 1, by rw [nI_toInt (by omega)]; exact cnZ _⟩ (cok.cs (ck_f (lo := 0) (hi := 98) hh1 rfl (by decide) rfl) (cok.cs (ck_f (lo := -2147483648) (hi := 2147483647) hh1 rfl (by decide) rfl) cok.nil))) (LG.cons (lGr 110) (LG.cons (lGi (by decide) (by show w.toInt = 1 * w.toInt + 0; omega)) (LG.cons (lG.any rfl) LGn))) trivial hh1 (fun p hp' r h2 hr hp2 hh2 hf2 => ?_) (fun z hz => by cases hz)
      · intro k e hk
        match k, hk with
        | 0, hk => cases hk; exact ⟨w0, w2⟩
        | 1, hk => cases hk; exact r23
        | 2, hk => cases hk; exact ⟨i32_lo _, i32_hi _⟩
        | k + 3, hk => simp at hk
      · obtain rfl := List.mem_singleton.mp hp'
        have e1 : ri h2 111 1 = nI (c + 1) := by
          obtain ⟨v, hv, hz⟩ := ck_g (a := 111) (i := 1) hp2.1 List.mem_cons_self
          obtain ⟨v2, rfl, hz2⟩ := hz.int (Nat.zero_le 1)
          have := det_ok (x := cn ((c : Int) + 1)) (by unfold det cn; simp) hz2 (cnZ _)
          unfold ri
          rw [hv]
          show v2 = nI (c + 1)
          exact toI (by omega) (by rw [this]; omega)
        have e2 : ri h2 111 (77 + 200 * c) = nI (fi h1 23).toNat := by
          obtain ⟨v, hv, hz⟩ := ck_g (a := 111) (i := 77 + 200 * c) hp2.1 (List.mem_cons_of_mem _ List.mem_cons_self)
          obtain ⟨v2, rfl, hz2⟩ := hz.int (Nat.le_refl 1)
          have := (hz2.lin (show ¬ (1 : Nat) % 2 = 0 by decide)).1
          have this : v2.toInt = 1 * fi h1 23 + 0 := this
          unfold ri
          rw [hv]
          show v2 = nI (fi h1 23).toNat
          exact toI (by omega) (by omega)
        have e3 : ∀ i, ¬ i = 1 → ¬ (75 + 200 * c ≤ i ∧ i ≤ 77 + 200 * c) → ri h2 111 i = ri h1 111 i := fun i n1 n2 => ri_fr hf2 (nin_iff.mpr (by
          simp only [List.forall_mem_cons]
          exact ⟨by omega, by omega, fun _ h => absurd h List.not_mem_nil⟩))
        have e4 : ∀ i, ri h2 112 i = ri h1 112 i := fun i => ri_fr hf2 (nin_iff.mpr (by
          simp only [List.forall_mem_cons]
          exact ⟨by omega, by omega, fun _ h => absurd h List.not_mem_nil⟩))
        have fr2 : Fr WTx h1 h2 := fun a i hi => by
          have hi2 := nin_iff.mp hi
          simp only [WTx, List.forall_mem_cons] at hi2
          obtain ⟨n1, n2, n3, -⟩ := hi2
          exact hf2 a i (nin_iff.mpr (by
            simp only [List.forall_mem_cons]
            exact ⟨by omega, by omega, fun _ h => absurd h List.not_mem_nil⟩))
        have hj2 : JT h2 := ⟨ti_keep hj1.1 h1c' hc e1 (by omega) (fun i i1 i2 => e3 i (by omega) (by omega)) (fun t t1 t2 => by
          obtain rfl : t = c := by omega
          refine ⟨(fi h1 23).toNat, by omega, e2, ?_⟩
          refine hT_wf _ _ _ 1 ?_
          rw [show 75 + 200 * t + 4 = 79 + 200 * t by omega, hT_eq (f := ri h1 111) _ _ _ (fun j j1 j2 => e3 j (by omega) (by omega))]
          exact hT1 0), TI_eq (e4 1) (fun j _ _ => e4 j) hj1.2⟩
        refine ⟨⟨?_, hh2, fr1.tr fr2, hj2⟩, ?_⟩
        rotate_left
        · have e15 : ct h2 110 15 = ct h1 110 15 := hf2 110 15 (nin_iff.mpr (by
            simp only [List.forall_mem_cons]
            exact ⟨by omega, by omega, fun _ h => absurd h List.not_mem_nil⟩))
          unfold fi
          rw [ri_ct e15]
          exact h15
        cases r with
        | none => exact hr.elim
        | some x =>
          obtain ⟨v, rfl, -⟩ := (show vG _ _ x (cn (c : Int)) from hr).int (Nat.zero_le 1)
          exact top v
theorem hd_text : KGi E V JT 220 ([.inr (false, [110])], some (-2147483648, 2147483647), WTx, 90) := kg_gl (N := mX8_text) rfl ⟨_, _, rfl⟩ (Nat.le_of_ble_eq_true rfl) (fun d as h hd ha hh hj => (text_gl d as h hd ha hh hj).weak (fun _ _ q => q.1))
end TX2
