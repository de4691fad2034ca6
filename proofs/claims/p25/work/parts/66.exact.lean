/-! ===== what the reference's images, texts and rows leave, exactly ===== -/
section EXA
variable {E : pX} {h : List pC}
theorem m_ob (hh : HI HT h) : ∃ fs : List Value, pobj h 110 = some (8, fs) ∧ fs[0]? = some (.ref 111) ∧ fs[1]? = some (.ref 112) := by
  obtain ⟨fs, ho, hF⟩ := hi_obj hh HTm
  exact ⟨fs, ho, hF.ref (k := 0) rfl, hF.ref (k := 1) rfl⟩
/-- check, from behind 'none waits' on: it writes neither the state nor how many wait -/
def WCt : aW := WKs ++ [(113, 113, 0, 3074), (129, 129, 0, 59)]
def ltCk : lTy := [some (.inr (false, [110])), some (.inl (-2147483648, 2147483647)), some (.inl (0, 60)), none, none]
def enCk : List aEn := [(24, [some (.inr (false, [110])), some (.inl (1, 30)), some (.inl (0, 60)), none, none], [.inr (false, [113]), .inr (false, [111]), .inr (false, [110])])]
set_option maxRecDepth 100000 in
set_option maxHeartbeats 40000000 in
theorem sg_ck6 : segchk prog HT [] [] tb0 40 50 240 6 false ltCk [] enCk (some ((-2147483648), 2147483647)) = true := by decide +kernel
theorem check_tail {V : pV} {d : Nat} {L : pL} (H : HandU E V JT) (hd : 50 ≤ d + 2) (hh : HI HT h) (hj : JT h) (hL : ltG L ltCk) : Gl prog E V (LPo WCt h) (d + 2) mX8_check 6 L [] h [] := by
  refine sg_use sg_ck6 rfl no_kc rfl hj hd hL trivial hh (fun r h' hr hh' hf => ⟨hr, hh', hf.sub (by decide), JT_P _ _ _ (by decide) hf hj⟩) (fun z hz L1 st1 h1 hL1 hst1 hh1 hf1 => ?_)
  obtain rfl := List.mem_singleton.mp hz
  obtain rfl := at3 hst1
  have hj1 : JT h1 := JT_P _ _ _ (by decide) hf1 hj
  refine gl_aside rfl HT111 HT113 (by decide) hh1 (fun h2 q1 q2 q3 q4 q5 => ?_)
  have hj2 : JT h2 := jt_cp (A := 111) (Or.inl rfl) (Or.inl (fun j => ri_ct (q2 111 j (by decide)))) (Or.inl (fun j => ri_ct (q2 112 j (by decide)))) hj1
  refine sg_use sg_ch2 rfl no_kc rfl hj2 hd hL1 trivial q1 (fun r h' hr _ _ => (no_ret hr).elim) (fun z hz L3 st3 h3 hL3 hst3 hh3 hf3 => ?_)
  obtain rfl := List.mem_singleton.mp hz
  obtain rfl := at3 hst3
  have hj3 : JT h3 := JT_P _ _ _ (by decide) hf3 hj2
  refine gl_aside rfl HT112 HT111 (by decide) hh3 (fun h4 u1 u2 u3 u4 u5 => ?_)
  have hj4 : JT h4 := jt_cp (Or.inr rfl) (Or.inr u3) (Or.inl (fun j => ri_ct (u2 112 j (by decide)))) hj3
  refine sg_use sg_ch3 rfl (ks_look JT_P H) (by decide) hj4 hd hL3 trivial u1 (fun r h' hr _ _ => (no_ret hr).elim) (fun z hz L5 st5 h5 hL5 hst5 hh5 hf5 => ?_)
  obtain rfl := List.mem_singleton.mp hz
  obtain rfl := at3 hst5
  refine gl_aside rfl HT113 HT111 (by decide) hh5 (fun h6 w1 w2 w3 w4 w5 => ?_)
  have e113 : ∀ j, ct h5 113 j = ct h2 113 j := fun j => by
    rw [hf5 113 j (nin_iff.mpr (by
      simp only [WKs, WS, List.cons_append, List.nil_append, List.forall_mem_cons]
      exact ⟨by omega, by omega, by omega, by omega, by omega, fun _ h => absurd h List.not_mem_nil⟩)), u2 113 j (by decide), hf3 113 j rfl]
  have e111 : ∀ j, ct h6 111 j = ct h 111 j := fun j => by
    have a1 : ct h1 111 j = ct h 111 j := hf1 111 j rfl
    by_cases hj : j < 2875
    · obtain ⟨v, hv⟩ := w5 j (by omega)
      have r1 : ri h6 111 j = ri h1 111 j := by rw [w3 j hj, ri_ct (e113 j), q3 j hj]
      obtain ⟨f1, p1, -, -⟩ := hi_int hh1 HT111
      have c1 := ct_ri p1 (show j < 3075 by omega)
      rw [hv, ← a1, c1]
      have r2 : ri h6 111 j = v := by unfold ri; rw [hv]
      have r3 : ri h1 111 j = f1 j := by unfold ri; rw [c1]
      rw [← r2, ← r3, r1]
    · rw [w4 j hj, hf5 111 j (nin_iff.mpr (by
        simp only [WKs, WS, List.cons_append, List.nil_append, List.forall_mem_cons]
        exact ⟨by omega, by omega, by omega, by omega, by omega, fun _ h => absurd h List.not_mem_nil⟩)), u4 j hj, hf3 111 j rfl, q2 111 j (by decide)]
      exact a1
  have hf6 : Fr WCt h h6 := fun a i hi => by
    have hi2 := nin_iff.mp hi
    simp only [WCt, WKs, List.cons_append, List.nil_append, List.forall_mem_cons] at hi2
    obtain ⟨n1, n2, n3, n4, -⟩ := hi2
    by_cases e : a = 111
    · subst e
      exact e111 i
    · rw [w2 a i e, hf5 a i (nin_iff.mpr (by
        simp only [WKs, WS, List.cons_append, List.nil_append, List.forall_mem_cons]
        exact ⟨by omega, by omega, by omega, by omega, by omega, fun _ h => absurd h List.not_mem_nil⟩)), u2 a i e, hf3 a i rfl]
      have e1 : ct h1 a i = ct h a i := hf1 a i rfl
      by_cases e3 : a = 113
      · subst e3
        rw [q4 i (by omega)]
        exact e1
      · rw [q2 a i e3]
        exact e1
  have e112 : ∀ j, ct h6 112 j = ct h 112 j := fun j => hf6 112 j (nin_iff.mpr (by
    simp only [WCt, WKs, List.cons_append, List.nil_append, List.forall_mem_cons]
    exact ⟨by omega, by omega, by omega, by omega, fun _ h => absurd h List.not_mem_nil⟩))
  have hj6 : JT h6 := ⟨TI_eq (ri_ct (e111 1)) (fun j _ _ => ri_ct (e111 j)) hj.1, TI_eq (ri_ct (e112 1)) (fun j _ _ => ri_ct (e112 j)) hj.2⟩
  exact sg_use sg_ch4 rfl no_kc rfl hj6 hd hL5 trivial w1 (fun r h' hr hh' hf => ⟨hr, hh', hf6.tr (hf.sub rfl), JT_P [] _ _ rfl hf hj6⟩) (fun z hz => by cases hz)
/-- a run of a method, out of what is wanted at its end -/
theorem run_gl {V : pV} {d : Nat} {N : pM} {as : List Value} {ps : List aA} {Post : Option Value → List pC → Prop} (g : Gl prog E V Post d N 0 (pent (m_l N) as) [] h []) (ha : argsG as ps) (hl : ps.length ≤ m_l N) (hc : ∃ u us, m_code N = u :: us) : ∃ r h', Run prog E V d N as h (r, h', 0, 0) ∧ Post r h' := by
  obtain ⟨r, h', k1, k2⟩ := g
  refine ⟨r, h', ⟨?_, hc, k1⟩, k2⟩
  rw [pexp_args ha, List.length_map, args_len ha]
  exact hl
/-- check: nothing waits then, and of the rest only what is beside -/
theorem check_x (H : HandU E pV1 JT) (x : Int32) (hh : HI HT h) (hj : JT h) : ∃ (r : Int32) (h' : List pC), Run prog E pV1 120 mX8_check [.ref 110, .int x] h (some (.int r), h', 0, 0) ∧ HI HT h' ∧ JT h' ∧ Fr (WCt ++ [(110, 110, 30, 30)]) h h' ∧ ri h' 110 30 = 0 := by
  obtain ⟨fs, ho, -⟩ := hi_obj hh HTm
  obtain ⟨c30, r30⟩ := m_fld hh (i := 30) (lo := 0) (hi := 60) rfl
  obtain ⟨x1, x2, x3⟩ := fld_put (i := 30) (lo := 0) (hi := 60) (v := 0) hh ho rfl (by decide)
  have hf0 : Fr [(110, 110, 30, 30)] h (h.set 110 (.inr (.inr (8, fs.set 30 (.int 0))))) := fun a i hi => x2 a i (fun q => by
    have := nin_iff.mp hi _ List.mem_cons_self
    dsimp only at this
    omega)
  have hj1 := JT_P _ _ _ (by decide) hf0 hj
  have g : Gl prog E pV1 (fun r h' => retG r (some (-2147483648, 2147483647)) ∧ HI HT h' ∧ JT h' ∧ Fr (WCt ++ [(110, 110, 30, 30)]) h h' ∧ ri h' 110 30 = 0) 120 mX8_check 0 (pent (m_l mX8_check) [.ref 110, .int x]) [] h [] := by
    have gt := check_tail (V := pV1) (d := 118) (L := [some (.ref 110), some (.int x), some (.int (ri h 110 30)), none, none]) H (by decide) x1 hj1 ⟨rfl, fun k p hk => by
      match k, hk with
      | 0, hk => cases hk; exact ⟨_, rfl, Or.inr ⟨110, List.mem_singleton.mpr rfl, rfl⟩⟩
      | 1, hk => cases hk; exact ⟨_, rfl, x, rfl, i32_lo x, i32_hi x⟩
      | 2, hk => cases hk; exact ⟨_, rfl, _, rfl, r30⟩
      | 3, hk => cases hk; exact rfl
      | 4, hk => cases hk; exact rfl
      | k + 5, hk => simp [ltCk] at hk⟩
    obtain ⟨r, h', k1, k2, k3, k4, k5⟩ := gt
    refine ⟨r, h', ?_, k2, k3, k5, (hf0.sub (by decide)).tr (k4.sub (by decide)), ?_⟩
    · refine RA.steps 1 rfl ?_
      refine RA.getf rfl ho rfl (fld_at ho c30) ?_
      refine RA.steps (i' := 5) (L' := [some (.ref 110), some (.int x), some (.int (ri h 110 30)), none, none]) (st' := [.int 0, .ref 110]) (h' := h) 3 rfl ?_
      exact RA.putf rfl ho rfl rfl k1
    · rw [ri_ct (k4 110 30 (nin_iff.mpr (by
        simp only [WCt, WKs, List.cons_append, List.nil_append, List.forall_mem_cons]
        exact ⟨by omega, by omega, by omega, by omega, fun _ h => absurd h List.not_mem_nil⟩)))]
      exact Int32.toInt_inj.mp (x3.trans (by decide))
  obtain ⟨r, h', q1, q2, q3⟩ := run_gl (ps := [.inr (false, [110]), .inl (-2147483648, 2147483647)]) g ⟨Or.inr ⟨110, List.mem_singleton.mpr rfl, rfl⟩, ⟨x, rfl, i32_lo x, i32_hi x⟩, trivial⟩ (Nat.le_of_ble_eq_true rfl) ⟨_, _, rfl⟩
  obtain ⟨v, rfl, -⟩ := (show ∃ v : Int32, r = some (.int v) ∧ _ from q2)
  exact ⟨v, h', q1, q3⟩
theorem text_x (hh : HI HT h) (hj : JT h) : ∃ (r : Int32) (h' : List pC), Run prog E pV1 120 mX8_text [.ref 110] h (some (.int r), h', 0, 0) ∧ HI HT h' ∧ JT h' ∧ Fr WTx h h' ∧ ri h' 110 15 = 0 := by
  have ha : argsG [.ref 110] [.inr (false, [110])] := ⟨Or.inr ⟨110, List.mem_singleton.mpr rfl, rfl⟩, trivial⟩
  obtain ⟨r, h', q1, q2, q3⟩ := run_gl (text_gl (E := E) (V := pV1) 120 [.ref 110] h (by decide) ha hh hj) ha (Nat.le_of_ble_eq_true rfl) ⟨_, _, rfl⟩
  obtain ⟨k1, k2, k3, k4⟩ := q2
  obtain ⟨v, rfl, -⟩ := (show ∃ v : Int32, r = some (.int v) ∧ _ from k1)
  exact ⟨v, h', q1, k2, k4, k3, Int32.toInt_inj.mp (q3.trans (by decide))⟩
/-- an image is kept: all of the state that counts -/
theorem keep_x (hh : HI HT h) (hj : JT h) : ∃ (h' : List pC), Run prog E pV1 120 mX8_keep [.ref 110] h (some (.int (ri h 111 0)), h', 0, 0) ∧ HI HT h' ∧ JT h' ∧ Fr WKe h h' ∧ (∀ j, j < 2875 → ri h' 112 j = ri h 111 j) ∧ ri h' 110 3 = 1 := by
  obtain ⟨fs, ho, hF⟩ := hi_obj hh HTm
  obtain ⟨x1, x2, x3⟩ := fld_put (i := 3) (lo := 0) (hi := 1) (v := 1) hh ho rfl (by decide)
  have hf0 : Fr [(110, 110, 3, 3)] h (h.set 110 (.inr (.inr (8, fs.set 3 (.int 1))))) := fun a i hi => x2 a i (fun q => by
    have := nin_iff.mp hi _ List.mem_cons_self
    dsimp only at this
    omega)
  obtain ⟨fs1, ho1, f0, f1⟩ := m_ob x1
  obtain ⟨h2, r2, q1, q2, q3, q4, q5⟩ := aside_g (E := E) (V := pV1) (d := 118) HT111 HT112 (by decide) x1
  have hf2 := fr_one (W := WKe) q2 (fun j hj => q4 j (by omega)) (by decide)
  have hj2 : JT h2 := jt_cp (Or.inl rfl) (Or.inl (fun j => ri_ct (q2 111 j (by decide)))) (Or.inr q3) (JT_P _ _ _ (by decide) hf0 hj)
  obtain ⟨o, ho2, hc2⟩ := mobj x1
  obtain ⟨fs3, ho3, g0, g1⟩ := m_ob q1
  obtain ⟨f, p1, u1, -⟩ := hi_int q1 HT111
  have e111 : ∀ j, ri h2 111 j = ri h 111 j := fun j => ri_ct ((q2 111 j (by decide)).trans (x2 111 j (fun q => by omega)))
  refine ⟨h2, ⟨Nat.le_of_ble_eq_true rfl, ⟨_, _, rfl⟩, ?_⟩, q1, hj2, (hf0.sub (by decide)).tr hf2, fun j hj => ?_, ?_⟩
  · refine RA.steps (i' := 2) (L' := [some (.ref 110)]) (st' := [.int 1, .ref 110]) (h' := h) 2 rfl ?_
    refine RA.putf rfl ho rfl rfl ?_
    refine RA.steps 2 rfl ?_
    refine RA.getf rfl ho1 rfl f0 ?_
    refine RA.steps 1 rfl ?_
    refine RA.getf rfl ho1 rfl f1 ?_
    refine RA.call0 (N := mX8_setAside) (as := [.ref 110, .ref 111, .ref 112]) (rest := []) rfl rfl (pcallV rfl rfl ho2 rfl hc2 (Nat.le_of_ble_eq_true rfl)) r2 ?_
    refine RA.steps 1 rfl ?_
    refine RA.getf rfl ho3 rfl g0 ?_
    refine RA.steps 1 rfl ?_
    refine RA.iald rfl p1 ⟨by decide, Nat.le_of_ble_eq_true rfl⟩ (show f 0 = ri h 111 0 by rw [← u1 0 (by decide)]; exact e111 0) ?_
    exact RA.ret rfl rfl
  · rw [q3 j hj]
    exact ri_ct (x2 111 j (fun q => by omega))
  · rw [ri_ct (q2 110 3 (by decide))]
    exact Int32.toInt_inj.mp (x3.trans (by decide))
/-- all is as the image, if there is one -/
theorem back_x (hh : HI HT h) (hj : JT h) : ∃ (h' : List pC), Run prog E pV1 120 mX8_back [.ref 110] h (some (.int (if ri h 110 3 = 0 then -1000000002 else ri h 112 0)), h', 0, 0) ∧ HI HT h' ∧ JT h' ∧ Fr WBa h h' ∧ (ri h 110 3 = 0 → ∀ j, ri h' 111 j = ri h 111 j) ∧ (¬ ri h 110 3 = 0 → ∀ j, j < 2875 → ri h' 111 j = ri h 112 j) := by
  obtain ⟨fs, ho, f0, f1⟩ := m_ob hh
  obtain ⟨c3, -⟩ := m_fld hh (i := 3) (lo := 0) (hi := 1) rfl
  by_cases e : ri h 110 3 = 0
  · refine ⟨h, ⟨Nat.le_of_ble_eq_true rfl, ⟨_, _, rfl⟩, ?_⟩, hh, hj, Fr.rf _ _, fun _ _ => rfl, fun n => absurd e n⟩
    rw [if_pos e]
    refine RA.steps 1 rfl ?_
    refine RA.getf rfl ho rfl (fld_at ho c3) ?_
    refine RA.if1F rfl (by rw [e]; rfl) ?_
    refine RA.steps 1 rfl ?_
    exact RA.ret rfl rfl
  · obtain ⟨h2, r2, q1, q2, q3, q4, q5⟩ := aside_g (E := E) (V := pV1) (d := 118) HT112 HT111 (by decide) hh
    have hf2 := fr_one (W := WBa) q2 (fun j hj => q4 j (by omega)) (by decide)
    have hj2 : JT h2 := jt_cp (Or.inr rfl) (Or.inr q3) (Or.inl (fun j => ri_ct (q2 112 j (by decide)))) hj
    obtain ⟨o, ho2, hc2⟩ := mobj hh
    obtain ⟨fs3, ho3, g0, g1⟩ := m_ob q1
    obtain ⟨f, p1, u1, -⟩ := hi_int q1 HT111
    refine ⟨h2, ⟨Nat.le_of_ble_eq_true rfl, ⟨_, _, rfl⟩, ?_⟩, q1, hj2, hf2, fun n => absurd n e, fun _ j hj => q3 j hj⟩
    rw [if_neg e]
    refine RA.steps 1 rfl ?_
    refine RA.getf rfl ho rfl (fld_at ho c3) ?_
    refine RA.if1T rfl (decide_eq_true e) ?_
    refine RA.steps 2 rfl ?_
    refine RA.getf rfl ho rfl f1 ?_
    refine RA.steps 1 rfl ?_
    refine RA.getf rfl ho rfl f0 ?_
    refine RA.call0 (N := mX8_setAside) (as := [.ref 110, .ref 112, .ref 111]) (rest := []) rfl rfl (pcallV rfl rfl ho2 rfl hc2 (Nat.le_of_ble_eq_true rfl)) r2 ?_
    refine RA.steps 1 rfl ?_
    refine RA.getf rfl ho3 rfl g0 ?_
    refine RA.steps 1 rfl ?_
    refine RA.iald rfl p1 ⟨by decide, Nat.le_of_ble_eq_true rfl⟩ (show f 0 = ri h 112 0 by rw [← u1 0 (by decide)]; exact q3 0 (by decide)) ?_
    exact RA.ret rfl rfl
end EXA
