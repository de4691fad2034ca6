/-! ===== contracts of gains, fee, fine ===== -/
section GNS
variable {E : pX} {V : pV} {h : List pC} {Post : Option Value → List pC → Prop}
/-- which text counts is asked here -/
theorem gl_counts {d i pc n : Nat} {v : Value} {ts : List Nat} {N : pM} {L : pL} {h1 : List pC} {key : Int32} (he : (m_code N)[i]? = some (pc, .invokevirtual n, 222, 1, v, ts)) (hh : HI HT h1) (k : ∀ (c : Nat) (w : Int32), c ≤ 14 → ri h1 111 1 = nI c → cnV c w → Gl prog E V Post (d + 3) N (i + 1) L [.int w] h1 []) : Gl prog E V Post (d + 3) N i L [.int key, .ref 110] h1 [] := by
  obtain ⟨c, w, c1, c2, c3, hr⟩ := counts_x (E := E) (V := V) (d := d) key hh
  obtain ⟨o, ho, hc⟩ := mobj hh
  exact Gl.con (N := mX8_counts) (as := [.ref 110, .int key]) (rest := []) he rfl (pcallV rfl rfl ho rfl hc (Nat.le_of_ble_eq_true rfl)) (Or.inl hr) (k c w c1 c2 c3)
theorem gl_worked {d i pc n : Nat} {v : Value} {ts : List Nat} {N : pM} {L : pL} {h1 : List pC} {t : Nat} (he : (m_code N)[i]? = some (pc, .invokevirtual n, 225, 1, v, ts)) (ht : t < 14) (hh : HI HT h1) (hj : TI (ri h1 111)) (hc : (t : Int) < (ri h1 111 1).toInt) (k : ∀ (r : Int32) (h2 : List pC), HI HT h2 → Fr WPi h1 h2 → Gl prog E V Post (d + 11) N (i + 1) L [.int r] h2 []) : Gl prog E V Post (d + 11) N i L [.int (nI t), .ref 110] h1 [] := by
  obtain ⟨r, h2, hr, q1, q2⟩ := worked_x (E := E) (V := V) (d := d) ht hh hj hc
  obtain ⟨o, ho, hc⟩ := mobj hh
  exact Gl.con (N := mX8_worked) (as := [.ref 110, .int (nI t)]) (rest := []) he rfl (pcallV rfl rfl ho rfl hc (Nat.le_of_ble_eq_true rfl)) (Or.inl hr) (k r h2 q1 q2)
theorem ar_two {a : Nat} {x : Int} {st : List Value} (h : argsG st [.inl (x, x), .inr (false, [a])]) : ∃ v : Int32, st = [.int v, .ref a] ∧ v.toInt = x := by
  match st, h with
  | [u, w], h =>
    obtain ⟨⟨v, rfl, h1, h2⟩, h3, -⟩ := h
    have e := at1 (a := a) (st := [w]) ⟨h3, trivial⟩
    cases e
    exact ⟨v, rfl, by dsimp only at h1 h2; omega⟩
theorem ar_one {w : Int32} {x : Int} (h : w.toInt = x) : argsG [.int w] [.inl (x, x)] := ⟨⟨w, rfl, by dsimp only; omega, by dsimp only; omega⟩, trivial⟩
theorem ar_top (w : Int32) : argsG [.int w] [.inl (-2147483648, 2147483647)] := ⟨⟨w, rfl, i32_lo w, i32_hi w⟩, trivial⟩
theorem s125 {h1 h2 : List pC} (hf : Fr [(125, 125, 0, 127)] h1 h2) (i : Nat) : ri h2 111 i = ri h1 111 i := ri_ct (hf 111 i (nin_iff.mpr (by
  simp only [List.forall_mem_cons]
  exact ⟨by omega, fun _ h => absurd h List.not_mem_nil⟩)))
theorem ti_same {h1 h2 : List pC} (e : ∀ i, ri h2 111 i = ri h1 111 i) (h : TI (ri h1 111)) : TI (ri h2 111) := TI_eq (e 1) (fun j _ _ => e j) h
/-- what such a call leaves behind: the names and the pile alone may be otherwise -/
theorem wk_end {W : aW} {h1 h2 h3 : List pC} {r : Option Value} (hj : JT h) (h0 : Fr [] h h1) (hf1 : Fr [(125, 125, 0, 127)] h1 h2) (hf2 : Fr WPi h2 h3) (hs : subW WKs W = true) {h4 : List pC} (hf3 : Fr [] h3 h4) (hh : HI HT h4) (hr : retG r (some (-2147483648, 2147483647))) : LPo W h r h4 := by
  have hf : Fr WKs h h4 := (((h0.sub rfl).tr (hf1.sub (by decide))).tr (hf2.sub (by decide))).tr (hf3.sub rfl)
  exact ⟨hr, hh, hf.sub hs, JT_P _ _ _ (by decide) hf hj⟩
theorem hd_gains : KGi E V JT 159 k_m_gains := by
  refine kg_gl (N := mX8_gains) rfl ⟨_, _, rfl⟩ (Nat.le_of_ble_eq_true rfl) (fun d as h hd ha hh hj => ?_)
  obtain ⟨d, rfl⟩ : ∃ d', d = d' + 11 := ⟨d - 11, by omega⟩
  refine sg_use sg_ga1 rfl no_kc rfl hj (by omega) (args_lt 4 2 ha rfl) trivial hh (fun r h' hr _ _ => (no_ret hr).elim) (fun z hz L1 st1 h1 hL1 hst1 hh1 hf1 => ?_)
  obtain rfl := List.mem_singleton.mp hz
  obtain ⟨key, rfl, -⟩ := ar_two hst1
  refine gl_counts (d := d + 8) rfl hh1 (fun c w c1 c2 c3 => ?_)
  have hj1 : JT h1 := JT_P _ _ _ rfl hf1 hj
  rcases c3 with rfl | ⟨t, ht, rfl⟩
  · exact sg_use sg_ga3 rfl no_kc rfl hj1 (by omega) hL1 (ar_one rfl) hh1 (fun r h' hr hh' hf => ⟨hr, hh', (hf1.sub rfl).tr (hf.sub rfl), JT_P _ _ _ rfl hf hj1⟩) (fun z hz => by cases hz)
  · refine sg_use (sg_ga2 t (by omega)) rfl no_kc (by decide) hj1 (by omega) hL1 (ar_one (nI_toInt (by omega))) hh1 (fun r h' hr _ _ => (no_ret hr).elim) (fun z hz L2 st2 h2 hL2 hst2 hh2 hf2 => ?_)
    obtain rfl := List.mem_singleton.mp hz
    obtain ⟨v, rfl, hv⟩ := ar_two hst2
    obtain rfl := toI (n := t) (by omega) hv
    refine gl_worked rfl (by omega) hh2 (ti_same (s125 hf2) hj1.1) (by rw [s125 hf2, c2, nI_toInt (by omega)]; omega) (fun r h3 hh3 hf3 => ?_)
    have hj3 : JT h3 := JT_P _ _ _ (by decide) ((hf2.sub (W2 := WKs) (by decide)).tr (hf3.sub (by decide))) hj1
    exact sg_use sg_ga4 rfl no_kc rfl hj3 (by omega) hL2 (ar_top r) hh3 (fun r h' hr hh' hf => wk_end hj hf1 hf2 hf3 (by decide) hf hh' hr) (fun z hz => by cases hz)
theorem hd_fee : KGi E V JT 201 k_r_fee := by
  refine kg_gl (N := mX8_fee) rfl ⟨_, _, rfl⟩ (Nat.le_of_ble_eq_true rfl) (fun d as h hd ha hh hj => ?_)
  obtain ⟨d, rfl⟩ : ∃ d', d = d' + 11 := ⟨d - 11, by omega⟩
  refine sg_use sg_fe1 rfl no_kc rfl hj (by omega) (args_lt 2 1 ha rfl) trivial hh (fun r h' hr _ _ => (no_ret hr).elim) (fun z hz L1 st1 h1 hL1 hst1 hh1 hf1 => ?_)
  obtain rfl := List.mem_singleton.mp hz
  obtain ⟨key, rfl, -⟩ := ar_two hst1
  refine gl_counts (d := d + 8) rfl hh1 (fun c w c1 c2 c3 => ?_)
  have hj1 : JT h1 := JT_P _ _ _ rfl hf1 hj
  rcases c3 with rfl | ⟨t, ht, rfl⟩
  · exact sg_use sg_fe3 rfl no_kc rfl hj1 (by omega) hL1 (ar_one rfl) hh1 (fun r h' hr hh' hf => ⟨hr, hh', (hf1.sub rfl).tr (hf.sub rfl), JT_P _ _ _ rfl hf hj1⟩) (fun z hz => by cases hz)
  · refine sg_use (sg_fe2 t (by omega)) rfl no_kc (by decide) hj1 (by omega) hL1 (ar_one (nI_toInt (by omega))) hh1 (fun r h' hr _ _ => (no_ret hr).elim) (fun z hz L2 st2 h2 hL2 hst2 hh2 hf2 => ?_)
    obtain rfl := List.mem_singleton.mp hz
    obtain ⟨v, rfl, hv⟩ := ar_two hst2
    obtain rfl := toI (n := t) (by omega) hv
    refine gl_worked rfl (by omega) hh2 (ti_same (s125 hf2) hj1.1) (by rw [s125 hf2, c2, nI_toInt (by omega)]; omega) (fun r h3 hh3 hf3 => ?_)
    have hj3 : JT h3 := JT_P _ _ _ (by decide) ((hf2.sub (W2 := WKs) (by decide)).tr (hf3.sub (by decide))) hj1
    exact sg_use sg_fe4 rfl no_kc rfl hj3 (by omega) hL2 (ar_top r) hh3 (fun r h' hr hh' hf => wk_end hj hf1 hf2 hf3 (by decide) hf hh' hr) (fun z hz => by cases hz)
theorem hd_fine : KGi E V JT 202 k_r_fine := by
  refine kg_gl (N := mX8_fine) rfl ⟨_, _, rfl⟩ (Nat.le_of_ble_eq_true rfl) (fun d as h hd ha hh hj => ?_)
  obtain ⟨d, rfl⟩ : ∃ d', d = d' + 11 := ⟨d - 11, by omega⟩
  refine sg_use sg_fi1 rfl no_kc rfl hj (by omega) (args_lt 3 1 ha rfl) trivial hh (fun r h' hr hh' hf => ⟨hr, hh', hf.sub rfl, JT_P _ _ _ rfl hf hj⟩) (fun z hz L1 st1 h1 hL1 hst1 hh1 hf1 => ?_)
  obtain rfl := List.mem_singleton.mp hz
  obtain ⟨key, rfl, -⟩ := ar_two hst1
  refine gl_counts (d := d + 8) rfl hh1 (fun c w c1 c2 c3 => ?_)
  have hj1 : JT h1 := JT_P _ _ _ rfl hf1 hj
  rcases c3 with rfl | ⟨t, ht, rfl⟩
  · exact sg_use sg_fi3 rfl no_kc rfl hj1 (by omega) hL1 (ar_one rfl) hh1 (fun r h' hr hh' hf => ⟨hr, hh', (hf1.sub rfl).tr (hf.sub rfl), JT_P _ _ _ rfl hf hj1⟩) (fun z hz => by cases hz)
  · refine sg_use (sg_fi2 t (by omega)) rfl no_kc (by decide) hj1 (by omega) hL1 (ar_one (nI_toInt (by omega))) hh1 (fun r h' hr _ _ => (no_ret hr).elim) (fun z hz L2 st2 h2 hL2 hst2 hh2 hf2 => ?_)
    obtain rfl := List.mem_singleton.mp hz
    obtain ⟨v, rfl, hv⟩ := ar_two hst2
    obtain rfl := toI (n := t) (by omega) hv
    refine gl_worked rfl (by omega) hh2 (ti_same (s125 hf2) hj1.1) (by rw [s125 hf2, c2, nI_toInt (by omega)]; omega) (fun r h3 hh3 hf3 => ?_)
    have hj3 : JT h3 := JT_P _ _ _ (by decide) ((hf2.sub (W2 := WKs) (by decide)).tr (hf3.sub (by decide))) hj1
    exact sg_use sg_fi4 rfl no_kc rfl hj3 (by omega) hL2 (ar_top r) hh3 (fun r h' hr hh' hf => wk_end hj hf1 hf2 hf3 (by decide) hf hh' hr) (fun z hz => by cases hz)
end GNS
