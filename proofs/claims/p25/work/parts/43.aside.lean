/-! ===== images: setAside, keep, back, check ===== -/
section ASD
variable {E : pX} {V : pV} {h : List pC} {Post : Option Value → List pC → Prop}
def sgS : List (Nat × Nat × Int × Int) := (HT.getD 112 (.inl (0, []))).elim (fun t => t.2) (fun _ => [])
/-- one whole row becomes as another -/
theorem aside_g {A B d : Nat} (hA : HT[A]? = some (.inl (3075, sgS))) (hB : HT[B]? = some (.inl (3075, sgS))) (hAB : B ≠ A) (hh : HI HT h) : ∃ h', Run prog E V (d + 1) mX8_setAside [.ref 110, .ref A, .ref B] h (none, h', 0, 0) ∧ HI HT h' ∧ (∀ b j, b ≠ B → ct h' b j = ct h b j) ∧ (∀ j, j < 2875 → ri h' B j = ri h A j) ∧ (∀ j, ¬ j < 2875 → ct h' B j = ct h B j) ∧ (∀ j, j < 3075 → ∃ v, ct h' B j = some (.int v)) := by
  obtain ⟨f, p1, r1, s1⟩ := hi_int hh hA
  obtain ⟨g, p2, r2, s2⟩ := hi_int hh hB
  have hr := sa_x (E := E) (V := V) (d := d) (this := 110) hAB (Nat.le_of_ble_eq_true rfl) (Nat.le_of_ble_eq_true rfl) p1 p2
  obtain ⟨k1, k2, k3, k4⟩ := setI_ok (g := cpN 2875 f g) hh hB p2 (fun s hs i i1 i2 i3 => by
    unfold cpN
    split
    · exact s1 s hs i i1 i2 i3
    · exact s2 s hs i i1 i2 i3)
  refine ⟨_, hr, k1, k3, fun j hj => ?_, fun j hj => k4 j (Or.inr (if_neg hj)), fun j hj => ⟨_, ct_ri (pint_set (pint_lt p2)) hj⟩⟩
  rw [k2 j (by omega), r1 j (by omega)]
  exact if_pos hj
theorem fr_one {W : aW} {B : Nat} {h1 h2 : List pC} (hc : ∀ b j, b ≠ B → ct h2 b j = ct h1 b j) (hl : ∀ j, ¬ j < 3075 → ct h2 B j = ct h1 B j) (hs : subW [(B, B, 0, 3074)] W = true) : Fr W h1 h2 := fun a i hi => by
  by_cases e : a = B
  · subst e
    refine hl i (fun hlt => ?_)
    have h1 := subW_ok hs hi
    rw [show inW [(a, a, 0, 3074)] a i = true from List.any_eq_true.mpr ⟨_, List.mem_cons_self, by simp only [Bool.and_eq_true, decide_eq_true_eq]; omega⟩] at h1
    cases h1
  · exact hc a i e
theorem gl_aside {A B d i pc n : Nat} {v : Value} {ts : List Nat} {N : pM} {L : pL} {h1 : List pC} (he : (m_code N)[i]? = some (pc, .invokevirtual n, 239, 2, v, ts)) (hA : HT[A]? = some (.inl (3075, sgS))) (hB : HT[B]? = some (.inl (3075, sgS))) (hAB : B ≠ A) (hh : HI HT h1) (k : ∀ h2, HI HT h2 → (∀ b j, b ≠ B → ct h2 b j = ct h1 b j) → (∀ j, j < 2875 → ri h2 B j = ri h1 A j) → (∀ j, ¬ j < 2875 → ct h2 B j = ct h1 B j) → (∀ j, j < 3075 → ∃ v, ct h2 B j = some (.int v)) → Gl prog E V Post (d + 2) N (i + 1) L [] h2 []) : Gl prog E V Post (d + 2) N i L [.ref B, .ref A, .ref 110] h1 [] := by
  obtain ⟨h2, r2, q1, q2, q3, q4, q5⟩ := aside_g (E := E) (V := V) (d := d) hA hB hAB hh
  obtain ⟨o, ho, hc⟩ := mobj hh
  exact Gl.con (N := mX8_setAside) (as := [.ref 110, .ref A, .ref B]) (rest := []) he rfl (pcallV rfl rfl ho rfl hc (Nat.le_of_ble_eq_true rfl)) (Or.inl r2) (k h2 q1 q2 q3 q4 q5)
theorem jt_cp {h1 h2 : List pC} {A : Nat} (hA : A = 111 ∨ A = 112) (c111 : (∀ j, ri h2 111 j = ri h1 111 j) ∨ (∀ j, j < 2875 → ri h2 111 j = ri h1 A j)) (c112 : (∀ j, ri h2 112 j = ri h1 112 j) ∨ (∀ j, j < 2875 → ri h2 112 j = ri h1 A j)) (hj : JT h1) : JT h2 := by
  have hT : TI (ri h1 A) := by
    rcases hA with rfl | rfl
    · exact hj.1
    · exact hj.2
  constructor
  · rcases c111 with c | c
    · exact TI_eq (c 1) (fun j _ _ => c j) hj.1
    · exact TI_eq (c 1 (by omega)) (fun j _ h2 => c j h2) hT
  · rcases c112 with c | c
    · exact TI_eq (c 1) (fun j _ _ => c j) hj.2
    · exact TI_eq (c 1 (by omega)) (fun j _ h2 => c j h2) hT
def WKe : aW := [(112, 112, 0, 3074), (110, 110, 3, 3)]
def WBa : aW := [(111, 111, 0, 3074)]
def WCh : aW := WKs ++ [(113, 113, 0, 3074), (129, 129, 0, 59), (110, 110, 30, 30)]
theorem hd_keep : KGi E V JT 241 ([.inr (false, [110])], some (-2147483648, 2147483647), WKe, 50) := by
  refine kg_gl (N := mX8_keep) rfl ⟨_, _, rfl⟩ (Nat.le_of_ble_eq_true rfl) (fun d as h hd ha hh hj => ?_)
  obtain ⟨d, rfl⟩ : ∃ d', d = d' + 2 := ⟨d - 2, by omega⟩
  refine sg_use sg_ke1 rfl no_kc rfl hj hd (args_lt 1 0 ha rfl) trivial hh (fun r h' hr _ _ => (no_ret hr).elim) (fun z hz L1 st1 h1 hL1 hst1 hh1 hf1 => ?_)
  obtain rfl := List.mem_singleton.mp hz
  obtain rfl := at3 hst1
  have hj1 : JT h1 := JT_P _ _ _ (by decide) hf1 hj
  refine gl_aside rfl HT111 HT112 (by decide) hh1 (fun h2 q1 q2 q3 q4 q5 => ?_)
  have hj2 : JT h2 := jt_cp (Or.inl rfl) (Or.inl (fun j => ri_ct (q2 111 j (by decide)))) (Or.inr q3) hj1
  refine sg_use sg_ke2 rfl no_kc rfl hj2 hd hL1 trivial q1 (fun r h' hr hh' hf => ⟨hr, hh', ?_, JT_P [] _ _ rfl hf hj2⟩) (fun z hz => by cases hz)
  exact ((hf1.sub (by decide)).tr (fr_one q2 (fun j hj => q4 j (by omega)) (by decide))).tr (hf.sub rfl)
theorem hd_back : KGi E V JT 242 ([.inr (false, [110])], some (-2147483648, 2147483647), WBa, 50) := by
  refine kg_gl (N := mX8_back) rfl ⟨_, _, rfl⟩ (Nat.le_of_ble_eq_true rfl) (fun d as h hd ha hh hj => ?_)
  obtain ⟨d, rfl⟩ : ∃ d', d = d' + 2 := ⟨d - 2, by omega⟩
  refine sg_use sg_ba1 rfl no_kc rfl hj hd (args_lt 1 0 ha rfl) trivial hh (fun r h' hr hh' hf => ⟨hr, hh', hf.sub rfl, JT_P [] _ _ rfl hf hj⟩) (fun z hz L1 st1 h1 hL1 hst1 hh1 hf1 => ?_)
  obtain rfl := List.mem_singleton.mp hz
  obtain rfl := at3 hst1
  have hj1 : JT h1 := JT_P _ _ _ (by decide) hf1 hj
  refine gl_aside rfl HT112 HT111 (by decide) hh1 (fun h2 q1 q2 q3 q4 q5 => ?_)
  have hj2 : JT h2 := jt_cp (Or.inr rfl) (Or.inr q3) (Or.inl (fun j => ri_ct (q2 112 j (by decide)))) hj1
  refine sg_use sg_ba2 rfl no_kc rfl hj2 hd hL1 trivial q1 (fun r h' hr hh' hf => ⟨hr, hh', ?_, JT_P [] _ _ rfl hf hj2⟩) (fun z hz => by cases hz)
  exact ((hf1.sub rfl).tr (fr_one q2 (fun j hj => q4 j (by omega)) (by decide))).tr (hf.sub rfl)
theorem hd_check (H : HandU E V JT) : KGi E V JT 240 ([.inr (false, [110]), .inl (-2147483648, 2147483647)], some (-2147483648, 2147483647), WCh, 50) := by
  refine kg_gl (N := mX8_check) rfl ⟨_, _, rfl⟩ (Nat.le_of_ble_eq_true rfl) (fun d as h hd ha hh hj => ?_)
  obtain ⟨d, rfl⟩ : ∃ d', d = d' + 2 := ⟨d - 2, by omega⟩
  refine sg_use sg_ch1 rfl no_kc rfl hj hd (args_lt 5 3 ha rfl) trivial hh (fun r h' hr hh' hf => ⟨hr, hh', hf.sub (by decide), JT_P _ _ _ (by decide) hf hj⟩) (fun z hz L1 st1 h1 hL1 hst1 hh1 hf1 => ?_)
  obtain rfl := List.mem_singleton.mp hz
  obtain rfl := at3 hst1
  have hj1 : JT h1 := JT_P _ _ _ (by decide) hf1 hj
  refine gl_aside rfl HT111 HT113 (by decide) hh1 (fun h2 q1 q2 q3 q4 q5 => ?_)
  have hj2 : JT h2 := jt_cp (A := 111) (Or.inl rfl) (Or.inl (fun j => ri_ct (q2 111 j (by decide)))) (Or.inl (fun j => ri_ct (q2 112 j (by decide)))) hj1
  refine sg_use sg_ch2 rfl no_kc rfl hj2 hd hL1 trivial q1 (fun r h' hr _ _ => (no_ret hr).elim) (fun z hz L3 st3 h3 hL3 hst3 hh3 hf3 => ?_)
  obtain rfl := List.mem_singleton.mp hz
  obtain rfl := at3 hst3
  have hj3 : JT h3 := JT_P _ _ _ (by decide) hf3 hj2
  refine gl_aside rfl HT112 HT111 (by decide) hh3 (fun h4 u1 u2 u3 u4 u5 => ?_)
  have hj4 : JT h4 := jt_cp (Or.inr rfl) (Or.inr u3) (Or.inl (fun j => ri_ct (u2 112 j (by decide)))) hj3
  refine sg_use sg_ch3 rfl (ks_look JT_P H) (by decide) hj4 hd hL3 trivial u1 (fun r h' hr _ _ => (no_ret hr).elim) (fun z hz L5 st5 h5 hL5 hst5 hh5 hf5 => ?_)
  obtain rfl := List.mem_singleton.mp hz
  obtain rfl := at3 hst5
  refine gl_aside rfl HT113 HT111 (by decide) hh5 (fun h6 w1 w2 w3 w4 w5 => ?_)
  -- the row is as it was
  have e113 : ∀ j, ct h5 113 j = ct h2 113 j := fun j => by
    rw [hf5 113 j (nin_iff.mpr (by
      simp only [WKs, WS, List.cons_append, List.nil_append, List.forall_mem_cons]
      exact ⟨by omega, by omega, by omega, by omega, by omega, fun _ h => absurd h List.not_mem_nil⟩)), u2 113 j (by decide), hf3 113 j rfl]
  have e111 : ∀ j, ct h6 111 j = ct h 111 j := fun j => by
    have a1 : ct h1 111 j = ct h 111 j := hf1 111 j (nin_iff.mpr (by
      simp only [List.forall_mem_cons]
      exact ⟨by omega, fun _ h => absurd h List.not_mem_nil⟩))
    by_cases hj : j < 2875
    · obtain ⟨v, hv⟩ := w5 j (by omega)
      have r1 : ri h6 111 j = ri h1 111 j := by rw [w3 j hj, ri_ct (e113 j), q3 j hj]
      obtain ⟨f1, p1, -, -⟩ := hi_int hh1 HT111
      have c1 := ct_ri p1 (show j < 3075 by omega)
      rw [hv, ← a1, c1]
      have r2 : ri h6 111 j = v := by unfold ri; rw [hv]
      have r3 : ri h1 111 j = f1 j := by unfold ri; rw [c1]
      rw [← r2, ← r3, r1]
    · rw [w4 j hj, hf5 111 j (nin_iff.mpr (by
        simp only [WKs, WS, List.cons_append, List.nil_append, List.forall_mem_cons]
        exact ⟨by omega, by omega, by omega, by omega, by omega, fun _ h => absurd h List.not_mem_nil⟩)), u4 j hj, hf3 111 j rfl, q2 111 j (by decide)]
      exact a1
  have hf6 : Fr WCh h h6 := fun a i hi => by
    have hi2 := nin_iff.mp hi
    simp only [WCh, WKs, List.cons_append, List.nil_append, List.forall_mem_cons] at hi2
    obtain ⟨n1, n2, n3, n4, n5, -⟩ := hi2
    by_cases e : a = 111
    · subst e
      exact e111 i
    · rw [w2 a i e, hf5 a i (nin_iff.mpr (by
        simp only [WKs, WS, List.cons_append, List.nil_append, List.forall_mem_cons]
        exact ⟨by omega, by omega, by omega, by omega, by omega, fun _ h => absurd h List.not_mem_nil⟩)), u2 a i e, hf3 a i rfl]
      have e1 : ct h1 a i = ct h a i := hf1 a i (nin_iff.mpr (by
        simp only [List.forall_mem_cons]
        exact ⟨by omega, fun _ h => absurd h List.not_mem_nil⟩))
      by_cases e3 : a = 113
      · subst e3
        rw [q4 i (by omega)]
        exact e1
      · rw [q2 a i e3]
        exact e1
  have e112 : ∀ j, ct h6 112 j = ct h 112 j := fun j => hf6 112 j (nin_iff.mpr (by
    simp only [WCh, WKs, List.cons_append, List.nil_append, List.forall_mem_cons]
    exact ⟨by omega, by omega, by omega, by omega, by omega, fun _ h => absurd h List.not_mem_nil⟩))
  have hj6 : JT h6 := ⟨TI_eq (ri_ct (e111 1)) (fun j _ _ => ri_ct (e111 j)) hj.1, TI_eq (ri_ct (e112 1)) (fun j _ _ => ri_ct (e112 j)) hj.2⟩
  exact sg_use sg_ch4 rfl no_kc rfl hj6 hd hL5 trivial w1 (fun r h' hr hh' hf => ⟨hr, hh', hf6.tr (hf.sub rfl), JT_P [] _ _ rfl hf hj6⟩) (fun z hz => by cases hz)
end ASD
