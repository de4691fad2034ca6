/-! ===== the reference's copy: its bounds ===== -/
section CPR
variable {E : pX} {V : pV} {h : List pC} {Post : Option Value → List pC → Prop}
theorem iv_of {L : pL} {ts : lTy} {k : Nat} {lo hi : Int} (h : ltG L ts) (hk : ts[k]? = some (some (.inl (lo, hi)))) : ∃ v : Int32, pget L k = some (.int v) ∧ lo ≤ v.toInt ∧ v.toInt ≤ hi := by
  obtain ⟨w, hw, v, rfl, h1, h2⟩ := h.2 k _ hk
  exact ⟨v, hw, h1, h2⟩
theorem rf_of {L : pL} {ts : lTy} {k a : Nat} (h : ltG L ts) (hk : ts[k]? = some (some (.inr (false, [a])))) : pget L k = some (.ref a) := by
  obtain ⟨w, hw, hq | ⟨b, hb, rfl⟩⟩ := h.2 k _ hk
  · exact absurd hq.1 Bool.false_ne_true
  · rw [hw, List.mem_singleton.mp hb]
theorem seven {L : pL} (h : L.length = 7) : ∃ a b c d e f g, L = [a, b, c, d, e, f, g] := by
  match L, h with
  | [a, b, c, d, e, f, g], _ => exact ⟨a, b, c, d, e, f, g, rfl⟩
theorem lt7 {o6 : Option Value} {v1 v2 v3 v4 v5 : Int32} {p1 p2 p3 p4 p5 : Int × Int} (h1 : p1.1 ≤ v1.toInt ∧ v1.toInt ≤ p1.2) (h2 : p2.1 ≤ v2.toInt ∧ v2.toInt ≤ p2.2) (h3 : p3.1 ≤ v3.toInt ∧ v3.toInt ≤ p3.2) (h4 : p4.1 ≤ v4.toInt ∧ v4.toInt ≤ p4.2) (h5 : p5.1 ≤ v5.toInt ∧ v5.toInt ≤ p5.2) (h6 : pcat2 o6 = false) : ltG [some (.ref 110), some (.int v1), some (.int v2), some (.int v3), some (.int v4), some (.int v5), o6] [some (.inr (false, [110])), some (.inl p1), some (.inl p2), some (.inl p3), some (.inl p4), some (.inl p5), none] := by
  refine ⟨rfl, fun k p hk => ?_⟩
  match k, hk with
  | 0, hk => cases hk; exact ⟨_, rfl, Or.inr ⟨110, List.mem_cons_self, rfl⟩⟩
  | 1, hk => cases hk; exact ⟨_, rfl, v1, rfl, h1⟩
  | 2, hk => cases hk; exact ⟨_, rfl, v2, rfl, h2⟩
  | 3, hk => cases hk; exact ⟨_, rfl, v3, rfl, h3⟩
  | 4, hk => cases hk; exact ⟨_, rfl, v4, rfl, h4⟩
  | 5, hk => cases hk; exact ⟨_, rfl, v5, rfl, h5⟩
  | 6, hk => cases hk; exact h6
  | k + 7, hk => simp at hk
/-- longs: the sum of two that are not below 0, against a number of places -/
theorem lsum {a b c : Int32} (ha : 0 ≤ a.toInt) (hb : 0 ≤ b.toInt) (h : ¬ (0 : Int32) < lg_cmp (a.toInt64 + b.toInt64) c.toInt64) : a.toInt + b.toInt ≤ c.toInt := by
  have h1 := (lgc_le' _ _).mp (Int32.not_lt.mp h)
  have h2 := Int64.le_iff_toInt_le.mp h1
  have u1 := i32_hi a
  have u2 := i32_hi b
  unfold MI at u1 u2
  rw [Int64.toInt_add, Int32.toInt_toInt64, Int32.toInt_toInt64, Int32.toInt_toInt64, bm64 (by omega) (by omega)] at h2
  exact h2
theorem m_obj5 (hh : HI HT h) : ∃ fs : List Value, pobj h 110 = some (8, fs) ∧ fs[5]? = some (.ref 115) := by
  obtain ⟨xs, t0, t1⟩ : ∃ xs, HT[110]? = some (.inr (.inr (8, xs))) ∧ xs[5]? = some (5, 0, 0, 115) := ⟨_, rfl, rfl⟩
  obtain ⟨fs, ho, hF⟩ := hi_obj hh t0
  exact ⟨fs, ho, hF.ref t1⟩
theorem i0_of {v : Int32} (h : ¬ v < 0) : 0 ≤ v.toInt := by
  have := Int32.le_iff_toInt_le.mp (Int32.not_lt.mp h)
  exact this
def WCo : aW := [(116, 116, 0, 95), (127, 127, 0, 23)]
theorem hd_copy : KGi E V JT 232 ([.inr (false, [110]), .inl (-2147483648, 2147483647), .inl (-2147483648, 2147483647), .inl (-2147483648, 2147483647), .inl (-2147483648, 2147483647), .inl (-2147483648, 2147483647)], some (-2147483648, 2147483647), WCo, 50) := by
  refine kg_gl (N := mX8_copy) rfl ⟨_, _, rfl⟩ (Nat.le_of_ble_eq_true rfl) (fun d as h hd ha hh hj => ?_)
  obtain ⟨d, rfl⟩ : ∃ d', d = d' + 2 := ⟨d - 2, by omega⟩
  refine sg_use sg_co1 rfl no_kc rfl hj hd (args_lt 7 1 ha rfl) trivial hh (fun r h' hr hh' hf => ⟨hr, hh', hf.sub rfl, JT_P [] _ _ rfl hf hj⟩) (fun z hz L1 st1 h1 hL1 hst1 hh1 hf1 => ?_)
  obtain rfl := List.mem_singleton.mp hz
  match st1, hst1 with
  | [], _ =>
    have hj1 : JT h1 := JT_P [] _ _ rfl hf1 hj
    obtain ⟨a0, a1, a2, a3, a4, a5, a6, rfl⟩ := seven hL1.1
    obtain rfl : a0 = _ := rf_of (k := 0) hL1 rfl
    obtain ⟨v1, q1, w1⟩ := iv_of (k := 1) hL1 rfl
    obtain ⟨v2, q2, w2⟩ := iv_of (k := 2) hL1 rfl
    obtain ⟨v3, q3, w3⟩ := iv_of (k := 3) hL1 rfl
    obtain ⟨v4, q4, w4⟩ := iv_of (k := 4) hL1 rfl
    obtain ⟨v5, q5, w5⟩ := iv_of (k := 5) hL1 rfl
    have q6 : pcat2 a6 = false := hL1.2 6 none rfl
    obtain rfl : a1 = _ := q1
    obtain rfl : a2 = _ := q2
    obtain rfl : a3 = _ := q3
    obtain rfl : a4 = _ := q4
    obtain rfl : a5 = _ := q5
    have bad : Gl prog E V (LPo WCo h) (d + 2) mX8_copy 61 [some (.ref 110), some (.int v1), some (.int v2), some (.int v3), some (.int v4), some (.int v5), a6] [] h1 [] := sg_use sg_co2 rfl no_kc rfl hj1 hd hL1 trivial hh1 (fun r h' hr hh' hf => ⟨hr, hh', (hf1.sub rfl).tr (hf.sub rfl), JT_P [] _ _ rfl hf hj1⟩) (fun z hz => by cases hz)
    obtain ⟨fs, ho, f5⟩ := m_obj5 hh1
    obtain ⟨g, p1, -, s1⟩ := hi_int (a := 115) (n := 4) (sg := [(0, 3, 0, 24)]) hh1 rfl
    have at_ : ∀ v : Int32, 0 ≤ v.toInt → v.toInt ≤ 3 → 0 ≤ v ∧ v.toNatClampNeg < 4 ∧ (g v.toNatClampNeg).toInt ≤ 24 := fun v h0 h3 => by
      have hn : v.toNatClampNeg = v.toInt.toNat := rfl
      exact ⟨Int32.le_iff_toInt_le.mpr h0, by omega, (s1 (0, 3, 0, 24) List.mem_cons_self v.toNatClampNeg (Nat.zero_le _) (by show v.toNatClampNeg ≤ 3; omega) (by omega)).2⟩
    obtain ⟨i1, i2, i3⟩ := at_ v1 w1.1 w1.2
    obtain ⟨j1, j2, j3⟩ := at_ v3 w3.1 w3.2
    by_cases c2 : v2 < 0
    · exact Gl.via (fun res k => RA.steps 1 rfl (RA.if1T rfl (decide_eq_true c2) k)) bad
    refine Gl.via (i' := 33) (h1 := h1) (fun res k => RA.steps 1 rfl (RA.if1F rfl (decide_eq_false c2) k)) ?_
    by_cases c4 : v4 < 0
    · exact Gl.via (fun res k => RA.steps 1 rfl (RA.if1T rfl (decide_eq_true c4) k)) bad
    refine Gl.via (i' := 35) (h1 := h1) (fun res k => RA.steps 1 rfl (RA.if1F rfl (decide_eq_false c4) k)) ?_
    by_cases c5 : v5 < 0
    · exact Gl.via (fun res k => RA.steps 1 rfl (RA.if1T rfl (decide_eq_true c5) k)) bad
    refine Gl.via (i' := 37) (h1 := h1) (fun res k => RA.steps 1 rfl (RA.if1F rfl (decide_eq_false c5) k)) ?_
    refine Gl.via (i' := 48) (L' := [some (.ref 110), some (.int v1), some (.int v2), some (.int v3), some (.int v4), some (.int v5), a6]) (st' := [.int (lg_cmp (v2.toInt64 + v5.toInt64) (g v1.toNatClampNeg).toInt64)]) (h1 := h1) (fun res k => ?_) ?_
    · refine RA.steps 6 rfl ?_
      refine RA.getf rfl ho rfl f5 ?_
      refine RA.steps 1 rfl ?_
      refine RA.iald rfl p1 ⟨i1, i2⟩ rfl ?_
      exact RA.steps 2 rfl k
    by_cases c6 : (0 : Int32) < lg_cmp (v2.toInt64 + v5.toInt64) (g v1.toNatClampNeg).toInt64
    · exact Gl.via (fun res k => RA.if1T rfl (decide_eq_true c6) k) bad
    refine Gl.via (i' := 49) (h1 := h1) (fun res k => RA.if1F rfl (decide_eq_false c6) k) ?_
    refine Gl.via (i' := 60) (L' := [some (.ref 110), some (.int v1), some (.int v2), some (.int v3), some (.int v4), some (.int v5), a6]) (st' := [.int (lg_cmp (v4.toInt64 + v5.toInt64) (g v3.toNatClampNeg).toInt64)]) (h1 := h1) (fun res k => ?_) ?_
    · refine RA.steps 6 rfl ?_
      refine RA.getf rfl ho rfl f5 ?_
      refine RA.steps 1 rfl ?_
      refine RA.iald rfl p1 ⟨j1, j2⟩ rfl ?_
      exact RA.steps 2 rfl k
    by_cases c7 : (0 : Int32) < lg_cmp (v4.toInt64 + v5.toInt64) (g v3.toNatClampNeg).toInt64
    · exact Gl.via (fun res k => RA.if1F rfl (decide_eq_false (Int32.not_le.mpr c7)) k) bad
    refine Gl.via (i' := 63) (h1 := h1) (fun res k => RA.if1T rfl (decide_eq_true (Int32.not_lt.mp c7)) k) ?_
    have z2 := i0_of c2
    have z4 := i0_of c4
    have z5 := i0_of c5
    have l6 := lsum z2 z5 c6
    have l7 := lsum z4 z5 c7
    refine sg_use (sg_co3 v5.toInt.toNat (by omega)) rfl no_kc (by decide) hj1 hd (lt7 w1 ⟨z2, by rw [Int.toNat_of_nonneg z5]; dsimp only; omega⟩ w3 ⟨z4, by rw [Int.toNat_of_nonneg z5]; dsimp only; omega⟩ (by rw [Int.toNat_of_nonneg z5]; exact ⟨Int.le_refl _, Int.le_refl _⟩) q6) trivial hh1 (fun r h' hr hh' hf => ⟨hr, hh', (hf1.sub rfl).tr (hf.sub (by decide)), JT_P _ _ _ (by decide) hf hj1⟩) (fun z hz => by cases hz)
end CPR
