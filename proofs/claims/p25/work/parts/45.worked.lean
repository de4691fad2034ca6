/-! ===== texts at work; which text counts ===== -/
section WRK
variable {P : List pM} {E : pX} {V : pV} {Post : Option Value → List pC → Prop} {d : Nat} {h : List pC}
theorem Gl.via {M : pM} {i i' : Nat} {L L' : pL} {st st' : List Value} {h h1 : List pC} {fs : List cF} (k : ∀ res : pR, RA P E V d M i' L' st' h1 res → RA P E V d M i L st h res) (g : Gl P E V Post d M i' L' st' h1 fs) : Gl P E V Post d M i L st h fs := by
  obtain ⟨r, h2, q1, q2⟩ := g
  exact ⟨r, h2, k _ q1, q2⟩
theorem nI_mul (a b : Nat) : nI a * nI b = nI (a * b) := (Int32.ofNat_mul a b).symm
theorem textAt_x (t : Nat) : Run prog E V (d + 1) mX8_textAt [.ref 110, .int (nI t)] h (some (.int (nI (75 + 200 * t))), h, 0, 0) := by
  have e : (75 : Int32) + 200 * nI t = nI (75 + 200 * t) := by
    rw [show (200 : Int32) = nI 200 from rfl, nI_mul, show (75 : Int32) = nI 75 from rfl, nI_add]
  refine ⟨Nat.le_of_ble_eq_true rfl, ⟨_, _, rfl⟩, ?_⟩
  refine RA.steps (i' := 5) (L' := [some (.ref 110), some (.int (nI t))]) (st' := [.int (75 + 200 * nI t)]) (h' := h) 5 rfl ?_
  rw [e]
  exact RA.ret rfl rfl
/-- the reference's object and rows, in cells of these types -/
theorem m_obj (hh : HI HT h) : ∃ fs : List Value, pobj h 110 = some (8, fs) ∧ fs[0]? = some (.ref 111) ∧ fs[26]? = some (.ref 125) ∧ fs[27]? = some (.ref 126) := by
  obtain ⟨xs, t0, t1, t2, t3⟩ : ∃ xs, HT[110]? = some (.inr (.inr (8, xs))) ∧ xs[0]? = some (5, 0, 0, 111) ∧ xs[26]? = some (5, 0, 0, 125) ∧ xs[27]? = some (5, 0, 0, 126) := ⟨_, rfl, rfl, rfl, rfl⟩
  obtain ⟨fs, ho, hF⟩ := hi_obj hh t0
  exact ⟨fs, ho, hF.ref t1, hF.ref t2, hF.ref t3⟩
/-- how many texts there are -/
theorem n_texts (hh : HI HT h) : ∃ (f : Nat → Int32) (c : Nat), pint h 111 = some (3075, f) ∧ (∀ i, i < 3075 → ri h 111 i = f i) ∧ c ≤ 14 ∧ f 1 = nI c := by
  obtain ⟨f, p1, r1, s1⟩ := hi_int hh HT111
  have h1 := s1 (1, 1, 0, 14) (by decide) 1 (Nat.le_refl _) (Nat.le_refl _) (by decide)
  obtain ⟨j, hj, he⟩ := nI_of (x := f 1) (fun hlt => by
    have := Int32.lt_iff_toInt_lt.mp hlt
    have h0 : (0 : Int32).toInt = 0 := rfl
    dsimp only at h1
    omega)
  refine ⟨f, j, p1, r1, ?_, he⟩
  rw [he, nI_toInt hj] at h1
  dsimp only at h1
  omega
def cnV (K : Nat) (v : Int32) : Prop := v = -1 ∨ ∃ j : Nat, j < K ∧ v = nI j
theorem counts_l {fs : List Value} {f : Nat → Int32} {c : Nat} (key : Int32) (ho : pobj h 110 = some (8, fs)) (h0 : fs[0]? = some (.ref 111)) (hs : pint h 111 = some (3075, f)) (hc : c ≤ 14) (h1 : f 1 = nI c) : ∀ (m K : Nat) (v : Int32), K + m = c → cnV K v → ∃ w, cnV c w ∧ RA prog E V (d + 2) mX8_counts 4 [some (.ref 110), some (.int key), some (.int v), some (.int (nI K))] [] h (some (.int w), h, 0, 0) := by
  intro m
  induction m with
  | zero =>
    intro K v hK hv
    obtain rfl : K = c := by omega
    refine ⟨v, hv, ?_⟩
    refine RA.steps 2 rfl ?_
    refine RA.getf rfl ho rfl h0 ?_
    refine RA.steps 1 rfl ?_
    refine RA.iald rfl hs ⟨by decide, Nat.le_of_ble_eq_true rfl⟩ h1 ?_
    refine RA.if2T rfl (decide_eq_true (Int32.le_refl _)) ?_
    refine RA.steps 1 rfl ?_
    exact RA.ret rfl rfl
  | succ m ih =>
    intro K v hK hv
    have hlt : K < c := by omega
    have go : ∀ v' : Int32, cnV (K + 1) v' → ∃ w, cnV c w ∧ RA prog E V (d + 2) mX8_counts 21 [some (.ref 110), some (.int key), some (.int v), some (.int (nI K))] [.int v'] h (some (.int w), h, 0, 0) := by
      intro v' hv'
      obtain ⟨w, hw, hr⟩ := ih (K + 1) v' (by omega) hv'
      refine ⟨w, hw, ?_⟩
      refine RA.steps 1 rfl ?_
      refine RA.iinc rfl rfl (nI_1 K) rfl ?_
      refine RA.steps 1 rfl ?_
      exact hr
    have pre : ∀ res, RA prog E V (d + 2) mX8_counts 16 [some (.ref 110), some (.int key), some (.int v), some (.int (nI K))] [.int (f (75 + 200 * K))] h res → RA prog E V (d + 2) mX8_counts 4 [some (.ref 110), some (.int key), some (.int v), some (.int (nI K))] [] h res := by
      intro res k
      refine RA.steps 2 rfl ?_
      refine RA.getf rfl ho rfl h0 ?_
      refine RA.steps 1 rfl ?_
      refine RA.iald rfl hs ⟨by decide, Nat.le_of_ble_eq_true rfl⟩ h1 ?_
      refine RA.if2F rfl (decide_eq_false (nI_ge hlt (by omega))) ?_
      refine RA.steps 1 rfl ?_
      refine RA.getf rfl ho rfl h0 ?_
      refine RA.steps 2 rfl ?_
      refine RA.call0 rfl rfl (pcallV rfl rfl ho rfl rfl (Nat.le_of_ble_eq_true rfl)) (textAt_x K) ?_
      refine RA.iald rfl hs ⟨nI_pos' (by omega), by rw [nI_clamp (by omega)]; show 75 + 200 * K < 3075; omega⟩ (by rw [nI_clamp (by omega)]) ?_
      exact k
    by_cases e : f (75 + 200 * K) = key
    · obtain ⟨w, hw, hr⟩ := go (nI K) (Or.inr ⟨K, Nat.lt_succ_self _, rfl⟩)
      refine ⟨w, hw, pre _ ?_⟩
      refine RA.steps 1 rfl ?_
      refine RA.if2F rfl (decide_eq_false (Decidable.not_not.mpr e)) ?_
      refine RA.steps 2 rfl ?_
      exact hr
    · obtain ⟨w, hw, hr⟩ := go v (by
        rcases hv with hv | ⟨j, hj, hv⟩
        · exact Or.inl hv
        · exact Or.inr ⟨j, by omega, hv⟩)
      refine ⟨w, hw, pre _ ?_⟩
      refine RA.steps 1 rfl ?_
      refine RA.if2T rfl (decide_eq_true e) ?_
      refine RA.steps 1 rfl ?_
      exact hr
theorem counts_x (key : Int32) (hh : HI HT h) : ∃ (c : Nat) (w : Int32), c ≤ 14 ∧ (ri h 111 1) = nI c ∧ cnV c w ∧ Run prog E V (d + 2) mX8_counts [.ref 110, .int key] h (some (.int w), h, 0, 0) := by
  obtain ⟨fs, ho, h0, -, -⟩ := m_obj hh
  obtain ⟨f, c, p1, r1, c1, c2⟩ := n_texts hh
  obtain ⟨w, hw, hr⟩ := counts_l (E := E) (V := V) (d := d) key ho h0 p1 c1 c2 c 0 (-1) (Nat.zero_add c) (Or.inl rfl)
  refine ⟨c, w, c1, by rw [r1 1 (by decide)]; exact c2, hw, Nat.le_of_ble_eq_true rfl, ⟨_, _, rfl⟩, ?_⟩
  exact RA.steps 4 rfl hr
/-! a text at work -/
def WPi : aW := [(126, 126, 0, 99)]
def wsig (n k t : Nat) (w v : Int32) : Nat → Int := fun j => match j with
  | 0 => (n : Int)
  | 1 => (k : Int)
  | 2 => (t : Int)
  | 3 => w.toInt
  | _ => v.toInt
theorem lGi {n : Nat} {σ : Nat → Int} {v : Int32} {a b : Int} {k : Nat} (hk : k < n) (h : v.toInt = a * σ k + b) : lG n σ (some (.int v)) (1, a, b, k) := lG.of rfl ⟨Nat.le_refl _, zG.mk (by decide) h hk⟩
theorem lGc {n : Nat} {σ : Nat → Int} {v : Int32} {a : Int} (h : v.toInt = a) : lG n σ (some (.int v)) (0, a, a, 0) := lG.of rfl ⟨Nat.zero_le _, zG.itv rfl (by omega) (by omega)⟩
theorem lGr {n : Nat} {σ : Nat → Int} (a : Nat) : lG n σ (some (.ref a)) (5, 0, 0, a) := lG.of rfl (Or.inl ⟨rfl, rfl⟩)
theorem LGn {n : Nat} {σ : Nat → Int} : LG n σ [] [] := ⟨rfl, fun k x hk => by simp at hk⟩
theorem elG.i {n : Nat} {σ : Nat → Int} {L : pL} {ps : List (Option AV)} {k s : Nat} {a b : Int} (h : elG n σ L ps) (hk : ps[k]? = some (some (1, a, b, s))) : ∃ v : Int32, pget L k = some (.int v) ∧ v.toInt = a * σ s + b := by
  obtain ⟨w, hw, hv⟩ := h.2 k _ hk
  obtain ⟨v, rfl, hz⟩ := hv.int (Nat.le_refl _)
  exact ⟨v, hw, (hz.lin (show ¬ (1 : Nat) % 2 = 0 by decide)).1⟩
theorem elG.r {n : Nat} {σ : Nat → Int} {L : pL} {ps : List (Option AV)} {k a : Nat} (h : elG n σ L ps) (hk : ps[k]? = some (some (5, 0, 0, a))) : pget L k = some (.ref a) := by
  obtain ⟨w, hw, hv⟩ := h.2 k _ hk
  obtain ⟨b, rfl, hb | hb⟩ := hv.ref (Or.inl rfl)
  · rw [hw, hb.2]
  · exact absurd hb.1 (show ¬ (5 : Nat) = 6 by decide)
theorem toI {v : Int32} {n : Nat} (hn : n < 2 ^ 31) (h : v.toInt = (n : Int)) : v = nI n := i32_eq.mpr (by rw [h, nI_toInt hn])
theorem six {L : pL} (h : L.length = 6) : ∃ a b c d e f, L = [a, b, c, d, e, f] := by
  match L, h with
  | [a, b, c, d, e, f], _ => exact ⟨a, b, c, d, e, f, rfl⟩
theorem el6 {σ : Nat → Int} {L : pL} {m t : Nat} {n1 k1 : Nat} {an ak : AV} (h : elG m σ L [some (5, 0, 0, 110), some (1, 1, 0, 2), some an, some ak, none, none]) (hn : ∃ b s, an = (1, 1, b, s) ∧ σ s + b = (n1 : Int)) (hk : ∃ b s, ak = (1, 1, b, s) ∧ σ s + b = (k1 : Int)) (ht : σ 2 = (t : Int)) (h1 : n1 < 1000) (h2 : k1 < 1000) (h3 : t < 1000) : ∃ l4 l5, pcat2 l4 = false ∧ pcat2 l5 = false ∧ L = [some (.ref 110), some (.int (nI t)), some (.int (nI n1)), some (.int (nI k1)), l4, l5] := by
  obtain ⟨a, b, c, d, e, f, rfl⟩ := six h.1
  obtain ⟨b1, s1, rfl, e1⟩ := hn
  obtain ⟨b2, s2, rfl, e2⟩ := hk
  have g0 : a = _ := h.r (k := 0) rfl
  obtain ⟨v1, g1, f1⟩ := h.i (k := 1) rfl
  obtain ⟨v2, g2, f2⟩ := h.i (k := 2) rfl
  obtain ⟨v3, g3, f3⟩ := h.i (k := 3) rfl
  have g1 : b = _ := g1
  have g2 : c = _ := g2
  have g3 : d = _ := g3
  have c4 : pcat2 e = false := h.2 4 none rfl
  have c5 : pcat2 f = false := h.2 5 none rfl
  refine ⟨e, f, c4, c5, ?_⟩
  rw [g0, g1, g2, g3, toI (v := v1) (n := t) (by omega) (by rw [f1]; omega), toI (v := v2) (n := n1) (by omega) (by rw [f2]; omega), toI (v := v3) (n := k1) (by omega) (by rw [f3]; omega)]
def PW0 (h0 : List pC) : Option Value → List pC → Prop := fun r h' => retG r (some (-2147483648, 2147483647)) ∧ HI HT h' ∧ Fr WPi h0 h'
theorem wfrom {h0 h : List pC} (hf : Fr WPi h0 h) (i : Nat) : ri h 111 i = ri h0 111 i := ri_ct (hf 111 i (nin_iff.mpr (by
  simp only [WPi, List.forall_mem_cons]
  exact ⟨by omega, fun _ h => absurd h List.not_mem_nil⟩)))
theorem worked_l {h0 : List pC} {t M : Nat} (ht : t < 14) (hM : M ≤ 98) (hm : ri h0 111 (77 + 200 * t) = nI M) : ∀ (m k n : Nat), k + m = M → n ≤ k → wfT (ri h0 111) (75 + 200 * t) m k n → ∀ (h : List pC) (l4 l5 : Option Value), HI HT h → Fr WPi h0 h → Gl prog E V (PW0 h0) (d + 10) mX8_worked 4 [some (.ref 110), some (.int (nI t)), some (.int (nI n)), some (.int (nI k)), l4, l5] [] h [] := by
  intro m
  induction m with
  | zero =>
    intro k n hk hn _ h l4 l5 hh hf
    obtain rfl : k = M := by omega
    obtain ⟨fs, ho, f0, f1, f2⟩ := m_obj hh
    obtain ⟨f, p1, r1, -⟩ := hi_int hh HT111
    obtain ⟨g, p2, -, -⟩ := hi_int (a := 126) (n := 100) (sg := []) hh rfl
    refine ⟨some (.int (g 0)), h, ?_, ⟨g 0, rfl, i32_lo _, i32_hi _⟩, hh, hf⟩
    refine RA.steps 2 rfl ?_
    refine RA.getf rfl ho rfl f0 ?_
    refine RA.steps 2 rfl ?_
    refine RA.call0 rfl rfl (pcallV rfl rfl ho rfl rfl (Nat.le_of_ble_eq_true rfl)) (textAt_x t) ?_
    refine RA.steps (i' := 12) (L' := [some (.ref 110), some (.int (nI t)), some (.int (nI n)), some (.int (nI k)), l4, l5]) (st' := [.int (nI (75 + 200 * t) + 2), .ref 111, .int (nI k)]) (h' := h) 2 rfl ?_
    rw [show nI (75 + 200 * t) + 2 = nI (75 + 200 * t + 2) from nI_add _ 2]
    refine RA.iald rfl p1 ⟨nI_pos' (by omega), by rw [nI_clamp (by omega)]; show 75 + 200 * t + 2 < 3075; omega⟩ (w := nI k) (by
      rw [nI_clamp (by omega)]
      show f (75 + 200 * t + 2) = nI k
      rw [← r1 _ (by omega), wfrom hf, ← hm]
      congr 1
      omega) ?_
    refine RA.if2T rfl (decide_eq_true (Int32.le_refl _)) ?_
    refine RA.steps 1 rfl ?_
    refine RA.getf rfl ho rfl f2 ?_
    refine RA.steps 1 rfl ?_
    refine RA.iald rfl p2 ⟨by decide, Nat.le_of_ble_eq_true rfl⟩ rfl ?_
    exact RA.ret rfl rfl
  | succ m ih =>
    intro k n hk hn hw h l4 l5 hh hf
    obtain ⟨fs, ho, f0, f1, f2⟩ := m_obj hh
    obtain ⟨f, p1, r1, -⟩ := hi_int hh HT111
    have hfi : ∀ i, i < 3075 → f i = ri h0 111 i := fun i hi => by rw [← r1 i hi, wfrom hf]
    have i1 : (nI (75 + 200 * t) + 4 + 2 * nI k : Int32) = nI (75 + 200 * t + 4 + 2 * k) := by
      rw [show (4 : Int32) = nI 4 from rfl, show (2 : Int32) = nI 2 from rfl, nI_mul, nI_add, nI_add]
    have i2 : (nI (75 + 200 * t) + 4 + 2 * nI k + 1 : Int32) = nI (75 + 200 * t + 5 + 2 * k) := by
      rw [i1, nI_1]
      congr 1
      omega
    refine Gl.via (i' := 44) (L' := [some (.ref 110), some (.int (nI t)), some (.int (nI n)), some (.int (nI k)), some (.int (ri h0 111 (75 + 200 * t + 4 + 2 * k))), some (.int (ri h0 111 (75 + 200 * t + 5 + 2 * k)))]) (st' := [.int 2, .int (ri h0 111 (75 + 200 * t + 4 + 2 * k))]) (h1 := h) (fun res q => ?_) ?_
    · refine RA.steps 2 rfl ?_
      refine RA.getf rfl ho rfl f0 ?_
      refine RA.steps 2 rfl ?_
      refine RA.call0 rfl rfl (pcallV rfl rfl ho rfl rfl (Nat.le_of_ble_eq_true rfl)) (textAt_x t) ?_
      refine RA.steps (i' := 12) (L' := [some (.ref 110), some (.int (nI t)), some (.int (nI n)), some (.int (nI k)), l4, l5]) (st' := [.int (nI (75 + 200 * t) + 2), .ref 111, .int (nI k)]) (h' := h) 2 rfl ?_
      rw [show nI (75 + 200 * t) + 2 = nI (75 + 200 * t + 2) from nI_add _ 2]
      refine RA.iald rfl p1 ⟨nI_pos' (by omega), by rw [nI_clamp (by omega)]; show 75 + 200 * t + 2 < 3075; omega⟩ (w := nI M) (by
        rw [nI_clamp (by omega)]
        show f (75 + 200 * t + 2) = nI M
        rw [hfi _ (by omega), ← hm]
        congr 1
        omega) ?_
      refine RA.if2F rfl (decide_eq_false (nI_ge (show k < M by omega) (by omega))) ?_
      refine RA.steps 1 rfl ?_
      refine RA.getf rfl ho rfl f0 ?_
      refine RA.steps 2 rfl ?_
      refine RA.call0 rfl rfl (pcallV rfl rfl ho rfl rfl (Nat.le_of_ble_eq_true rfl)) (textAt_x t) ?_
      refine RA.steps (i' := 25) (L' := [some (.ref 110), some (.int (nI t)), some (.int (nI n)), some (.int (nI k)), l4, l5]) (st' := [.int (nI (75 + 200 * t) + 4 + 2 * nI k), .ref 111]) (h' := h) 6 rfl ?_
      rw [i1]
      refine RA.iald rfl p1 ⟨nI_pos' (by omega), by rw [nI_clamp (by omega)]; show 75 + 200 * t + 4 + 2 * k < 3075; omega⟩ (w := ri h0 111 (75 + 200 * t + 4 + 2 * k)) (by rw [nI_clamp (by omega)]; exact hfi _ (by omega)) ?_
      refine RA.steps 2 rfl ?_
      refine RA.getf rfl ho rfl f0 ?_
      refine RA.steps 2 rfl ?_
      refine RA.call0 rfl rfl (pcallV rfl rfl ho rfl rfl (Nat.le_of_ble_eq_true rfl)) (textAt_x t) ?_
      refine RA.steps (i' := 40) (L' := [some (.ref 110), some (.int (nI t)), some (.int (nI n)), some (.int (nI k)), some (.int (ri h0 111 (75 + 200 * t + 4 + 2 * k))), l5]) (st' := [.int (nI (75 + 200 * t) + 4 + 2 * nI k + 1), .ref 111]) (h' := h) 8 rfl ?_
      rw [i2]
      refine RA.iald rfl p1 ⟨nI_pos' (by omega), by rw [nI_clamp (by omega)]; show 75 + 200 * t + 5 + 2 * k < 3075; omega⟩ (w := ri h0 111 (75 + 200 * t + 5 + 2 * k)) (by rw [nI_clamp (by omega)]; exact hfi _ (by omega)) ?_
      refine RA.steps 3 rfl ?_
      exact q
    rw [wfT] at hw
    revert hw
    generalize ri h0 111 (75 + 200 * t + 4 + 2 * k) = w
    generalize ri h0 111 (75 + 200 * t + 5 + 2 * k) = v
    intro hw
    have hkt : k < 98 := by omega
    have fin : ∀ (n1 : Nat), n1 ≤ k + 1 → wfT (ri h0 111) (75 + 200 * t) m (k + 1) n1 → ∀ (L' : pL) (h' : List pC) (an ak : AV) (mm : Nat) (σ : Nat → Int), elG mm σ L' [some (5, 0, 0, 110), some (1, 1, 0, 2), some an, some ak, none, none] → (∃ b s, an = (1, 1, b, s) ∧ σ s + b = (n1 : Int)) → (∃ b s, ak = (1, 1, b, s) ∧ σ s + b = ((k + 1 : Nat) : Int)) → σ 2 = (t : Int) → HI HT h' → Fr WPi h h' → Gl prog E V (PW0 h0) (d + 10) mX8_worked 4 L' [] h' [] := by
      intro n1 hn1 hw1 L' h' an ak mm σ hL hn2 hk2 ht2 hh' hf'
      obtain ⟨l4', l5', -, -, rfl⟩ := el6 hL hn2 hk2 ht2 (by omega) (by omega) (by omega)
      exact ih (k + 1) n1 (by omega) hn1 hw1 h' l4' l5' hh' (hf.tr hf')
    by_cases h2 : w = 2
    · rw [if_pos h2] at hw
      refine Gl.via (i' := 59) (h1 := h) (fun res q => RA.if2T rfl (decide_eq_true h2) q) ?_
      by_cases h3 : v = 33
      · rw [if_pos h3] at hw
        refine Gl.via (i' := 62) (h1 := h) (fun res q => RA.steps 2 rfl (RA.if2F rfl (decide_eq_false (Decidable.not_not.mpr h3)) q)) ?_
        refine fseg_ok (σ0 := wsig n k t w v) (J := fun _ => True) fs_wkB rfl (fun k N c hk => by cases hk) (fun _ _ => trivial) (by omega) ?_ (fun e he => by cases he) ?_ trivial hh (fun p hp => by cases hp) (fun z hz L' st' h' hL' hS' _ hh' hf' => ?_)
        · intro j e hj
          match j, hj with
          | 0, hj => cases hj; exact ⟨by show (1 : Int) ≤ (n : Int); omega, by show (n : Int) ≤ 98; omega⟩
          | 1, hj => cases hj; exact ⟨by show (0 : Int) ≤ (k : Int); omega, by show (k : Int) ≤ 98; omega⟩
          | 2, hj => cases hj; exact ⟨by show (-2147483648 : Int) ≤ (t : Int); omega, by show (t : Int) ≤ 2147483647; omega⟩
          | 3, hj => cases hj; exact ⟨i32_lo w, i32_hi w⟩
          | 4, hj => cases hj; exact ⟨i32_lo v, i32_hi v⟩
          | j + 5, hj => simp [g0_wkB] at hj
        · exact LG.cons (lGr 110) (LG.cons (lGi (by decide) (by rw [nI_toInt (by omega)]; show (t : Int) = 1 * (t : Int) + 0; omega)) (LG.cons (lGi (by decide) (by rw [nI_toInt (by omega)]; show (n : Int) = 1 * (n : Int) + 0; omega)) (LG.cons (lGi (by decide) (by rw [nI_toInt (by omega)]; show (k : Int) = 1 * (k : Int) + 0; omega)) (LG.cons (lGi (by decide) (by show w.toInt = 1 * w.toInt + 0; omega)) (LG.cons (lGi (by decide) (by show v.toInt = 1 * v.toInt + 0; omega)) LGn)))))
        · obtain rfl := List.mem_singleton.mp hz
          obtain rfl := hS'.nil_inv
          exact fin n (by omega) hw.2 L' h' _ _ _ _ hL' ⟨_, _, rfl, by show (n : Int) + 0 = n; omega⟩ ⟨_, _, rfl, by show (k : Int) + 1 = ((k + 1 : Nat) : Int); omega⟩ rfl hh' hf'
      · rw [if_neg h3] at hw
        refine Gl.via (i' := 79) (h1 := h) (fun res q => RA.steps 2 rfl (RA.if2T rfl (decide_eq_true h3) q)) ?_
        refine fseg_ok (σ0 := wsig n k t w v) (J := fun _ => True) fs_wkC rfl (fun k N c hk => by cases hk) (fun _ _ => trivial) (by omega) ?_ (fun e he => by cases he) ?_ trivial hh (fun p hp => by cases hp) (fun z hz L' st' h' hL' hS' _ hh' hf' => ?_)
        · intro j e hj
          match j, hj with
          | 0, hj => cases hj; exact ⟨by show (2 : Int) ≤ (n : Int); omega, by show (n : Int) ≤ 98; omega⟩
          | 1, hj => cases hj; exact ⟨by show (0 : Int) ≤ (k : Int); omega, by show (k : Int) ≤ 98; omega⟩
          | 2, hj => cases hj; exact ⟨by show (-2147483648 : Int) ≤ (t : Int); omega, by show (t : Int) ≤ 2147483647; omega⟩
          | 3, hj => cases hj; exact ⟨i32_lo w, i32_hi w⟩
          | 4, hj => cases hj; exact ⟨i32_lo v, i32_hi v⟩
          | j + 5, hj => simp [g0_wkC] at hj
        · exact LG.cons (lGr 110) (LG.cons (lGi (by decide) (by rw [nI_toInt (by omega)]; show (t : Int) = 1 * (t : Int) + 0; omega)) (LG.cons (lGi (by decide) (by rw [nI_toInt (by omega)]; show (n : Int) = 1 * (n : Int) + 0; omega)) (LG.cons (lGi (by decide) (by rw [nI_toInt (by omega)]; show (k : Int) = 1 * (k : Int) + 0; omega)) (LG.cons (lGi (by decide) (by show w.toInt = 1 * w.toInt + 0; omega)) (LG.cons (lGi (by decide) (by show v.toInt = 1 * v.toInt + 0; omega)) LGn)))))
        · obtain rfl := List.mem_singleton.mp hz
          obtain rfl := hS'.nil_inv
          exact fin (n - 1) (by omega) hw.2 L' h' _ _ _ _ hL' ⟨_, _, rfl, by show (n : Int) + (-1) = ((n - 1 : Nat) : Int); omega⟩ ⟨_, _, rfl, by show (k : Int) + 1 = ((k + 1 : Nat) : Int); omega⟩ rfl hh' hf'
    · rw [if_neg h2] at hw
      refine Gl.via (i' := 45) (h1 := h) (fun res q => RA.if2F rfl (decide_eq_false h2) q) ?_
      rcases hw.1 with h0w | ⟨v0, v1⟩
      · subst h0w
        refine fseg_ok (σ0 := wsig n k t v v) (J := fun _ => True) fs_wkA1 rfl (fun k N c hk => by cases hk) (fun _ _ => trivial) (by omega) ?_ (fun e he => by cases he) ?_ trivial hh (fun p hp => by cases hp) (fun z hz L' st' h' hL' hS' _ hh' hf' => ?_)
        · intro j e hj
          match j, hj with
          | 0, hj => cases hj; exact ⟨by show (0 : Int) ≤ (n : Int); omega, by show (n : Int) ≤ 98; omega⟩
          | 1, hj => cases hj; exact ⟨by show (0 : Int) ≤ (k : Int); omega, by show (k : Int) ≤ 98; omega⟩
          | 2, hj => cases hj; exact ⟨by show (-2147483648 : Int) ≤ (t : Int); omega, by show (t : Int) ≤ 2147483647; omega⟩
          | 3, hj => cases hj; exact ⟨i32_lo v, i32_hi v⟩
          | j + 4, hj => simp [g0_wkA1] at hj
        · exact LG.cons (lGr 110) (LG.cons (lGi (by decide) (by rw [nI_toInt (by omega)]; show (t : Int) = 1 * (t : Int) + 0; omega)) (LG.cons (lGi (by decide) (by rw [nI_toInt (by omega)]; show (n : Int) = 1 * (n : Int) + 0; omega)) (LG.cons (lGi (by decide) (by rw [nI_toInt (by omega)]; show (k : Int) = 1 * (k : Int) + 0; omega)) (LG.cons (lGc rfl) (LG.cons (lGi (by decide) (by show v.toInt = 1 * v.toInt + 0; omega)) LGn)))))
        · obtain rfl := List.mem_singleton.mp hz
          obtain rfl := hS'.nil_inv
          exact fin (n + 1) (by omega) hw.2 L' h' _ _ _ _ hL' ⟨_, _, rfl, by show (n : Int) + 1 = ((n + 1 : Nat) : Int); omega⟩ ⟨_, _, rfl, by show (k : Int) + 1 = ((k + 1 : Nat) : Int); omega⟩ rfl hh' hf'
      · refine fseg_ok (σ0 := wsig n k t w v) (J := fun _ => True) fs_wkA2 rfl (fun k N c hk => by cases hk) (fun _ _ => trivial) (by omega) ?_ (fun e he => by cases he) ?_ trivial hh (fun p hp => by cases hp) (fun z hz L' st' h' hL' hS' _ hh' hf' => ?_)
        · intro j e hj
          match j, hj with
          | 0, hj => cases hj; exact ⟨by show (0 : Int) ≤ (n : Int); omega, by show (n : Int) ≤ 98; omega⟩
          | 1, hj => cases hj; exact ⟨by show (0 : Int) ≤ (k : Int); omega, by show (k : Int) ≤ 98; omega⟩
          | 2, hj => cases hj; exact ⟨by show (-2147483648 : Int) ≤ (t : Int); omega, by show (t : Int) ≤ 2147483647; omega⟩
          | 3, hj => cases hj; exact ⟨i32_lo w, i32_hi w⟩
          | 4, hj => cases hj; exact ⟨by show (0 : Int) ≤ v.toInt; omega, by show v.toInt ≤ 127; omega⟩
          | j + 5, hj => simp [g0_wkA2] at hj
        · exact LG.cons (lGr 110) (LG.cons (lGi (by decide) (by rw [nI_toInt (by omega)]; show (t : Int) = 1 * (t : Int) + 0; omega)) (LG.cons (lGi (by decide) (by rw [nI_toInt (by omega)]; show (n : Int) = 1 * (n : Int) + 0; omega)) (LG.cons (lGi (by decide) (by rw [nI_toInt (by omega)]; show (k : Int) = 1 * (k : Int) + 0; omega)) (LG.cons (lGi (by decide) (by show w.toInt = 1 * w.toInt + 0; omega)) (LG.cons (lGi (by decide) (by show v.toInt = 1 * v.toInt + 0; omega)) LGn)))))
        · obtain rfl := List.mem_singleton.mp hz
          obtain rfl := hS'.nil_inv
          exact fin (n + 1) (by omega) hw.2 L' h' _ _ _ _ hL' ⟨_, _, rfl, by show (n : Int) + 1 = ((n + 1 : Nat) : Int); omega⟩ ⟨_, _, rfl, by show (k : Int) + 1 = ((k + 1 : Nat) : Int); omega⟩ rfl hh' hf'
/-- a text at work: it answers, the pile alone is written -/
theorem worked_x {t : Nat} (ht : t < 14) (hh : HI HT h) (hj : TI (ri h 111)) (hc : (t : Int) < (ri h 111 1).toInt) : ∃ r h', Run prog E V (d + 10) mX8_worked [.ref 110, .int (nI t)] h (some (.int r), h', 0, 0) ∧ HI HT h' ∧ Fr WPi h h' := by
  obtain ⟨M, m1, m2, m3⟩ := hj t ht hc
  obtain ⟨r, h', k1, ⟨v, rfl, -⟩, k3, k4⟩ := worked_l (E := E) (V := V) (d := d) ht m1 m2 M 0 0 (Nat.zero_add M) (Nat.le_refl _) m3 h none none hh (Fr.rf _ _)
  exact ⟨v, h', ⟨Nat.le_of_ble_eq_true rfl, ⟨_, _, rfl⟩, RA.steps 4 rfl k1⟩, k3, k4⟩
end WRK
