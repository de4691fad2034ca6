/-! ===== tides: how z and THE TIDE go on ===== -/
def dz (v : Int32) : Int32 := v * 1103515245 + 12345
def itF (f : Int32 → Int32) : Nat → Int32 → Int32
  | 0, v => v
  | n + 1, v => itF f n (f v)
theorem itS (f : Int32 → Int32) (n : Nat) (v : Int32) : itF f (n + 1) v = itF f n (f v) := rfl
def dzN (n : Nat) (v : Int32) : Int32 := itF dz n v
theorem dzN0 (v : Int32) : dzN 0 v = v := rfl
theorem dzNs (n : Nat) (v : Int32) : dzN (n + 1) v = dzN n (dz v) := itS dz n v
/-- v is the draw behind s -/
def isDz (Δ : aD) (s v : AV) : Bool := det s && det v && Δ.any (fun f => decide (f.1 = 10) && decide (f.2.2.1 = cn 12345) && decide (f.2.2.2 = v) && det f.2.1 && Δ.any (fun g => decide (g.1 = 12) && decide (g.2.1 = s) && decide (g.2.2.1 = cn 1103515245) && decide (g.2.2.2 = f.2.1)))
theorem isDz_ok {n : Nat} {σ : Nat → Int} {Δ : aD} {s v : AV} {u w : Int32} (hf : fok n σ Δ) (hd : isDz Δ s v = true) (hz : zG n σ u.toInt s) (hw : zG n σ w.toInt v) : w = dz u := by
  unfold isDz at hd
  rw [Bool.and_eq_true, Bool.and_eq_true] at hd
  obtain ⟨⟨d1, d2⟩, h1⟩ := hd
  obtain ⟨f, hfm, h1⟩ := List.any_eq_true.mp h1
  rw [Bool.and_eq_true, Bool.and_eq_true, Bool.and_eq_true, Bool.and_eq_true] at h1
  obtain ⟨⟨⟨⟨f1, f2⟩, f3⟩, d3⟩, h2⟩ := h1
  obtain ⟨g, hgm, h2⟩ := List.any_eq_true.mp h2
  rw [Bool.and_eq_true, Bool.and_eq_true, Bool.and_eq_true] at h2
  obtain ⟨⟨⟨g1, g2⟩, g3⟩, g4⟩ := h2
  have f1 := of_decide_eq_true f1
  have f2 := of_decide_eq_true f2
  have f3 := of_decide_eq_true f3
  have g1 := of_decide_eq_true g1
  have g2 := of_decide_eq_true g2
  have g3 := of_decide_eq_true g3
  have g4 := of_decide_eq_true g4
  have k1 := hf f hfm
  have k2 := hf g hgm
  unfold fcG at k1 k2
  rw [if_neg (by omega)] at k1 k2
  obtain ⟨a, b, a1, a2, a3⟩ := k1
  obtain ⟨p, q, b1, b2, b3⟩ := k2
  rw [f2] at a2
  rw [f1, f3] at a3
  rw [g2] at b1
  rw [g3] at b2
  rw [g1, g4] at b3
  obtain rfl : p = u := Int32.toInt_inj.mp (det_ok d1 b1 hz)
  obtain rfl : q = 1103515245 := Int32.toInt_inj.mp ((zcn b2).trans (by decide))
  obtain rfl : b = 12345 := Int32.toInt_inj.mp ((zcn a2).trans (by decide))
  have b3 : zG n σ (p * 1103515245).toInt f.2.1 := b3
  have a3 : zG n σ (a + 12345).toInt v := a3
  obtain rfl : a = p * 1103515245 := Int32.toInt_inj.mp (det_ok d3 a1 b3)
  exact Int32.toInt_inj.mp (det_ok d2 hw a3)
def tb_fl : aTb := fun mi i => if mi = 78 ∧ i = 12 then some ([(0, 2147483647, .inl 4)], [], [5], [(5, 5, 0, 95), (1, 1, 3, 3), (34, 34, 8, 8), (39, 47, 4, 5)], 0, true) else none
def tb_go : aTb := fun mi i => if mi = 190 ∧ i = 7 then some ([(0, 2147483647, .inl 2)], [], [3, 4], [(125, 125, 0, 127), (126, 126, 0, 99), (111, 111, 3, 3), (111, 111, 25, 26), (111, 111, 31, 32), (111, 111, 37, 38), (111, 111, 43, 44), (111, 111, 49, 50), (111, 111, 55, 56), (111, 111, 61, 62), (111, 111, 67, 68), (111, 111, 73, 74)], 0, true) else none
def kc_fl : List (Nat × aK) := [(48, k_covers), (50, k_sayAt), (44, k_value), (54, k_gainOver), (55, k_loss), (56, k_worth), (49, k_covered), (57, k_joined), (58, k_clashes), (79, k_seeAgain34F)]
def Wfl : aW := [(5, 5, 0, 95), (1, 1, 3, 3), (34, 34, 7, 9), (39, 47, 4, 5)]
def Wgo : aW := [(125, 125, 0, 127), (126, 126, 0, 99), (111, 111, 2, 4), (111, 111, 25, 26), (111, 111, 31, 32), (111, 111, 37, 38), (111, 111, 43, 44), (111, 111, 49, 50), (111, 111, 55, 56), (111, 111, 61, 62), (111, 111, 67, 68), (111, 111, 73, 74)]
def ecFl (S : aS) : Bool := (match S.2.2.2.1 with
  | [a, b, c, d, e, g] => decide (a = rf5 34) && decide (b = (1, 1, 0, 1)) && decide (c = (1, 1, 1, 2)) && !isL d && !isL e && !isL g
  | _ => false) && S.2.2.2.2.isEmpty && (match cfind S.2.1 (rf5 34) (cn 9) with
  | some v => isDz S.2.2.1 (1, 1, 0, 3) v && decide (v.1 ≤ 1)
  | none => false) && decide (cfind S.2.1 (rf5 34) (cn 7) = some (1, 1, 1, 4))
set_option maxRecDepth 100000 in
set_option maxHeartbeats 40000000 in
theorem ck_fl : aex prog HT Wfl kc_fl true tb_fl (fun i' S => decide (i' = 2) && (ctr S.2.2.1 || ecFl S)) oxN 80 true 50 78 mX6_flow 2 [.inl (77777, 77777), .inl (1, 100), .inl (0, 99), .inl (-2147483648, 2147483647), .inl (0, 20000)] [(rf5 34, cn 9, (1, 1, 0, 3)), (rf5 34, cn 7, (1, 1, 0, 4))] [(0, (1, 1, 0, 2), (1, 1, 0, 1), cn 0)] [rf5 34, (1, 1, 0, 1), (1, 1, 0, 2), any7, any7, any7] [] [] [] = true := by decide +kernel
def ecGo : aG → aC → aD → Option AV → Bool := fun _ C Δ x => decide (x = none) && (match cfind C (rf5 111) (cn 4) with
  | some v => isDz Δ (1, 1, 0, 1) v && decide (v.1 ≤ 1)
  | none => false) && decide (cfind C (rf5 111) (cn 2) = some (1, 1, 1, 2))
set_option maxRecDepth 100000 in
set_option maxHeartbeats 40000000 in
theorem ck_go : aex prog HT Wgo kc_m_goesOn true tb_go noS (oxC ecGo) 200 false 110 190 mX8_goesOn 0 [.inl (77777, 77777), .inl (-2147483648, 2147483647), .inl (0, 20000)] [(rf5 111, cn 4, (1, 1, 0, 1)), (rf5 111, cn 2, (1, 1, 0, 2))] [] [rf5 110, any7, any7, any7, any7] [] [] [] = true := by decide +kernel
def ecCt (S : aS) : Bool := (match S.2.2.2.1, S.2.2.2.2 with
  | [a, b, c], [v, w] => decide (a = rf5 0) && decide (b = (1, 1, 0, 1)) && isI c && decide (w = rf5 34) && isI v && det v && S.2.2.1.any (fun g => decide (g.1 = 22) && decide (g.2.1 = (1, 1, 0, 1)) && decide (g.2.2.1 = (1, -1, 9999, 2)) && decide (g.2.2.2 = v))
  | _, _ => false)
set_option maxRecDepth 100000 in
set_option maxHeartbeats 40000000 in
theorem ck_ct : aex prog HT [] [] true tb0 (fun i' S => decide (i' = 20) && (ctr S.2.2.1 || ecCt S)) oxN 40 false 50 103 mX7_tides 0 [.inl (77777, 77777), .inl (1, 100), .inl (0, 9999)] [(rf5 34, cn 7, (1, 1, 0, 2))] [] [rf5 0, (1, 1, 0, 1), any7] [] [] [] = true := by decide +kernel
section TID
variable {E : pX} {h : List pC}
theorem KF : ∀ p ∈ kc_fl, KGi E pV1 JT p.1 p.2 := by unfold kc_fl; exact (List.forall_mem_cons.mpr ⟨kg_covers JT_P hands, (List.forall_mem_cons.mpr ⟨kg_sayAt JT_P hands, (List.forall_mem_cons.mpr ⟨kg_value JT_P hands, (List.forall_mem_cons.mpr ⟨kg_gainOver JT_P hands, (List.forall_mem_cons.mpr ⟨kg_loss JT_P hands, (List.forall_mem_cons.mpr ⟨kg_worth JT_P hands, (List.forall_mem_cons.mpr ⟨kg_covered JT_P hands, (List.forall_mem_cons.mpr ⟨kg_joined JT_P hands, (List.forall_mem_cons.mpr ⟨kg_clashes JT_P hands, (List.forall_mem_cons.mpr ⟨kg_seeAgain34F, (fun _ h => absurd h List.not_mem_nil)⟩)⟩)⟩)⟩)⟩)⟩)⟩)⟩)⟩)⟩)
theorem KM : ∀ p ∈ kc_m_goesOn, KGi E pV1 JT p.1 p.2 := by unfold kc_m_goesOn; exact (List.forall_mem_cons.mpr ⟨kg_m_saysAt JT_P hands, (List.forall_mem_cons.mpr ⟨kg_m_loses JT_P hands, (List.forall_mem_cons.mpr ⟨kg_m_worth JT_P hands, (List.forall_mem_cons.mpr ⟨kg_m_covers JT_P hands, (List.forall_mem_cons.mpr ⟨kg_m_counts JT_P hands, (List.forall_mem_cons.mpr ⟨kg_m_gains hands, (List.forall_mem_cons.mpr ⟨kg_m_manyIn hands, (List.forall_mem_cons.mpr ⟨kg_m_falseOf JT_P hands, (List.forall_mem_cons.mpr ⟨kg_m_joinBy JT_P hands, (List.forall_mem_cons.mpr ⟨kg_m_doClash JT_P hands, (List.forall_mem_cons.mpr ⟨kg_m_laidOnes JT_P hands, (List.forall_mem_cons.mpr ⟨kg_m_coveredBy JT_P hands, (fun _ h => absurd h List.not_mem_nil)⟩)⟩)⟩)⟩)⟩)⟩)⟩)⟩)⟩)⟩)⟩)⟩)
theorem sixL {L : pL} (h : L.length = 6) : ∃ a b c d e f, L = [a, b, c, d, e, f] := by
  match L, h with
  | [a, b, c, d, e, f], _ => exact ⟨a, b, c, d, e, f, rfl⟩
theorem threeL {L : pL} (h : L.length = 3) : ∃ a b c, L = [a, b, c] := by
  match L, h with
  | [a, b, c], _ => exact ⟨a, b, c, rfl⟩
theorem w_ty (hh : HI HT h) {i : Nat} {p : Int × Int} (he : elT HT 8 34 i i = some (.inl p)) : ct h 34 i = some (.int (ri h 34 i)) := (ri_ty hh he).1
theorem flow_l {d : Nat} (hd : 50 ≤ d + 1) {n : Int32} (hn : n.toInt ≤ 100) : ∀ (m : Nat) (i : Int32) (a3 a4 a5 : Option Value) (h : List pC), i.toInt + m = n.toInt → 0 ≤ i.toInt → pcat2 a3 = false → pcat2 a4 = false → pcat2 a5 = false → HI HT h → JT h → 0 ≤ (ri h 34 7).toInt → (ri h 34 7).toInt + m ≤ 20000 → Gl prog E pV1 (fun r h' => r = none ∧ HI HT h' ∧ JT h' ∧ Fr Wfl h h' ∧ ri h' 34 9 = dzN m (ri h 34 9) ∧ (ri h' 34 7).toInt = (ri h 34 7).toInt + m) (d + 1) mX6_flow 2 [some (.ref 34), some (.int n), some (.int i), a3, a4, a5] [] h [] := by
  intro m
  induction m with
  | zero =>
    intro i a3 a4 a5 h h1 h2 c3 c4 c5 hh hj t0 t1
    refine ⟨none, h, ?_, rfl, hh, hj, Fr.rf _ _, rfl, by omega⟩
    refine RA.steps 2 rfl ?_
    refine RA.if2T (x := 40) rfl (decide_eq_true (Int32.le_iff_toInt_le.mpr (by omega))) ?_
    exact RA.ret rfl rfl
  | succ m ih =>
    intro i a3 a4 a5 h g1 g2 c3 c4 c5 hh hj t0 t1
    refine hop (σ0 := fun t => match t with | 0 => 77777 | 1 => n.toInt | 2 => i.toInt | 3 => (ri h 34 9).toInt | _ => (ri h 34 7).toInt) ck_fl KF (by decide) hj hd (by decide) ⟨⟨Nat.le_refl _, agr.rf _ _⟩, fun k e hk => ?_, ?_, ?_, LG.cons (lGr 34) (LG.cons (lGi (by decide) (by show n.toInt = 1 * n.toInt + 0; omega)) (LG.cons (lGi (by decide) (by show i.toInt = 1 * i.toInt + 0; omega)) (LG.cons (lG.any c3) (LG.cons (lG.any c4) (LG.cons (lG.any c5) LGn))))), trivial, hh, Fr.rf _ _⟩ (fun σ S L' st' h1 hec g => ?_)
    · match k, hk with
      | 0, hk => cases hk; exact ⟨Int.le_refl 77777, Int.le_refl 77777⟩
      | 1, hk => cases hk; exact ⟨by show (1 : Int) ≤ n.toInt; omega, hn⟩
      | 2, hk => cases hk; exact ⟨g2, by show i.toInt ≤ 99; omega⟩
      | 3, hk => cases hk; exact ⟨i32_lo _, i32_hi _⟩
      | 4, hk => cases hk; exact ⟨t0, by show (ri h 34 7).toInt ≤ 20000; omega⟩
      | k + 5, hk => simp at hk
    · exact cok.cs ⟨34, 9, _, Or.inl ⟨rfl, rfl⟩, cnZ _, w_ty hh rfl, Nat.le_refl 1, zG.mk (by decide) (by show (ri h 34 9).toInt = 1 * (ri h 34 9).toInt + 0; omega) (by decide)⟩ (cok.cs ⟨34, 7, _, Or.inl ⟨rfl, rfl⟩, cnZ _, w_ty hh rfl, Nat.le_refl 1, zG.mk (by decide) (by show (ri h 34 7).toInt = 1 * (ri h 34 7).toInt + 0; omega) (by decide)⟩ cok.nil)
    · intro f hf
      obtain rfl := List.mem_singleton.mp hf
      exact ⟨i.toInt, n.toInt, zG.mk (by decide) (by show i.toInt = 1 * i.toInt + 0; omega) (by decide), zG.mk (by decide) (by show n.toInt = 1 * n.toInt + 0; omega) (by decide), (show i.toInt < n.toInt by omega)⟩
    · unfold ecFl at hec
      rw [Bool.and_eq_true, Bool.and_eq_true, Bool.and_eq_true] at hec
      obtain ⟨⟨⟨b1, b2⟩, b3⟩, b4⟩ := hec
      obtain ⟨⟨gn, ga⟩, gk, gc, gf, gL, gS_, gh, gF⟩ := g
      split at b1
      · rename_i xa xb xc xd xe xf hA
        rw [hA] at gL
        simp only [Bool.and_eq_true, decide_eq_true_eq, Bool.not_eq_true'] at b1
        obtain ⟨⟨⟨⟨⟨rfl, rfl⟩, rfl⟩, e3⟩, e4⟩, e5⟩ := b1
        obtain ⟨l0, l1, l2, l3, l4, l5, rfl⟩ := sixL gL.1
        obtain ⟨w0, k0, v0⟩ := gL.at (k := 0) rfl (by decide)
        obtain ⟨w1, k1, v1⟩ := gL.at (k := 1) rfl (by decide)
        obtain ⟨w2, k2, v2⟩ := gL.at (k := 2) rfl (by decide)
        have q3 : pcat2 l3 = false := gL.cat2 (k := 3) rfl (of_decide_eq_false e3)
        have q4 : pcat2 l4 = false := gL.cat2 (k := 4) rfl (of_decide_eq_false e4)
        have q5 : pcat2 l5 = false := gL.cat2 (k := 5) rfl (of_decide_eq_false e5)
        obtain rfl : l0 = some w0 := k0
        obtain rfl : l1 = some w1 := k1
        obtain rfl : l2 = some w2 := k2
        obtain ⟨a, rfl, ha | ha⟩ := v0.ref (Or.inl rfl)
        rotate_left
        · exact absurd ha.1 (show ¬ (5 : Nat) = 6 by decide)
        obtain rfl : a = 34 := ha.2
        obtain ⟨u1, rfl, z1⟩ := v1.int (Nat.le_refl 1)
        obtain ⟨u2, rfl, z2⟩ := v2.int (Nat.le_refl 1)
        have y1 := zsy z1
        have y2 := (z2.lin (show ¬ (1 : Nat) % 2 = 0 by decide)).1
        have s1 : σ 1 = n.toInt := ga 1 (by decide)
        have s2 : σ 2 = i.toInt := ga 2 (by decide)
        have s3 : σ 3 = (ri h 34 9).toInt := ga 3 (by decide)
        have s4 : σ 4 = (ri h 34 7).toInt := ga 4 (by decide)
        obtain rfl : u1 = n := Int32.toInt_inj.mp (y1.trans s1)
        have y2 : u2.toInt = i.toInt + 1 := by
          have y2 : u2.toInt = 1 * σ 2 + 1 := y2
          omega
        obtain rfl : st' = [] := by
          have := gS_
          rw [List.isEmpty_iff.mp b2] at this
          exact this.nil_inv
        have t7 : (ri h1 34 7).toInt = (ri h 34 7).toInt + 1 := by
          have y3 := (((ck_ri gc (of_decide_eq_true b4) (Nat.le_refl 1))).lin (show ¬ (1 : Nat) % 2 = 0 by decide)).1
          have y3 : (ri h1 34 7).toInt = 1 * σ 4 + 1 := y3
          omega
        have t9 : ri h1 34 9 = dz (ri h 34 9) := by
          split at b3
          · rename_i v hv
            rw [Bool.and_eq_true] at b3
            exact isDz_ok gf b3.1 (zG.mk (by decide) (by rw [s3]; omega) (Nat.lt_of_lt_of_le (show 3 < 5 by decide) gn)) (ck_ri gc hv (of_decide_eq_true b3.2))
          · cases b3
        refine (ih u2 l3 l4 l5 h1 (by omega) (by omega) q3 q4 q5 gh (JT_P _ _ _ (by decide) gF hj) (by omega) (by omega)).weak (fun r h2 hp => ?_)
        obtain ⟨p1, p2, p3, p4, p5, p6⟩ := hp
        exact ⟨p1, p2, p3, gF.tr p4, by rw [p5, t9, dzNs], by omega⟩
      · cases b1
theorem goes_x {d : Nat} (hd : 110 ≤ d) (hh : HI HT h) (hj : JT h) (t0 : 0 ≤ (ri h 111 2).toInt) (t1 : (ri h 111 2).toInt ≤ 20000) : ∃ h', Run prog E pV1 d mX8_goesOn [.ref 110] h (none, h', 0, 0) ∧ HI HT h' ∧ JT h' ∧ Fr Wgo h h' ∧ ri h' 111 4 = dz (ri h 111 4) ∧ (ri h' 111 2).toInt = (ri h 111 2).toInt + 1 := by
  obtain ⟨f, p1, u1, -⟩ := hi_int hh HT111
  have c4 : ct h 111 4 = some (.int (ri h 111 4)) := by rw [ct_ri p1 (by decide), ← u1 4 (by decide)]
  have c2 : ct h 111 2 = some (.int (ri h 111 2)) := by rw [ct_ri p1 (by decide), ← u1 2 (by decide)]
  obtain ⟨r, h', q1, q2, q3, q4, rfl, q5, q6⟩ := oxH (E := E) (d := d) (N := mX8_goesOn) (as := [.ref 110]) (σ0 := fun t => match t with | 0 => 77777 | 1 => (ri h 111 4).toInt | _ => (ri h 111 2).toInt) (Q := fun r h' => r = none ∧ ri h' 111 4 = dz (ri h 111 4) ∧ (ri h' 111 2).toInt = (ri h 111 2).toInt + 1) ck_go KM (by decide) hj hd ⟨_, _, rfl⟩ (Nat.le_of_ble_eq_true rfl) ⟨⟨Nat.le_refl _, agr.rf _ _⟩, (fun k e hk => by
      match k, hk with
      | 0, hk => cases hk; exact ⟨Int.le_refl 77777, Int.le_refl 77777⟩
      | 1, hk => cases hk; exact ⟨i32_lo _, i32_hi _⟩
      | 2, hk => cases hk; exact ⟨t0, t1⟩
      | k + 3, hk => simp at hk), cok.cs ⟨111, 4, _, Or.inl ⟨rfl, rfl⟩, cnZ _, c4, Nat.le_refl 1, zG.mk (by decide) (by show (ri h 111 4).toInt = 1 * (ri h 111 4).toInt + 0; omega) (by decide)⟩ (cok.cs ⟨111, 2, _, Or.inl ⟨rfl, rfl⟩, cnZ _, c2, Nat.le_refl 1, zG.mk (by decide) (by show (ri h 111 2).toInt = 1 * (ri h 111 2).toInt + 0; omega) (by decide)⟩ cok.nil), (fun e he => by cases he), LG.cons (lGr 110) (LG.cons (lG.any rfl) (LG.cons (lG.any rfl) (LG.cons (lG.any rfl) (LG.cons (lG.any rfl) LGn)))), trivial, hh, Fr.rf _ _⟩ (fun σ Γ C Δ x r h' hec ga gk gc gf hr => by
    unfold ecGo at hec
    rw [Bool.and_eq_true, Bool.and_eq_true] at hec
    obtain ⟨⟨b1, b2⟩, b3⟩ := hec
    obtain rfl := of_decide_eq_true b1
    have s1 : σ 1 = (ri h 111 4).toInt := ga 1 (by decide)
    have s2 : σ 2 = (ri h 111 2).toInt := ga 2 (by decide)
    refine ⟨?_, ?_, ?_⟩
    · cases r with
      | none => rfl
      | some w => exact hr.elim
    · split at b2
      · rename_i v hv
        rw [Bool.and_eq_true] at b2
        have hcv := ck_ri gc hv (of_decide_eq_true b2.2)
        have hb := b2.1
        exact isDz_ok (s := (1, 1, 0, 1)) (u := ri h 111 4) (gf.up (Nat.le_max_left Γ.length 2) (agr.rf _ _)) hb (zG.mk (by decide) (by rw [s1]; omega) (Nat.lt_of_lt_of_le (show 1 < 2 by decide) (Nat.le_max_right _ _))) (hcv.up (Nat.le_max_left Γ.length 2) (agr.rf _ _))
      · cases b2
    · have y3 := ((ck_ri gc (of_decide_eq_true b3) (Nat.le_refl 1)).lin (show ¬ (1 : Nat) % 2 = 0 by decide)).1
      have y3 : (ri h' 111 2).toInt = 1 * σ 2 + 1 := y3
      omega)
  exact ⟨h', q1, q2, q3, q4, q5, q6⟩
theorem tides_l {d : Nat} (hd : 110 ≤ d) {n f0 : Int32} (hn : n.toInt ≤ 100) : ∀ (m : Nat) (k : Int32) (h : List pC), k.toInt + m = n.toInt → 0 ≤ k.toInt → HI HT h → JT h → 0 ≤ (ri h 111 2).toInt → (ri h 111 2).toInt ≤ 9999 → Gl prog E pV1 (fun r h' => ∃ v : Int32, r = some (.int v) ∧ HI HT h' ∧ JT h' ∧ Fr Wgo h h' ∧ ∃ j : Nat, (j : Int) = min (m : Int) (9999 - (ri h 111 2).toInt) ∧ ri h' 111 4 = dzN j (ri h 111 4) ∧ (ri h' 111 2).toInt = (ri h 111 2).toInt + j) (d + 1) mX8_tides 15 [some (.ref 110), some (.int n), some (.int f0), some (.int k)] [] h [] := by
  have fin : ∀ (k : Int32) (h : List pC), HI HT h → JT h → ∃ v : Int32, RA prog E pV1 (d + 1) mX8_tides 28 [some (.ref 110), some (.int n), some (.int f0), some (.int k)] [] h (some (.int v), h, 0, 0) := by
    intro k h hh hj
    obtain ⟨fs, ho, g0, -⟩ := m_ob hh
    obtain ⟨f, p1, -, -⟩ := hi_int hh HT111
    refine ⟨f 3 - f0, ?_⟩
    refine RA.steps 1 rfl ?_
    refine RA.getf rfl ho rfl g0 ?_
    refine RA.steps 1 rfl ?_
    refine RA.iald rfl p1 ⟨by decide, Nat.le_of_ble_eq_true rfl⟩ (w := f 3) rfl ?_
    refine RA.steps (i' := 34) (L' := [some (.ref 110), some (.int n), some (.int f0), some (.int k)]) (st' := [.int (f 3 - f0)]) (h' := h) 2 rfl ?_
    exact RA.ret rfl rfl
  intro m
  induction m with
  | zero =>
    intro k h h1 h2 hh hj t0 t1
    obtain ⟨v, hv⟩ := fin k h hh hj
    refine ⟨some (.int v), h, ?_, v, rfl, hh, hj, Fr.rf _ _, 0, ?_, rfl, ?_⟩
    · refine RA.steps 2 rfl ?_
      exact RA.if2T (x := 28) rfl (decide_eq_true (Int32.le_iff_toInt_le.mpr (by omega))) hv
    · omega
    · omega
  | succ m ih =>
    intro k h h1 h2 hh hj t0 t1
    obtain ⟨fs, ho, g0, -⟩ := m_ob hh
    obtain ⟨f, p1, u1, -⟩ := hi_int hh HT111
    have e2 : f 2 = ri h 111 2 := (u1 2 (by decide)).symm
    have head : ∀ res, RA prog E pV1 (d + 1) mX8_tides 23 [some (.ref 110), some (.int n), some (.int f0), some (.int k)] [.int 9999, .int (ri h 111 2)] h res → RA prog E pV1 (d + 1) mX8_tides 15 [some (.ref 110), some (.int n), some (.int f0), some (.int k)] [] h res := by
      intro res kk
      refine RA.steps 2 rfl ?_
      refine RA.if2F rfl (decide_eq_false (fun q => by have := Int32.le_iff_toInt_le.mp q; omega)) ?_
      refine RA.steps 1 rfl ?_
      refine RA.getf rfl ho rfl g0 ?_
      refine RA.steps 1 rfl ?_
      refine RA.iald rfl p1 ⟨by decide, Nat.le_of_ble_eq_true rfl⟩ e2 ?_
      exact RA.steps 1 rfl kk
    by_cases c9 : (9999 : Int32) ≤ ri h 111 2
    · have c9' : (9999 : Int) ≤ (ri h 111 2).toInt := Int32.le_iff_toInt_le.mp c9
      obtain ⟨v, hv⟩ := fin k h hh hj
      refine ⟨some (.int v), h, head _ (RA.if2T (x := 28) rfl (decide_eq_true c9) hv), v, rfl, hh, hj, Fr.rf _ _, 0, ?_, rfl, ?_⟩
      · omega
      · omega
    · have c9' : ¬ (9999 : Int) ≤ (ri h 111 2).toInt := fun q => c9 (Int32.le_iff_toInt_le.mpr q)
      obtain ⟨h1', r1, b1, b2, b3, b4, b5⟩ := goes_x (E := E) hd hh hj t0 (by omega)
      have hk1 : (k + 1).toInt = k.toInt + 1 := by
        rw [Int32.toInt_add, show (1 : Int32).toInt = 1 by decide]
        rw [Int.bmod_eq_of_le] <;> omega
      refine Gl.via (i' := 15) (L' := [some (.ref 110), some (.int n), some (.int f0), some (.int (k + 1))]) (st' := []) (h1 := h1') (fun res kk => head _ (RA.if2F rfl (decide_eq_false c9) ?_)) ((ih (k + 1) h1' (by omega) (by omega) b1 b2 (by omega) (by omega)).weak (fun r h2 hp => ?_))
      · refine RA.steps 1 rfl ?_
        refine call110 rfl rfl rfl rfl hh rfl (Nat.le_of_ble_eq_true rfl) r1 ?_
        refine RA.iinc rfl rfl rfl rfl ?_
        exact RA.steps 1 rfl kk
      · obtain ⟨v, p1, p2, p3, p4, j, p5, p6, p7⟩ := hp
        refine ⟨v, p1, p2, p3, b3.tr p4, j + 1, ?_, ?_, ?_⟩
        · push_cast
          omega
        · rw [p6, b4, dzNs]
        · push_cast
          omega
theorem tides_r (x : Int32) (hx : 1 ≤ x.toInt ∧ x.toInt ≤ 100) (hh : HI HT h) (hj : JT h) (t0 : 0 ≤ (ri h 111 2).toInt) (t1 : (ri h 111 2).toInt ≤ 9999) : ∃ (v : Int32) (h' : List pC), Run prog E pV1 120 mX8_tides [.ref 110, .int x] h (some (.int v), h', 0, 0) ∧ HI HT h' ∧ JT h' ∧ Fr Wgo h h' ∧ ∃ j : Nat, (j : Int) = min x.toInt (9999 - (ri h 111 2).toInt) ∧ ri h' 111 4 = dzN j (ri h 111 4) ∧ (ri h' 111 2).toInt = (ri h 111 2).toInt + j := by
  obtain ⟨fs, ho, g0, -⟩ := m_ob hh
  obtain ⟨f, p1, u1, -⟩ := hi_int hh HT111
  obtain ⟨r, h', q1, v, rfl, q2, q3, q4, j, q5, q6, q7⟩ := tides_l (E := E) (d := 119) (n := x) (f0 := f 3) (by decide) hx.2 x.toInt.toNat 0 h (by rw [show (0 : Int32).toInt = 0 by decide]; omega) (by decide) hh hj t0 t1
  refine ⟨v, h', ⟨Nat.le_of_ble_eq_true rfl, ⟨_, _, rfl⟩, ?_⟩, q2, q3, q4, j, by rw [q5, Int.toNat_of_nonneg (by omega)], q6, q7⟩
  refine RA.steps (i' := 4) (L' := [some (.ref 110), some (.int x), none, none]) (st' := [.long (Int32.toInt64 100), .long (Int32.toInt64 1), .long x.toInt64]) (h' := h) 4 rfl ?_
  refine RA.call0 (N := mX8_isIn) (as := [.long x.toInt64, .long (Int32.toInt64 1), .long (Int32.toInt64 100)]) (rest := []) rfl rfl rfl (isIn_t ⟨Int32.le_iff_toInt_le.mpr hx.1, Int32.le_iff_toInt_le.mpr hx.2⟩) ?_
  refine RA.if1T rfl rfl ?_
  refine RA.steps 1 rfl ?_
  refine RA.getf rfl ho rfl g0 ?_
  refine RA.steps 1 rfl ?_
  refine RA.iald rfl p1 ⟨by decide, Nat.le_of_ble_eq_true rfl⟩ (w := f 3) rfl ?_
  exact RA.steps 3 rfl q1
theorem tides_c (x : Int32) (hx : 1 ≤ x.toInt ∧ x.toInt ≤ 100) (hh : HI HT h) (hj : JT h) (t0 : 0 ≤ (ri h 34 7).toInt) (t1 : (ri h 34 7).toInt ≤ 9999) : ∃ (v : Int32) (h' : List pC), Run prog E pV1 120 mX7_tides [.ref 0, .int x] h (some (.int v), h', 0, 0) ∧ HI HT h' ∧ JT h' ∧ Fr Wfl h h' ∧ ∃ j : Nat, (j : Int) = min x.toInt (9999 - (ri h 34 7).toInt) ∧ ri h' 34 9 = dzN j (ri h 34 9) ∧ (ri h' 34 7).toInt = (ri h 34 7).toInt + j := by
  have g : Gl prog E pV1 (fun r h' => ∃ v : Int32, r = some (.int v) ∧ HI HT h' ∧ JT h' ∧ Fr Wfl h h' ∧ ∃ j : Nat, (j : Int) = min x.toInt (9999 - (ri h 34 7).toInt) ∧ ri h' 34 9 = dzN j (ri h 34 9) ∧ (ri h' 34 7).toInt = (ri h 34 7).toInt + j) 120 mX7_tides 0 (pent (m_l mX7_tides) [.ref 0, .int x]) [] h [] := by
    refine hop (σ0 := fun t => match t with | 0 => 77777 | 1 => x.toInt | _ => (ri h 34 7).toInt) ck_ct no_kc (by decide) hj (by decide) (by decide) ⟨⟨Nat.le_refl _, agr.rf _ _⟩, fun k e hk => ?_, ?_, (fun e he => by cases he), LG.cons (lGr 0) (LG.cons (lGi (by decide) (by show x.toInt = 1 * x.toInt + 0; omega)) (LG.cons (lG.any rfl) LGn)), trivial, hh, Fr.rf _ _⟩ (fun σ S L' st' h1 hec g => ?_)
    · match k, hk with
      | 0, hk => cases hk; exact ⟨Int.le_refl 77777, Int.le_refl 77777⟩
      | 1, hk => cases hk; exact hx
      | 2, hk => cases hk; exact ⟨t0, t1⟩
      | k + 3, hk => simp at hk
    · exact cok.cs ⟨34, 7, _, Or.inl ⟨rfl, rfl⟩, cnZ _, w_ty hh rfl, Nat.le_refl 1, zG.mk (by decide) (by show (ri h 34 7).toInt = 1 * (ri h 34 7).toInt + 0; omega) (by decide)⟩ cok.nil
    · unfold ecCt at hec
      obtain ⟨⟨-, ga⟩, gk, gc, gf, gL, gS_, gh, gF⟩ := g
      split at hec
      · rename_i xa xb xc v w hA hS
        rw [hA] at gL
        rw [hS] at gS_
        simp only [Bool.and_eq_true, decide_eq_true_eq] at hec
        obtain ⟨⟨⟨⟨⟨⟨rfl, rfl⟩, e3⟩, rfl⟩, e5⟩, e6⟩, e7⟩ := hec
        obtain ⟨l0, l1, l2, rfl⟩ := threeL gL.1
        obtain ⟨w0, k0, v0⟩ := gL.at (k := 0) rfl (by decide)
        have i3 := isI_t e3
        obtain ⟨w2, k2, v2⟩ := gL.at (k := 2) rfl (by omega)
        obtain rfl : l0 = some w0 := k0
        obtain rfl : l2 = some w2 := k2
        obtain ⟨a, rfl, ha | ha⟩ := v0.ref (Or.inl rfl)
        rotate_left
        · exact absurd ha.1 (show ¬ (5 : Nat) = 6 by decide)
        obtain rfl : a = 0 := ha.2
        obtain ⟨f0, rfl, -⟩ := v2.int i3
        obtain ⟨s1, t1', rfl, y1, ys⟩ := gS_.cons_inv
        obtain ⟨s2, t2', rfl, y2, ys2⟩ := ys.cons_inv
        obtain rfl := ys2.nil_inv
        obtain ⟨n', rfl, z1⟩ := y1.int (isI_t e5)
        obtain ⟨a, rfl, ha | ha⟩ := y2.ref (Or.inl rfl)
        rotate_left
        · exact absurd ha.1 (show ¬ (5 : Nat) = 6 by decide)
        obtain rfl : a = 34 := ha.2
        have hj1 : JT h1 := JT_P _ _ _ (by decide) gF hj
        have q1 : σ 1 = x.toInt := ga 1 (by decide)
        have q2 : σ 2 = (ri h 34 7).toInt := ga 2 (by decide)
        have en : n'.toInt = min x.toInt (9999 - (ri h 34 7).toInt) := by
          obtain ⟨gq, hgm, hg2⟩ := List.any_eq_true.mp e7
          simp only [Bool.and_eq_true, decide_eq_true_eq] at hg2
          obtain ⟨⟨⟨c1, c2⟩, c3⟩, c4⟩ := hg2
          have kf := gf gq hgm
          unfold fcG at kf
          rw [if_neg (by omega)] at kf
          obtain ⟨a, b, a1, a2, a3⟩ := kf
          rw [c2] at a1
          rw [c3] at a2
          rw [c1, c4] at a3
          have a1 : a.toInt = 1 * σ 1 + 0 := (a1.lin (show ¬ (1 : Nat) % 2 = 0 by decide)).1
          have a2 : b.toInt = -1 * σ 2 + 9999 := (a2.lin (show ¬ (1 : Nat) % 2 = 0 by decide)).1
          have e := det_ok e6 z1 a3
          have e : n'.toInt = (if b < a then b else a).toInt := e
          rw [e]
          split
          · rename_i hlt
            have := Int32.lt_iff_toInt_lt.mp hlt
            omega
          · rename_i hlt
            have : ¬ b.toInt < a.toInt := fun q => hlt (Int32.lt_iff_toInt_lt.mpr q)
            omega
        have fr9 : ri h1 34 9 = ri h 34 9 := ri_fr gF (by decide)
        have fr7 : ri h1 34 7 = ri h 34 7 := ri_fr gF (by decide)
        obtain ⟨fr, hr, -, rp⟩ : ∃ h2, Run prog E pV1 119 mX6_flow [.ref 34, .int n'] h1 (none, h2, 0, 0) ∧ True ∧ (HI HT h2 ∧ JT h2 ∧ Fr Wfl h1 h2 ∧ ri h2 34 9 = dzN n'.toInt.toNat (ri h1 34 9) ∧ (ri h2 34 7).toInt = (ri h1 34 7).toInt + n'.toInt.toNat) := by
          obtain ⟨r, h2, k1, rfl, k2⟩ := flow_l (E := E) (d := 118) (by decide) (n := n') (by omega) n'.toInt.toNat 0 none none none h1 (by rw [show (0 : Int32).toInt = 0 by decide]; omega) (by decide) rfl rfl rfl gh hj1 (by rw [fr7]; exact t0) (by rw [fr7]; omega)
          exact ⟨h2, ⟨Nat.le_of_ble_eq_true rfl, ⟨_, _, rfl⟩, RA.steps 2 rfl k1⟩, trivial, k2⟩
        obtain ⟨b1, b2, b3, b4, b5⟩ := rp
        obtain ⟨fs0, ho0, hF0⟩ := hi_obj b1 (a := 0) rfl
        obtain ⟨fs4, ho4, hF4⟩ := hi_obj b1 (a := 34) rfl
        obtain ⟨fd, hfd⟩ := hF4.int (k := 8) rfl
        obtain ⟨o1, ho1, hF1⟩ := hi_obj gh (a := 34) rfl
        refine ⟨some (.int (fd - f0)), fr, ?_, fd - f0, rfl, b1, b2, (gF.sub rfl).tr b3, n'.toInt.toNat, by rw [Int.toNat_of_nonneg (by omega), en], by rw [b4, fr9], by rw [b5, fr7]⟩
        refine RA.call0 (N := mX6_flow) (as := [.ref 34, .int n']) (rest := []) rfl rfl (pcallV rfl rfl ho1 rfl rfl (Nat.le_of_ble_eq_true rfl)) hr ?_
        refine RA.steps 1 rfl ?_
        refine RA.getf rfl ho0 rfl (hF0.ref (k := 1) rfl) ?_
        refine RA.getf rfl ho4 rfl hfd ?_
        refine RA.steps (i' := 26) (L' := [some (.ref 0), l1, some (.int f0)]) (st' := [.int (fd - f0)]) (h' := fr) 2 rfl ?_
        exact RA.ret rfl rfl
      · cases hec
  obtain ⟨r, h', q1, v, rfl, q2⟩ := g
  exact ⟨v, h', ⟨Nat.le_of_ble_eq_true rfl, ⟨_, _, rfl⟩, q1⟩, q2⟩
end TID
/-! ===== rules that the texts by hand share ===== -/
section XRA
variable {E : pX} {V : pV} {d i : Nat} {M : pM} {L : pL} {h : List pC} {res : pR} {rest : List Value}
theorem RA.aald {a pc x y w : Nat} {v : Value} {j : Int32} {ts : List Nat} {o : Nat × Nat × (Nat → Option Nat)} (he : (m_code M)[i]? = some (pc, .aaload, x, y, v, ts)) (hc : h[a]? = some (.inr (.inl o))) (hj : 0 ≤ j ∧ j.toNatClampNeg < o.2.1) (hw : o.2.2 j.toNatClampNeg = some w) (k : RA prog E V (d + 1) M (i + 1) L (.ref w :: rest) h res) : RA prog E V (d + 1) M i L (.int j :: .ref a :: rest) h res := by
  have ho : pref h a = some o := by unfold pref; rw [hc]
  refine RA.step0 he rfl rfl ?_ k
  show (match pref h a with
    | some x => if 0 ≤ j ∧ j.toNatClampNeg < x.2.1 then pnx i L (va_rf (x.2.2 j.toNatClampNeg) :: rest) h else none
    | none => none) = _
  rw [ho]
  dsimp only
  rw [if_pos hj, hw]
  rfl
theorem RA.alenR {a pc x y n : Nat} {v : Value} {ts : List Nat} {o : Nat × Nat × (Nat → Option Nat)} (he : (m_code M)[i]? = some (pc, .arraylength, x, y, v, ts)) (hc : h[a]? = some (.inr (.inl o))) (hn : o.2.1 = n) (k : RA prog E V (d + 1) M (i + 1) L (.int (nI n) :: rest) h res) : RA prog E V (d + 1) M i L (.ref a :: rest) h res := by
  subst hn
  refine RA.step0 he rfl rfl ?_ k
  show (match h[a]? with
    | some (.inl x) => pnx i L (.int (Int32.ofNat x.1) :: rest) h
    | some (.inr (.inl x)) => pnx i L (.int (Int32.ofNat x.2.1) :: rest) h
    | _ => none) = _
  rw [hc]
  rfl
theorem RA.alenI {a pc x y n : Nat} {v : Value} {ts : List Nat} {f : Nat → Int32} (he : (m_code M)[i]? = some (pc, .arraylength, x, y, v, ts)) (ho : pint h a = some (n, f)) (k : RA prog E V (d + 1) M (i + 1) L (.int (nI n) :: rest) h res) : RA prog E V (d + 1) M i L (.ref a :: rest) h res := by
  have hc := pint_at ho
  refine RA.step0 he rfl rfl ?_ k
  show (match h[a]? with
    | some (.inl x) => pnx i L (.int (Int32.ofNat x.1) :: rest) h
    | some (.inr (.inl x)) => pnx i L (.int (Int32.ofNat x.2.1) :: rest) h
    | _ => none) = _
  rw [hc]
  rfl
theorem RA.acpy {nn pc y a0 a1 : Nat} {v : Value} {ts : List Nat} {n sp dp : Int32} {x0 x1 : Nat × (Nat → Int32)} (he : (m_code M)[i]? = some (pc, .invokestatic nn, 99999, y, v, ts)) (hP : pcall prog (pc, .invokestatic nn, 99999, y, v, ts) (.int n :: .int dp :: .ref a1 :: .int sp :: .ref a0 :: rest) h = none) (h0 : pint h a0 = some x0) (h1 : pint h a1 = some x1) (hr : pcs rest ≤ 8) (hb : 0 ≤ sp ∧ 0 ≤ dp ∧ 0 ≤ n ∧ sp.toNatClampNeg + n.toNatClampNeg ≤ x0.1 ∧ dp.toNatClampNeg + n.toNatClampNeg ≤ x1.1) (k : RA prog E V (d + 1) M (i + 1) L rest (h.set a1 (.inl (x1.1, va_cpy x0.2 x1.2 sp.toNatClampNeg dp.toNatClampNeg n.toNatClampNeg))) res) : RA prog E V (d + 1) M i L (.int n :: .int dp :: .ref a1 :: .int sp :: .ref a0 :: rest) h res := by
  refine RA.step0 he rfl hP ?_ k
  show (if (99999 : Nat) = 99999 ∧ pcs rest ≤ 8 then (match pint h a0, pint h a1 with
    | some x, some y => if 0 ≤ sp ∧ 0 ≤ dp ∧ 0 ≤ n ∧ sp.toNatClampNeg + n.toNatClampNeg ≤ x.1 ∧ dp.toNatClampNeg + n.toNatClampNeg ≤ y.1 then pnx i L rest (h.set a1 (.inl (y.1, va_cpy x.2 y.2 sp.toNatClampNeg dp.toNatClampNeg n.toNatClampNeg))) else none
    | _, _ => none) else none) = _
  rw [if_pos ⟨rfl, hr⟩, h0, h1]
  dsimp only
  rw [if_pos hb]
  rfl
theorem Run.det {P : List pM} {N : pM} {as : List Value} {r1 r2 : pR} (a : Run P E V d N as h r1) (b : Run P E V d N as h r2) : r1 = r2 := by
  obtain ⟨-, -, f, hf⟩ := a
  obtain ⟨-, -, g, hg⟩ := b
  have e1 := pexec_le (Nat.le_max_left f g) hf
  have e2 := pexec_le (Nat.le_max_right f g) hg
  rw [e1] at e2
  exact Option.some.inj e2
theorem nI_cl {k : Nat} (hk : k < 100000) : 0 ≤ nI k ∧ (nI k).toNatClampNeg = k := nI_lt31 k hk
theorem nIsub {a b : Nat} (hb : b ≤ a) (ha : a < 100000) : nI a - nI b = nI (a - b) := Int32.toInt_inj.mp (by
  rw [Int32.toInt_sub, nI_toInt (by omega), nI_toInt (by omega), nI_toInt (by omega), bm32 (by unfold mI; omega) (by unfold MI; omega)]
  omega)
theorem nIof {x : Int32} (h0 : 0 ≤ x.toInt) (h1 : x.toInt < 100000) : ∃ k : Nat, x = nI k ∧ (k : Int) = x.toInt := ⟨x.toInt.toNat, Int32.toInt_inj.mp (by rw [nI_toInt (by omega)]; omega), by omega⟩
theorem nI1 : nI 1 = 1 := by decide +kernel
theorem ri_setI {a n j : Nat} {f g : Nat → Int32} (hp : pint h a = some (n, f)) (hj : j < n) : ri (h.set a (.inl (n, g))) a j = g j := by
  unfold ri
  rw [ct_ri (pint_set (pint_lt hp)) hj]
theorem ri_setN {a b j : Nat} {c : pC} (hab : ¬ a = b) : ri (h.set a c) b j = ri h b j := by
  unfold ri ct
  rw [List.getElem?_set_ne hab]
end XRA
