/-! ===== tides: how z and THE TIDE go on ===== -/
def dz (v : Int32) : Int32 := v * 1103515245 + 12345
def itF (f : Int32 → Int32) : Nat → Int32 → Int32
  | 0, v => v
  | n + 1, v => itF f n (f v)
theorem itS (f : Int32 → Int32) (n : Nat) (v : Int32) : itF f (n + 1) v = itF f n (f v) := rfl
def dzN (n : Nat) (v : Int32) : Int32 := itF dz n v
theorem dzN0 (v : Int32) : dzN 0 v = v := rfl
theorem dzNs (n : Nat) (v : Int32) : dzN (n + 1) v = dzN n (dz v) := itS dz n v
/-- v is the draw behind s -/
def isDz (Δ : aD) (s v : AV) : Bool := det s && det v && Δ.any (fun f => decide (f.1 = 10) && decide (f.2.2.1 = cn 12345) && decide (f.2.2.2 = v) && det f.2.1 && Δ.any (fun g => decide (g.1 = 12) && decide (g.2.1 = s) && decide (g.2.2.1 = cn 1103515245) && decide (g.2.2.2 = f.2.1)))
theorem isDz_ok {n : Nat} {σ : Nat → Int} {Δ : aD} {s v : AV} {u w : Int32} (hf : fok n σ Δ) (hd : isDz Δ s v = true) (hz : zG n σ u.toInt s) (hw : zG n σ w.toInt v) : w = dz u := by
  unfold isDz at hd
  rw [Bool.and_eq_true, Bool.and_eq_true] at hd
  obtain ⟨⟨d1, d2⟩, h1⟩ := hd
  obtain ⟨f, hfm, h1⟩ := List.any_eq_true.mp h1
  rw [Bool.and_eq_true, Bool.and_eq_true, Bool.and_eq_true, Bool.and_eq_true] at h1
  obtain ⟨⟨⟨⟨f1, f2⟩, f3⟩, d3⟩, h2⟩ := h1
  obtain ⟨g, hgm, h2⟩ := List.any_eq_true.mp h2
  rw [Bool.and_eq_true, Bool.and_eq_true, Bool.and_eq_true] at h2
  obtain ⟨⟨⟨g1, g2⟩, g3⟩, g4⟩ := h2
  have f1 := of_decide_eq_true f1
  have f2 := of_decide_eq_true f2
  have f3 := of_decide_eq_true f3
  have g1 := of_decide_eq_true g1
  have g2 := of_decide_eq_true g2
  have g3 := of_decide_eq_true g3
  have g4 := of_decide_eq_true g4
  have k1 := hf f hfm
  have k2 := hf g hgm
  unfold fcG at k1 k2
  rw [if_neg (by omega)] at k1 k2
  obtain ⟨a, b, a1, a2, a3⟩ := k1
  obtain ⟨p, q, b1, b2, b3⟩ := k2
  rw [f2] at a2
  rw [f1, f3] at a3
  rw [g2] at b1
  rw [g3] at b2
  rw [g1, g4] at b3
  obtain rfl : p = u := Int32.toInt_inj.mp (det_ok d1 b1 hz)
  obtain rfl : q = 1103515245 := Int32.toInt_inj.mp ((zcn b2).trans (by decide))
  obtain rfl : b = 12345 := Int32.toInt_inj.mp ((zcn a2).trans (by decide))
  have b3 : zG n σ (p * 1103515245).toInt f.2.1 := b3
  have a3 : zG n σ (a + 12345).toInt v := a3
  obtain rfl : a = p * 1103515245 := Int32.toInt_inj.mp (det_ok d3 a1 b3)
  exact Int32.toInt_inj.mp (det_ok d2 hw a3)
def tb_fl : aTb := fun mi i => if mi = 78 ∧ i = 12 then some ([(0, 2147483647, .inl 4)], [], [5], [(5, 5, 0, 95), (1, 1, 3, 3), (34, 34, 8, 8), (39, 47, 4, 5)], 0, true) else none
def tb_go : aTb := fun mi i => if mi = 190 ∧ i = 7 then some ([(0, 2147483647, .inl 2)], [], [3, 4], [(125, 125, 0, 127), (126, 126, 0, 99), (111, 111, 3, 3), (111, 111, 25, 26), (111, 111, 31, 32), (111, 111, 37, 38), (111, 111, 43, 44), (111, 111, 49, 50), (111, 111, 55, 56), (111, 111, 61, 62), (111, 111, 67, 68), (111, 111, 73, 74)], 0, true) else none
def kc_fl : List (Nat × aK) := [(48, k_covers), (50, k_sayAt), (44, k_value), (54, k_gainOver), (55, k_loss), (56, k_worth), (49, k_covered), (57, k_joined), (58, k_clashes), (79, k_seeAgain34F)]
def Wfl : aW := [(5, 5, 0, 95), (1, 1, 3, 3), (34, 34, 7, 9), (39, 47, 4, 5)]
def Wgo : aW := [(125, 125, 0, 127), (126, 126, 0, 99), (111, 111, 2, 4), (111, 111, 25, 26), (111, 111, 31, 32), (111, 111, 37, 38), (111, 111, 43, 44), (111, 111, 49, 50), (111, 111, 55, 56), (111, 111, 61, 62), (111, 111, 67, 68), (111, 111, 73, 74)]
def ecFl (S : aS) : Bool := (match S.2.2.2.1 with
  | [a, b, c, d, e, g] => decide (a = rf5 34) && decide (b = (1, 1, 0, 1)) && decide (c = (1, 1, 1, 2)) && !isL d && !isL e && !isL g
  | _ => false) && S.2.2.2.2.isEmpty && (match cfind S.2.1 (rf5 34) (cn 9) with
  | some v => isDz S.2.2.1 (1, 1, 0, 3) v && decide (v.1 ≤ 1)
  | none => false) && decide (cfind S.2.1 (rf5 34) (cn 7) = some (1, 1, 1, 4))
set_option maxRecDepth 100000 in
set_option maxHeartbeats 40000000 in
theorem ck_fl : aex prog HT Wfl kc_fl true tb_fl (fun i' S => decide (i' = 2) && (ctr S.2.2.1 || ecFl S)) oxN 80 true 50 78 mX6_flow 2 [.inl (77777, 77777), .inl (1, 100), .inl (0, 99), .inl (-2147483648, 2147483647), .inl (0, 20000)] [(rf5 34, cn 9, (1, 1, 0, 3)), (rf5 34, cn 7, (1, 1, 0, 4))] [(0, (1, 1, 0, 2), (1, 1, 0, 1), cn 0)] [rf5 34, (1, 1, 0, 1), (1, 1, 0, 2), any7, any7, any7] [] [] [] = true := by decide +kernel
def ecGo : aG → aC → aD → Option AV → Bool := fun _ C Δ x => decide (x = none) && (match cfind C (rf5 111) (cn 4) with
  | some v => isDz Δ (1, 1, 0, 1) v && decide (v.1 ≤ 1)
  | none => false) && decide (cfind C (rf5 111) (cn 2) = some (1, 1, 1, 2))
set_option maxRecDepth 100000 in
set_option maxHeartbeats 40000000 in
theorem ck_go : aex prog HT Wgo kc_m_goesOn true tb_go noS (oxC ecGo) 200 false 110 190 mX8_goesOn 0 [.inl (77777, 77777), .inl (-2147483648, 2147483647), .inl (0, 20000)] [(rf5 111, cn 4, (1, 1, 0, 1)), (rf5 111, cn 2, (1, 1, 0, 2))] [] [rf5 110, any7, any7, any7, any7] [] [] [] = true := by decide +kernel
def ecCt (S : aS) : Bool := (match S.2.2.2.1, S.2.2.2.2 with
  | [a, b, c], [v, w] => decide (a = rf5 0) && decide (b = (1, 1, 0, 1)) && isI c && decide (w = rf5 34) && isI v && det v && S.2.2.1.any (fun g => decide (g.1 = 22) && decide (g.2.1 = (1, 1, 0, 1)) && decide (g.2.2.1 = (1, -1, 9999, 2)) && decide (g.2.2.2 = v))
  | _, _ => false)
set_option maxRecDepth 100000 in
set_option maxHeartbeats 40000000 in
theorem ck_ct : aex prog HT [] [] true tb0 (fun i' S => decide (i' = 20) && (ctr S.2.2.1 || ecCt S)) oxN 40 false 50 103 mX7_tides 0 [.inl (77777, 77777), .inl (1, 100), .inl (0, 9999)] [(rf5 34, cn 7, (1, 1, 0, 2))] [] [rf5 0, (1, 1, 0, 1), any7] [] [] [] = true := by decide +kernel
section TID
variable {E : pX} {h : List pC}
theorem KF : ∀ p ∈ kc_fl, KGi E pV1 JT p.1 p.2 := by unfold kc_fl; exact (List.forall_mem_cons.mpr ⟨kg_covers JT_P hands, (List.forall_mem_cons.mpr ⟨kg_sayAt JT_P hands, (List.forall_mem_cons.mpr ⟨kg_value JT_P hands, (List.forall_mem_cons.mpr ⟨kg_gainOver JT_P hands, (List.forall_mem_cons.mpr ⟨kg_loss JT_P hands, (List.forall_mem_cons.mpr ⟨kg_worth JT_P hands, (List.forall_mem_cons.mpr ⟨kg_covered JT_P hands, (List.forall_mem_cons.mpr ⟨kg_joined JT_P hands, (List.forall_mem_cons.mpr ⟨kg_clashes JT_P hands, (List.forall_mem_cons.mpr ⟨kg_seeAgain34F, (fun _ h => absurd h List.not_mem_nil)⟩)⟩)⟩)⟩)⟩)⟩)⟩)⟩)⟩)⟩)
theorem KM : ∀ p ∈ kc_m_goesOn, KGi E pV1 JT p.1 p.2 := by unfold kc_m_goesOn; exact (List.forall_mem_cons.mpr ⟨kg_m_saysAt JT_P hands, (List.forall_mem_cons.mpr ⟨kg_m_loses JT_P hands, (List.forall_mem_cons.mpr ⟨kg_m_worth JT_P hands, (List.forall_mem_cons.mpr ⟨kg_m_covers JT_P hands, (List.forall_mem_cons.mpr ⟨kg_m_counts JT_P hands, (List.forall_mem_cons.mpr ⟨kg_m_gains hands, (List.forall_mem_cons.mpr ⟨kg_m_manyIn hands, (List.forall_mem_cons.mpr ⟨kg_m_falseOf JT_P hands, (List.forall_mem_cons.mpr ⟨kg_m_joinBy JT_P hands, (List.forall_mem_cons.mpr ⟨kg_m_doClash JT_P hands, (List.forall_mem_cons.mpr ⟨kg_m_laidOnes JT_P hands, (List.forall_mem_cons.mpr ⟨kg_m_coveredBy JT_P hands, (fun _ h => absurd h List.not_mem_nil)⟩)⟩)⟩)⟩)⟩)⟩)⟩)⟩)⟩)⟩)⟩)⟩)
theorem sixL {L : pL} (h : L.length = 6) : ∃ a b c d e f, L = [a, b, c, d, e, f] := by
  match L, h with
  | [a, b, c, d, e, f], _ => exact ⟨a, b, c, d, e, f, rfl⟩
theorem threeL {L : pL} (h : L.length = 3) : ∃ a b c, L = [a, b, c] := by
  match L, h with
  | [a, b, c], _ => exact ⟨a, b, c, rfl⟩
theorem w_ty (hh : HI HT h) {i : Nat} {p : Int × Int} (he : elT HT 8 34 i i = some (.inl p)) : ct h 34 i = some (.int (ri h 34 i)) := (ri_ty hh he).1
theorem flow_l {d : Nat} (hd : 50 ≤ d + 1) {n : Int32} (hn : n.toInt ≤ 100) : ∀ (m : Nat) (i : Int32) (a3 a4 a5 : Option Value) (h : List pC), i.toInt + m = n.toInt → 0 ≤ i.toInt → pcat2 a3 = false → pcat2 a4 = false → pcat2 a5 = false → HI HT h → JT h → 0 ≤ (ri h 34 7).toInt → (ri h 34 7).toInt + m ≤ 20000 → Gl prog E pV1 (fun r h' => r = none ∧ HI HT h' ∧ JT h' ∧ Fr Wfl h h' ∧ ri h' 34 9 = dzN m (ri h 34 9) ∧ (ri h' 34 7).toInt = (ri h 34 7).toInt + m) (d + 1) mX6_flow 2 [some (.ref 34), some (.int n), some (.int i), a3, a4, a5] [] h [] := by
  intro m
  induction m with
  | zero =>
    intro i a3 a4 a5 h h1 h2 c3 c4 c5 hh hj t0 t1
    refine ⟨none, h, ?_, rfl, hh, hj, Fr.rf _ _, rfl, by omega⟩
    refine RA.steps 2 rfl ?_
    refine RA.if2T (x := 40) rfl (decide_eq_true (Int32.le_iff_toInt_le.mpr (by omega))) ?_
    exact RA.ret rfl rfl
  | succ m ih =>
    intro i a3 a4 a5 h g1 g2 c3 c4 c5 hh hj t0 t1
    refine hop (σ0 := fun t => match t with | 0 => 77777 | 1 => n.toInt | 2 => i.toInt | 3 => (ri h 34 9).toInt | _ => (ri h 34 7).toInt) ck_fl KF (by decide) hj hd (by decide) ⟨⟨Nat.le_refl _, agr.rf _ _⟩, fun k e hk => ?_, ?_, ?_, LG.cons (lGr 34) (LG.cons (lGi (by decide) (by show n.toInt = 1 * n.toInt + 0; omega)) (LG.cons (lGi (by decide) (by show i.toInt = 1 * i.toInt + 0; omega)) (LG.cons (lG.any c3) (LG.cons (lG.any c4) (LG.cons (lG.any c5) LGn))))), trivial, hh, Fr.rf _ _⟩ (fun σ S L' st' h1 hec g => ?_)
    · match k, hk with
      | 0, hk => cases hk; exact ⟨Int.le_refl 77777, Int.le_refl 77777⟩
      | 1, hk => cases hk; exact ⟨by show (1 : Int) ≤ n.toInt; omega, hn⟩
      | 2, hk => cases hk; exact ⟨g2, by show i.toInt ≤ 99; omega⟩
      | 3, hk => cases hk; exact ⟨i32_lo _, i32_hi _⟩
      | 4, hk => cases hk; exact ⟨t0, by show (ri h 34 7).toInt ≤ 20000; omega⟩
      | k + 5, hk => simp at hk
    · exact cok.cs ⟨34, 9, _, Or.inl ⟨rfl, rfl⟩, cnZ _, w_ty hh rfl, Nat.le_refl 1, zG.mk (by decide) (by show (ri h 34 9).toInt = 1 * (ri h 34 9).toInt + 0; omega) (by decide)⟩ (cok.cs ⟨34, 7, _, Or.inl ⟨rfl, rfl⟩, cnZ _, w_ty hh rfl, Nat.le_refl 1, zG.mk (by decide) (by show (ri h 34 7).toInt = 1 * (ri h 34 7).toInt + 0; omega) (by decide)⟩ cok.nil)
    · intro f hf
      obtain rfl := List.mem_singleton.mp hf
      exact ⟨i.toInt, n.toInt, zG.mk (by decide) (by show i.toInt = 1 * i.toInt + 0; omega) (by decide), zG.mk (by decide) (by show n.toInt = 1 * n.toInt + 0; omega) (by decide), (show i.toInt < n.toInt by omega)⟩
    · unfold ecFl at hec
      rw [Bool.and_eq_true, Bool.and_eq_true, Bool.and_eq_true] at hec
      obtain ⟨⟨⟨b1, b2⟩, b3⟩, b4⟩ := hec
      obtain ⟨⟨gn, ga⟩, gk, gc, gf, gL, gS_, gh, gF⟩ := g
      split at b1
      · rename_i xa xb xc xd xe xf hA
        rw [hA] at gL
        simp only [Bool.and_eq_true, decide_eq_true_eq, Bool.not_eq_true'] at b1
        obtain ⟨⟨⟨⟨⟨rfl, rfl⟩, rfl⟩, e3⟩, e4⟩, e5⟩ := b1
        obtain ⟨l0, l1, l2, l3, l4, l5, rfl⟩ := sixL gL.1
        obtain ⟨w0, k0, v0⟩ := gL.at (k := 0) rfl (by decide)
        obtain ⟨w1, k1, v1⟩ := gL.at (k := 1) rfl (by decide)
        obtain ⟨w2, k2, v2⟩ := gL.at (k := 2) rfl (by decide)
        have q3 : pcat2 l3 = false := gL.cat2 (k := 3) rfl (of_decide_eq_false e3)
        have q4 : pcat2 l4 = false := gL.cat2 (k := 4) rfl (of_decide_eq_false e4)
        have q5 : pcat2 l5 = false := gL.cat2 (k := 5) rfl (of_decide_eq_false e5)
        obtain rfl : l0 = some w0 := k0
        obtain rfl : l1 = some w1 := k1
        obtain rfl : l2 = some w2 := k2
        obtain ⟨a, rfl, ha | ha⟩ := v0.ref (Or.inl rfl)
        rotate_left
        · exact absurd ha.1 (show ¬ (5 : Nat) = 6 by decide)
        obtain rfl : a = 34 := ha.2
        obtain ⟨u1, rfl, z1⟩ := v1.int (Nat.le_refl 1)
        obtain ⟨u2, rfl, z2⟩ := v2.int (Nat.le_refl 1)
        have y1 := zsy z1
        have y2 := (z2.lin (show ¬ (1 : Nat) % 2 = 0 by decide)).1
        have s1 : σ 1 = n.toInt := ga 1 (by decide)
        have s2 : σ 2 = i.toInt := ga 2 (by decide)
        have s3 : σ 3 = (ri h 34 9).toInt := ga 3 (by decide)
        have s4 : σ 4 = (ri h 34 7).toInt := ga 4 (by decide)
        obtain rfl : u1 = n := Int32.toInt_inj.mp (y1.trans s1)
        have y2 : u2.toInt = i.toInt + 1 := by
          have y2 : u2.toInt = 1 * σ 2 + 1 := y2
          omega
        obtain rfl : st' = [] := by
          have := gS_
          rw [List.isEmpty_iff.mp b2] at this
          exact this.nil_inv
        have t7 : (ri h1 34 7).toInt = (ri h 34 7).toInt + 1 := by
          have y3 := (((ck_ri gc (of_decide_eq_true b4) (Nat.le_refl 1))).lin (show ¬ (1 : Nat) % 2 = 0 by decide)).1
          have y3 : (ri h1 34 7).toInt = 1 * σ 4 + 1 := y3
          omega
        have t9 : ri h1 34 9 = dz (ri h 34 9) := by
          split at b3
          · rename_i v hv
            rw [Bool.and_eq_true] at b3
            exact isDz_ok gf b3.1 (zG.mk (by decide) (by rw [s3]; omega) (Nat.lt_of_lt_of_le (show 3 < 5 by decide) gn)) (ck_ri gc hv (of_decide_eq_true b3.2))
          · cases b3
        refine (ih u2 l3 l4 l5 h1 (by omega) (by omega) q3 q4 q5 gh (JT_P _ _ _ (by decide) gF hj) (by omega) (by omega)).weak (fun r h2 hp => ?_)
        obtain ⟨p1, p2, p3, p4, p5, p6⟩ := hp
        exact ⟨p1, p2, p3, gF.tr p4, by rw [p5, t9, dzNs], by omega⟩
      · cases b1
theorem goes_x {d : Nat} (hd : 110 ≤ d) (hh : HI HT h) (hj : JT h) (t0 : 0 ≤ (ri h 111 2).toInt) (t1 : (ri h 111 2).toInt ≤ 20000) : ∃ h', Run prog E pV1 d mX8_goesOn [.ref 110] h (none, h', 0, 0) ∧ HI HT h' ∧ JT h' ∧ Fr Wgo h h' ∧ ri h' 111 4 = dz (ri h 111 4) ∧ (ri h' 111 2).toInt = (ri h 111 2).toInt + 1 := by
  obtain ⟨f, p1, u1, -⟩ := hi_int hh HT111
  have c4 : ct h 111 4 = some (.int (ri h 111 4)) := by rw [ct_ri p1 (by decide), ← u1 4 (by decide)]
  have c2 : ct h 111 2 = some (.int (ri h 111 2)) := by rw [ct_ri p1 (by decide), ← u1 2 (by decide)]
  obtain ⟨r, h', q1, q2, q3, q4, rfl, q5, q6⟩ := oxH (E := E) (d := d) (N := mX8_goesOn) (as := [.ref 110]) (σ0 := fun t => match t with | 0 => 77777 | 1 => (ri h 111 4).toInt | _ => (ri h 111 2).toInt) (Q := fun r h' => r = none ∧ ri h' 111 4 = dz (ri h 111 4) ∧ (ri h' 111 2).toInt = (ri h 111 2).toInt + 1) ck_go KM (by decide) hj hd ⟨_, _, rfl⟩ (Nat.le_of_ble_eq_true rfl) ⟨⟨Nat.le_refl _, agr.rf _ _⟩, (fun k e hk => by
      match k, hk with
      | 0, hk => cases hk; exact ⟨Int.le_refl 77777, Int.le_refl 77777⟩
      | 1, hk => cases hk; exact ⟨i32_lo _, i32_hi _⟩
      | 2, hk => cases hk; exact ⟨t0, t1⟩
      | k + 3, hk => simp at hk), cok.cs ⟨111, 4, _, Or.inl ⟨rfl, rfl⟩, cnZ _, c4, Nat.le_refl 1, zG.mk (by decide) (by show (ri h 111 4).toInt = 1 * (ri h 111 4).toInt + 0; omega) (by decide)⟩ (cok.cs ⟨111, 2, _, Or.inl ⟨rfl, rfl⟩, cnZ _, c2, Nat.le_refl 1, zG.mk (by decide) (by show (ri h 111 2).toInt = 1 * (ri h 111 2).toInt + 0; omega) (by decide)⟩ cok.nil), (fun e he => by cases he), LG.cons (lGr 110) (LG.cons (lG.any rfl) (LG.cons (lG.any rfl) (LG.cons (lG.any rfl) (LG.cons (lG.any rfl) LGn)))), trivial, hh, Fr.rf _ _⟩ (fun σ Γ C Δ x r h' hec ga gk gc gf hr => by
    unfold ecGo at hec
    rw [Bool.and_eq_true, Bool.and_eq_true] at hec
    obtain ⟨⟨b1, b2⟩, b3⟩ := hec
    obtain rfl := of_decide_eq_true b1
    have s1 : σ 1 = (ri h 111 4).toInt := ga 1 (by decide)
    have s2 : σ 2 = (ri h 111 2).toInt := ga 2 (by decide)
    refine ⟨?_, ?_, ?_⟩
    · cases r with
      | none => rfl
      | some w => exact hr.elim
    · split at b2
      · rename_i v hv
        rw [Bool.and_eq_true] at b2
        have hcv := ck_ri gc hv (of_decide_eq_true b2.2)
        have hb := b2.1
        exact isDz_ok (s := (1, 1, 0, 1)) (u := ri h 111 4) (gf.up (Nat.le_max_left Γ.length 2) (agr.rf _ _)) hb (zG.mk (by decide) (by rw [s1]; omega) (Nat.lt_of_lt_of_le (show 1 < 2 by decide) (Nat.le_max_right _ _))) (hcv.up (Nat.le_max_left Γ.length 2) (agr.rf _ _))
      · cases b2
    · have y3 := ((ck_ri gc (of_decide_eq_true b3) (Nat.le_refl 1)).lin (show ¬ (1 : Nat) % 2 = 0 by decide)).1
      have y3 : (ri h' 111 2).toInt = 1 * σ 2 + 1 := y3
      omega)
  exact ⟨h', q1, q2, q3, q4, q5, q6⟩
theorem tides_l {d : Nat} (hd : 110 ≤ d) {n f0 : Int32} (hn : n.toInt ≤ 100) : ∀ (m : Nat) (k : Int32) (h : List pC), k.toInt + m = n.toInt → 0 ≤ k.toInt → HI HT h → JT h → 0 ≤ (ri h 111 2).toInt → (ri h 111 2).toInt ≤ 9999 → Gl prog E pV1 (fun r h' => ∃ v : Int32, r = some (.int v) ∧ HI HT h' ∧ JT h' ∧ Fr Wgo h h' ∧ ∃ j : Nat, (j : Int) = min (m : Int) (9999 - (ri h 111 2).toInt) ∧ ri h' 111 4 = dzN j (ri h 111 4) ∧ (ri h' 111 2).toInt = (ri h 111 2).toInt + j) (d + 1) mX8_tides 15 [some (.ref 110), some (.int n), some (.int f0), some (.int k)] [] h [] := by
  have fin : ∀ (k : Int32) (h : List pC), HI HT h → JT h → ∃ v : Int32, RA prog E pV1 (d + 1) mX8_tides 28 [some (.ref 110), some (.int n), some (.int f0), some (.int k)] [] h (some (.int v), h, 0, 0) := by
    intro k h hh hj
    obtain ⟨fs, ho, g0, -⟩ := m_ob hh
    obtain ⟨f, p1, -, -⟩ := hi_int hh HT111
    refine ⟨f 3 - f0, ?_⟩
    refine RA.steps 1 rfl ?_
    refine RA.getf rfl ho rfl g0 ?_
    refine RA.steps 1 rfl ?_
    refine RA.iald rfl p1 ⟨by decide, Nat.le_of_ble_eq_true rfl⟩ (w := f 3) rfl ?_
    refine RA.steps (i' := 34) (L' := [some (.ref 110), some (.int n), some (.int f0), some (.int k)]) (st' := [.int (f 3 - f0)]) (h' := h) 2 rfl ?_
    exact RA.ret rfl rfl
  intro m
  induction m with
  | zero =>
    intro k h h1 h2 hh hj t0 t1
    obtain ⟨v, hv⟩ := fin k h hh hj
    refine ⟨some (.int v), h, ?_, v, rfl, hh, hj, Fr.rf _ _, 0, ?_, rfl, ?_⟩
    · refine RA.steps 2 rfl ?_
      exact RA.if2T (x := 28) rfl (decide_eq_true (Int32.le_iff_toInt_le.mpr (by omega))) hv
    · omega
    · omega
  | succ m ih =>
    intro k h h1 h2 hh hj t0 t1
    obtain ⟨fs, ho, g0, -⟩ := m_ob hh
    obtain ⟨f, p1, u1, -⟩ := hi_int hh HT111
    have e2 : f 2 = ri h 111 2 := (u1 2 (by decide)).symm
    have head : ∀ res, RA prog E pV1 (d + 1) mX8_tides 23 [some (.ref 110), some (.int n), some (.int f0), some (.int k)] [.int 9999, .int (ri h 111 2)] h res → RA prog E pV1 (d + 1) mX8_tides 15 [some (.ref 110), some (.int n), some (.int f0), some (.int k)] [] h res := by
      intro res kk
      refine RA.steps 2 rfl ?_
      refine RA.if2F rfl (decide_eq_false (fun q => by have := Int32.le_iff_toInt_le.mp q; omega)) ?_
      refine RA.steps 1 rfl ?_
      refine RA.getf rfl ho rfl g0 ?_
      refine RA.steps 1 rfl ?_
      refine RA.iald rfl p1 ⟨by decide, Nat.le_of_ble_eq_true rfl⟩ e2 ?_
      exact RA.steps 1 rfl kk
    by_cases c9 : (9999 : Int32) ≤ ri h 111 2
    · have c9' : (9999 : Int) ≤ (ri h 111 2).toInt := Int32.le_iff_toInt_le.mp c9
      obtain ⟨v, hv⟩ := fin k h hh hj
      refine ⟨some (.int v), h, head _ (RA.if2T (x := 28) rfl (decide_eq_true c9) hv), v, rfl, hh, hj, Fr.rf _ _, 0, ?_, rfl, ?_⟩
      · omega
      · omega
    · have c9' : ¬ (9999 : Int) ≤ (ri h 111 2).toInt := fun q => c9 (Int32.le_iff_toInt_le.mpr q)
      obtain ⟨h1', r1, b1, b2, b3, b4, b5⟩ := goes_x (E := E) hd hh hj t0 (by omega)
      have hk1 : (k + 1).toInt = k.toInt + 1 := by
        rw [Int32.toInt_add, show (1 : Int32).toInt = 1 by decide]
        rw [Int.bmod_eq_of_le] <;> omega
      refine Gl.via (i' := 15) (L' := [some (.ref 110), some (.int n), some (.int f0), some (.int (k + 1))]) (st' := []) (h1 := h1') (fun res kk => head _ (RA.if2F rfl (decide_eq_false c9) ?_)) ((ih (k + 1) h1' (by omega) (by omega) b1 b2 (by omega) (by omega)).weak (fun r h2 hp => ?_))
      · refine RA.steps 1 rfl ?_
        refine call110 rfl rfl rfl rfl hh rfl (Nat.le_of_ble_eq_true rfl) r1 ?_
        refine RA.iinc rfl rfl rfl rfl ?_
        exact RA.steps 1 rfl kk
      · obtain ⟨v, p1, p2, p3, p4, j, p5, p6, p7⟩ := hp
        refine ⟨v, p1, p2, p3, b3.tr p4, j + 1, ?_, ?_, ?_⟩
        · push_cast
          omega
        · rw [p6, b4, dzNs]
        · push_cast
          omega
theorem tides_r (x : Int32) (hx : 1 ≤ x.toInt ∧ x.toInt ≤ 100) (hh : HI HT h) (hj : JT h) (t0 : 0 ≤ (ri h 111 2).toInt) (t1 : (ri h 111 2).toInt ≤ 9999) : ∃ (v : Int32) (h' : List pC), Run prog E pV1 120 mX8_tides [.ref 110, .int x] h (some (.int v), h', 0, 0) ∧ HI HT h' ∧ JT h' ∧ Fr Wgo h h' ∧ ∃ j : Nat, (j : Int) = min x.toInt (9999 - (ri h 111 2).toInt) ∧ ri h' 111 4 = dzN j (ri h 111 4) ∧ (ri h' 111 2).toInt = (ri h 111 2).toInt + j := by
  obtain ⟨fs, ho, g0, -⟩ := m_ob hh
  obtain ⟨f, p1, u1, -⟩ := hi_int hh HT111
  obtain ⟨r, h', q1, v, rfl, q2, q3, q4, j, q5, q6, q7⟩ := tides_l (E := E) (d := 119) (n := x) (f0 := f 3) (by decide) hx.2 x.toInt.toNat 0 h (by rw [show (0 : Int32).toInt = 0 by decide]; omega) (by decide) hh hj t0 t1
  refine ⟨v, h', ⟨Nat.le_of_ble_eq_true rfl, ⟨_, _, rfl⟩, ?_⟩, q2, q3, q4, j, by rw [q5, Int.toNat_of_nonneg (by omega)], q6, q7⟩
  refine RA.steps (i' := 4) (L' := [some (.ref 110), some (.int x), none, none]) (st' := [.long (Int32.toInt64 100), .long (Int32.toInt64 1), .long x.toInt64]) (h' := h) 4 rfl ?_
  refine RA.call0 (N := mX8_isIn) (as := [.long x.toInt64, .long (Int32.toInt64 1), .long (Int32.toInt64 100)]) (rest := []) rfl rfl rfl (isIn_t ⟨Int32.le_iff_toInt_le.mpr hx.1, Int32.le_iff_toInt_le.mpr hx.2⟩) ?_
  refine RA.if1T rfl rfl ?_
  refine RA.steps 1 rfl ?_
  refine RA.getf rfl ho rfl g0 ?_
  refine RA.steps 1 rfl ?_
  refine RA.iald rfl p1 ⟨by decide, Nat.le_of_ble_eq_true rfl⟩ (w := f 3) rfl ?_
  exact RA.steps 3 rfl q1
theorem tides_c (x : Int32) (hx : 1 ≤ x.toInt ∧ x.toInt ≤ 100) (hh : HI HT h) (hj : JT h) (t0 : 0 ≤ (ri h 34 7).toInt) (t1 : (ri h 34 7).toInt ≤ 9999) : ∃ (v : Int32) (h' : List pC), Run prog E pV1 120 mX7_tides [.ref 0, .int x] h (some (.int v), h', 0, 0) ∧ HI HT h' ∧ JT h' ∧ Fr Wfl h h' ∧ ∃ j : Nat, (j : Int) = min x.toInt (9999 - (ri h 34 7).toInt) ∧ ri h' 34 9 = dzN j (ri h 34 9) ∧ (ri h' 34 7).toInt = (ri h 34 7).toInt + j := by
  have g : Gl prog E pV1 (fun r h' => ∃ v : Int32, r = some (.int v) ∧ HI HT h' ∧ JT h' ∧ Fr Wfl h h' ∧ ∃ j : Nat, (j : Int) = min x.toInt (9999 - (ri h 34 7).toInt) ∧ ri h' 34 9 = dzN j (ri h 34 9) ∧ (ri h' 34 7).toInt = (ri h 34 7).toInt + j) 120 mX7_tides 0 (pent (m_l mX7_tides) [.ref 0, .int x]) [] h [] := by
    refine hop (σ0 := fun t => match t with | 0 => 77777 | 1 => x.toInt | _ => (ri h 34 7).toInt) ck_ct no_kc (by decide) hj (by decide) (by decide) ⟨⟨Nat.le_refl _, agr.rf _ _⟩, fun k e hk => ?_, ?_, (fun e he => by cases he), LG.cons (lGr 0) (LG.cons (lGi (by decide) (by show x.toInt = 1 * x.toInt + 0; omega)) (LG.cons (lG.any rfl) LGn)), trivial, hh, Fr.rf _ _⟩ (fun σ S L' st' h1 hec g => ?_)
    · match k, hk with
      | 0, hk => cases hk; exact ⟨Int.le_refl 77777, Int.le_refl 77777⟩
      | 1, hk => cases hk; exact hx
      | 2, hk => cases hk; exact ⟨t0, t1⟩
      | k + 3, hk => simp at hk
    · exact cok.cs ⟨34, 7, _, Or.inl ⟨rfl, rfl⟩, cnZ _, w_ty hh rfl, Nat.le_refl 1, zG.mk (by decide) (by show (ri h 34 7).toInt = 1 * (ri h 34 7).toInt + 0; omega) (by decide)⟩ cok.nil
    · unfold ecCt at hec
      obtain ⟨⟨-, ga⟩, gk, gc, gf, gL, gS_, gh, gF⟩ := g
      split at hec
      · rename_i xa xb xc v w hA hS
        rw [hA] at gL
        rw [hS] at gS_
        simp only [Bool.and_eq_true, decide_eq_true_eq] at hec
        obtain ⟨⟨⟨⟨⟨⟨rfl, rfl⟩, e3⟩, rfl⟩, e5⟩, e6⟩, e7⟩ := hec
        obtain ⟨l0, l1, l2, rfl⟩ := threeL gL.1
        obtain ⟨w0, k0, v0⟩ := gL.at (k := 0) rfl (by decide)
        have i3 := isI_t e3
        obtain ⟨w2, k2, v2⟩ := gL.at (k := 2) rfl (by omega)
        obtain rfl : l0 = some w0 := k0
        obtain rfl : l2 = some w2 := k2
        obtain ⟨a, rfl, ha | ha⟩ := v0.ref (Or.inl rfl)
        rotate_left
        · exact absurd ha.1 (show ¬ (5 : Nat) = 6 by decide)
        obtain rfl : a = 0 := ha.2
        obtain ⟨f0, rfl, -⟩ := v2.int i3
        obtain ⟨s1, t1', rfl, y1, ys⟩ := gS_.cons_inv
        obtain ⟨s2, t2', rfl, y2, ys2⟩ := ys.cons_inv
        obtain rfl := ys2.nil_inv
        obtain ⟨n', rfl, z1⟩ := y1.int (isI_t e5)
        obtain ⟨a, rfl, ha | ha⟩ := y2.ref (Or.inl rfl)
        rotate_left
        · exact absurd ha.1 (show ¬ (5 : Nat) = 6 by decide)
        obtain rfl : a = 34 := ha.2
        have hj1 : JT h1 := JT_P _ _ _ (by decide) gF hj
        have q1 : σ 1 = x.toInt := ga 1 (by decide)
        have q2 : σ 2 = (ri h 34 7).toInt := ga 2 (by decide)
        have en : n'.toInt = min x.toInt (9999 - (ri h 34 7).toInt) := by
          obtain ⟨gq, hgm, hg2⟩ := List.any_eq_true.mp e7
          simp only [Bool.and_eq_true, decide_eq_true_eq] at hg2
          obtain ⟨⟨⟨c1, c2⟩, c3⟩, c4⟩ := hg2
          have kf := gf gq hgm
          unfold fcG at kf
          rw [if_neg (by omega)] at kf
          obtain ⟨a, b, a1, a2, a3⟩ := kf
          rw [c2] at a1
          rw [c3] at a2
          rw [c1, c4] at a3
          have a1 : a.toInt = 1 * σ 1 + 0 := (a1.lin (show ¬ (1 : Nat) % 2 = 0 by decide)).1
          have a2 : b.toInt = -1 * σ 2 + 9999 := (a2.lin (show ¬ (1 : Nat) % 2 = 0 by decide)).1
          have e := det_ok e6 z1 a3
          have e : n'.toInt = (if b < a then b else a).toInt := e
          rw [e]
          split
          · rename_i hlt
            have := Int32.lt_iff_toInt_lt.mp hlt
            omega
          · rename_i hlt
            have : ¬ b.toInt < a.toInt := fun q => hlt (Int32.lt_iff_toInt_lt.mpr q)
            omega
        have fr9 : ri h1 34 9 = ri h 34 9 := ri_fr gF (by decide)
        have fr7 : ri h1 34 7 = ri h 34 7 := ri_fr gF (by decide)
        obtain ⟨fr, hr, -, rp⟩ : ∃ h2, Run prog E pV1 119 mX6_flow [.ref 34, .int n'] h1 (none, h2, 0, 0) ∧ True ∧ (HI HT h2 ∧ JT h2 ∧ Fr Wfl h1 h2 ∧ ri h2 34 9 = dzN n'.toInt.toNat (ri h1 34 9) ∧ (ri h2 34 7).toInt = (ri h1 34 7).toInt + n'.toInt.toNat) := by
          obtain ⟨r, h2, k1, rfl, k2⟩ := flow_l (E := E) (d := 118) (by decide) (n := n') (by omega) n'.toInt.toNat 0 none none none h1 (by rw [show (0 : Int32).toInt = 0 by decide]; omega) (by decide) rfl rfl rfl gh hj1 (by rw [fr7]; exact t0) (by rw [fr7]; omega)
          exact ⟨h2, ⟨Nat.le_of_ble_eq_true rfl, ⟨_, _, rfl⟩, RA.steps 2 rfl k1⟩, trivial, k2⟩
        obtain ⟨b1, b2, b3, b4, b5⟩ := rp
        obtain ⟨fs0, ho0, hF0⟩ := hi_obj b1 (a := 0) rfl
        obtain ⟨fs4, ho4, hF4⟩ := hi_obj b1 (a := 34) rfl
        obtain ⟨fd, hfd⟩ := hF4.int (k := 8) rfl
        obtain ⟨o1, ho1, hF1⟩ := hi_obj gh (a := 34) rfl
        refine ⟨some (.int (fd - f0)), fr, ?_, fd - f0, rfl, b1, b2, (gF.sub rfl).tr b3, n'.toInt.toNat, by rw [Int.toNat_of_nonneg (by omega), en], by rw [b4, fr9], by rw [b5, fr7]⟩
        refine RA.call0 (N := mX6_flow) (as := [.ref 34, .int n']) (rest := []) rfl rfl (pcallV rfl rfl ho1 rfl rfl (Nat.le_of_ble_eq_true rfl)) hr ?_
        refine RA.steps 1 rfl ?_
        refine RA.getf rfl ho0 rfl (hF0.ref (k := 1) rfl) ?_
        refine RA.getf rfl ho4 rfl hfd ?_
        refine RA.steps (i' := 26) (L' := [some (.ref 0), l1, some (.int f0)]) (st' := [.int (fd - f0)]) (h' := fr) 2 rfl ?_
        exact RA.ret rfl rfl
      · cases hec
  obtain ⟨r, h', q1, v, rfl, q2⟩ := g
  exact ⟨v, h', ⟨Nat.le_of_ble_eq_true rfl, ⟨_, _, rfl⟩, q1⟩, q2⟩
end TID
/-! ===== deal: what it brings ===== -/
abbrev Ex : Type := (aD → AV → Bool) × (Int32 → Int32)
def xZ : Ex := (fun _ x => decide (x = (1, 1, 0, 3)), fun v => v)
def xC (n : Int32) : Ex := (fun _ x => decide (x = cn n.toInt), fun _ => n)
def xO (c : Nat) (a b : Ex) : Ex := (fun Δ x => det x && Δ.any (fun f => decide (f.1 = c + 10) && decide (f.2.2.2 = x) && a.1 Δ f.2.1 && b.1 Δ f.2.2.1), fun v => opS c (a.2 v) (b.2 v))
def exV (v : Int32) (e : Ex) : Int32 := e.2 v
/-- x is the value of e, by what was worked out -/
def evD (Δ : aD) (e : Ex) (x : AV) : Bool := e.1 Δ x
theorem exVz (v : Int32) : exV v xZ = v := rfl
theorem exVc (v m : Int32) : exV v (xC m) = m := rfl
theorem exVo (v : Int32) (c : Nat) (a b : Ex) : exV v (xO c a b) = opS c (exV v a) (exV v b) := rfl
/-- it tells the truth of e -/
def EvS (e : Ex) : Prop := ∀ (n : Nat) (σ : Nat → Int) (Δ : aD) (v : Int32) (x : AV), fok n σ Δ → σ 3 = v.toInt → 3 < n → evD Δ e x = true → det x = true ∧ zG n σ (exV v e).toInt x
theorem evS_z : EvS xZ := fun n σ Δ v x hf hv h3 h => by
  obtain rfl : x = (1, 1, 0, 3) := of_decide_eq_true h
  rw [exVz]
  exact ⟨rfl, zG.mk (by decide) (by rw [hv]; show v.toInt = 1 * v.toInt + 0; omega) h3⟩
theorem evS_c (m : Int32) : EvS (xC m) := fun n σ Δ v x hf hv h3 h => by
  obtain rfl : x = cn m.toInt := of_decide_eq_true h
  rw [exVc]
  exact ⟨by unfold det cn; simp, cnZ _⟩
theorem evS_o {c : Nat} {a b : Ex} (ha : EvS a) (hb : EvS b) : EvS (xO c a b) := fun n σ Δ v x hf hv h3 h => by
  have h : (det x && Δ.any (fun f => decide (f.1 = c + 10) && decide (f.2.2.2 = x) && evD Δ a f.2.1 && evD Δ b f.2.2.1)) = true := h
  rw [Bool.and_eq_true] at h
  obtain ⟨d1, h⟩ := h
  obtain ⟨f, hm, h⟩ := List.any_eq_true.mp h
  rw [Bool.and_eq_true, Bool.and_eq_true, Bool.and_eq_true] at h
  obtain ⟨⟨⟨f1, f2⟩, f3⟩, f4⟩ := h
  have f1 := of_decide_eq_true f1
  have f2 := of_decide_eq_true f2
  obtain ⟨da, za⟩ := ha n σ Δ v f.2.1 hf hv h3 f3
  obtain ⟨db, zb⟩ := hb n σ Δ v f.2.2.1 hf hv h3 f4
  have k := hf f hm
  unfold fcG at k
  rw [if_neg (by omega)] at k
  obtain ⟨p, q, k1, k2, k3⟩ := k
  obtain rfl : p = exV v a := Int32.toInt_inj.mp (det_ok da k1 za)
  obtain rfl : q = exV v b := Int32.toInt_inj.mp (det_ok db k2 zb)
  rw [f1, f2, show c + 10 - 10 = c by omega] at k3
  rw [exVo]
  exact ⟨d1, k3⟩
theorem evD_ok {n : Nat} {σ : Nat → Int} {Δ : aD} {v : Int32} {e : Ex} (he : EvS e) (hf : fok n σ Δ) (hv : σ 3 = v.toInt) (h3 : 3 < n) (x : AV) (h : evD Δ e x = true) : det x = true ∧ zG n σ (exV v e).toInt x := he n σ Δ v x hf hv h3 h
def eZ1 : Ex := xO 0 (xO 2 xZ (xC 1103515245)) (xC 12345)
def eZ2 : Ex := xO 0 (xO 2 eZ1 (xC 1103515245)) (xC 12345)
def eZ3 : Ex := xO 0 (xO 2 eZ2 (xC 1103515245)) (xC 12345)
def eKD : Ex := xO 9 (xO 8 eZ1 (xC 8)) (xC 6)
def eRW : Ex := xO 9 (xO 8 eZ2 (xC 8)) (xC 65536)
def eSZ : Ex := xO 9 (xO 8 eZ3 (xC 8)) (xC 8)
theorem evS1 : EvS eZ1 := by unfold eZ1; exact evS_o (evS_o evS_z (evS_c _)) (evS_c _)
theorem evS2 : EvS eZ2 := by unfold eZ2; exact evS_o (evS_o evS1 (evS_c _)) (evS_c _)
theorem evS3 : EvS eZ3 := by unfold eZ3; exact evS_o (evS_o evS2 (evS_c _)) (evS_c _)
theorem evSK : EvS eKD := by unfold eKD; exact evS_o (evS_o evS1 (evS_c _)) (evS_c _)
theorem evSR : EvS eRW := by unfold eRW; exact evS_o (evS_o evS2 (evS_c _)) (evS_c _)
theorem evSS : EvS eSZ := by unfold eSZ; exact evS_o (evS_o evS3 (evS_c _)) (evS_c _)
theorem opS0 (a b : Int32) : opS 0 a b = a + b := rfl
theorem opS2 (a b : Int32) : opS 2 a b = a * b := rfl
theorem exDz (v : Int32) (e : Ex) : exV v (xO 0 (xO 2 e (xC 1103515245)) (xC 12345)) = dz (exV v e) := by
  rw [exVo, exVo, exVc, exVc, opS0, opS2, dz]
theorem exZ1 (v : Int32) : exV v eZ1 = dz v := by
  unfold eZ1
  rw [exDz, exVz]
theorem exZ2 (v : Int32) : exV v eZ2 = dz (dz v) := by
  unfold eZ2
  rw [exDz, exZ1]
theorem exZ3 (v : Int32) : exV v eZ3 = dz (dz (dz v)) := by
  unfold eZ3
  rw [exDz, exZ2]
theorem dzN3 (n : Nat) (v : Int32) : dzN (n + 3) v = dzN n (dz (dz (dz v))) := by
  rw [show n + 3 = (n + 2) + 1 from rfl, dzNs, show n + 2 = (n + 1) + 1 from rfl, dzNs, dzNs]
/-- the values of a RUBBING that is dealt -/
def rubG (a b c : Int) : Nat → Int
  | 0 => a
  | 1 => b
  | 2 => c + 1
  | 3 => 0
  | 4 => 16
  | _ => 50
theorem rubG0 (a b c : Int) : rubG a b c 0 = a := rfl
theorem rubG1 (a b c : Int) : rubG a b c 1 = b := rfl
theorem rubG2 (a b c : Int) : rubG a b c 2 = c + 1 := rfl
theorem rubG3 (a b c : Int) : rubG a b c 3 = 0 := rfl
theorem rubG4 (a b c : Int) : rubG a b c 4 = 16 := rfl
theorem rubG5 (a b c : Int) : rubG a b c 5 = 50 := rfl
def rubT (v : Int32) (f : Nat) : Int := rubG (exV v eKD).toInt (exV v eRW).toInt (exV v eSZ).toInt f
def evC (Δ : aD) (C : aC) (p : Nat × Nat) (e : Ex) : Bool := match cfind C (rf5 p.1) (cn (p.2 : Int)) with
  | some x => decide (x.1 ≤ 1) && evD Δ e x
  | none => false
def rbC (Δ : aD) (C : aC) (an ni az zi : Nat) (cl : Nat → Nat → Nat × Nat) (m : Nat) : Bool := decide (cfind C (rf5 an) (cn (ni : Int)) = some (cn (m + 1 : Nat))) && evC Δ C (az, zi) eZ3 && evC Δ C (cl m 0) eKD && evC Δ C (cl m 1) eRW && (match cfind C (rf5 (cl m 2).1) (cn ((cl m 2).2 : Int)) with
  | some x => decide (x.1 = 1) && decide (x.2.1 = 1) && decide (x.2.2.1 = 1) && evD Δ eSZ (1, 1, 0, x.2.2.2)
  | none => false) && decide (cfind C (rf5 (cl m 3).1) (cn ((cl m 3).2 : Int)) = some (cn 0)) && decide (cfind C (rf5 (cl m 4).1) (cn ((cl m 4).2 : Int)) = some (cn 16)) && decide (cfind C (rf5 (cl m 5).1) (cn ((cl m 5).2 : Int)) = some (cn 50))
theorem evC_ok {n : Nat} {σ : Nat → Int} {Δ : aD} {C : aC} {h' : List pC} {v : Int32} {p : Nat × Nat} {e : Ex} (he : EvS e) (hf : fok n σ Δ) (hv : σ 3 = v.toInt) (h3 : 3 < n) (hC : cok n σ h' C) (h : evC Δ C p e = true) : ri h' p.1 p.2 = exV v e := by
  unfold evC at h
  split at h
  · rename_i x hx
    rw [Bool.and_eq_true] at h
    obtain ⟨d, z⟩ := evD_ok he hf hv h3 x h.2
    exact Int32.toInt_inj.mp (det_ok d (ck_ri hC hx (of_decide_eq_true h.1)) z)
  · cases h
theorem rbC_ok {n : Nat} {σ : Nat → Int} {Δ : aD} {C : aC} {h' : List pC} {z : Int32} {an ni az zi m : Nat} {cl : Nat → Nat → Nat × Nat} (hv : σ 3 = z.toInt) (h3 : 3 < n) (hC : cok n σ h' C) (hf : fok n σ Δ) (h : rbC Δ C an ni az zi cl m = true) : (ri h' an ni).toInt = (m + 1 : Nat) ∧ ri h' az zi = dz (dz (dz z)) ∧ ∀ f, f < 6 → (ri h' (cl m f).1 (cl m f).2).toInt = rubT z f := by
  unfold rbC at h
  simp only [Bool.and_eq_true] at h
  obtain ⟨⟨⟨⟨⟨⟨⟨c1, c2⟩, c3⟩, c4⟩, c5⟩, c6⟩, c7⟩, c8⟩ := h
  have con : ∀ {a i : Nat} {k : Int}, decide (cfind C (rf5 a) (cn (i : Int)) = some (cn k)) = true → (ri h' a i).toInt = k := fun hq => zcn (ck_ri hC (of_decide_eq_true hq) (Nat.zero_le _))
  refine ⟨con c1, (evC_ok evS3 hf hv h3 hC c2).trans (exZ3 z), fun f h6 => ?_⟩
  match f, h6 with
  | 0, _ => exact (congrArg Int32.toInt (evC_ok evSK hf hv h3 hC c3)).trans (rubG0 _ _ _).symm
  | 1, _ => exact (congrArg Int32.toInt (evC_ok evSR hf hv h3 hC c4)).trans (rubG1 _ _ _).symm
  | 2, _ =>
    split at c5
    · rename_i x hx
      simp only [Bool.and_eq_true, decide_eq_true_eq] at c5
      obtain ⟨⟨⟨x1, x2⟩, x3⟩, x4⟩ := c5
      obtain ⟨t, a, b, k⟩ := x
      dsimp only at x1 x2 x3 x4
      subst x1 x2 x3
      obtain ⟨-, q1⟩ := evD_ok evSS hf hv h3 _ x4
      have q1 := zsy q1
      have q2 : (ri h' (cl m 2).1 (cl m 2).2).toInt = 1 * σ k + 1 := ((ck_ri hC hx (Nat.le_refl 1)).lin (show ¬ (1 : Nat) % 2 = 0 by decide)).1
      refine Eq.trans ?_ (rubG2 (exV z eKD).toInt (exV z eRW).toInt (exV z eSZ).toInt).symm
      omega
    · cases c5
  | 3, _ => exact (con c6).trans (rubG3 (exV z eKD).toInt (exV z eRW).toInt (exV z eSZ).toInt).symm
  | 4, _ => exact (con c7).trans (rubG4 (exV z eKD).toInt (exV z eRW).toInt (exV z eSZ).toInt).symm
  | 5, _ => exact (con c8).trans (rubG5 (exV z eKD).toInt (exV z eRW).toInt (exV z eSZ).toInt).symm
  | f + 6, h => omega
/-- j RUBBINGS were dealt behind m -/
def DL (an ni az zi : Nat) (cl : Nat → Nat → Nat × Nat) (m j : Nat) (h h' : List pC) : Prop := (ri h' an ni).toInt = (m + j : Nat) ∧ ri h' az zi = dzN (3 * j) (ri h az zi) ∧ ∀ i f, i < 9 → f < 6 → (m ≤ i → i < m + j → (ri h' (cl i f).1 (cl i f).2).toInt = rubT (dzN (3 * (i - m)) (ri h az zi)) f) ∧ (i < m ∨ m + j ≤ i → ri h' (cl i f).1 (cl i f).2 = ri h (cl i f).1 (cl i f).2)
section DLS
variable {an ni az zi m j : Nat} {cl : Nat → Nat → Nat × Nat} {h h1 h2 : List pC}
theorem DL.nil (em : (ri h an ni).toInt = m) : DL an ni az zi cl m 0 h h := ⟨em, rfl, fun i f _ _ => ⟨fun a b => by omega, fun _ => rfl⟩⟩
theorem DL.fr0 (em : (ri h an ni).toInt = m) (hf : Fr [] h h1) : DL an ni az zi cl m 0 h h1 := ⟨by rw [ri_fr hf rfl]; exact em, ri_fr hf rfl, fun i f _ _ => ⟨fun a b => by omega, fun _ => ri_fr hf rfl⟩⟩
theorem DL.eq (er : ∀ a i, ri h1 a i = ri h a i) (hd : DL an ni az zi cl m j h1 h2) : DL an ni az zi cl m j h h2 := by
  obtain ⟨d1, d2, d3⟩ := hd
  refine ⟨d1, by rw [d2, er], fun i f hi hf => ?_⟩
  obtain ⟨k1, k2⟩ := d3 i f hi hf
  exact ⟨fun a b => by rw [k1 a b, er], fun a => by rw [k2 a, er]⟩
theorem DL.cs (hm : m < 9) (r2 : ri h1 az zi = dz (dz (dz (ri h az zi)))) (r3 : ∀ f, f < 6 → (ri h1 (cl m f).1 (cl m f).2).toInt = rubT (ri h az zi) f) (r4 : ∀ i f, i < 9 → f < 6 → i ≠ m → ri h1 (cl i f).1 (cl i f).2 = ri h (cl i f).1 (cl i f).2) (hd : DL an ni az zi cl (m + 1) j h1 h2) : DL an ni az zi cl m (j + 1) h h2 := by
  obtain ⟨d1, d2, d3⟩ := hd
  refine ⟨by rw [d1]; omega, by rw [d2, r2, show 3 * (j + 1) = 3 * j + 3 by omega, dzN3], fun i f hi hf => ?_⟩
  obtain ⟨k1, k2⟩ := d3 i f hi hf
  refine ⟨fun a b => ?_, fun a => ?_⟩
  · by_cases e : i = m
    · subst e
      rw [k2 (Or.inl (by omega)), r3 f hf, show 3 * (i - i) = 0 by omega, dzN0]
    · rw [k1 (by omega) (by omega), r2, show 3 * (i - m) = 3 * (i - (m + 1)) + 3 by omega, dzN3]
  · rw [k2 (by omega), r4 i f hi hf (by omega)]
end DLS
theorem fiveL {L : pL} (h : L.length = 5) : ∃ a b c d e, L = [a, b, c, d, e] := by
  match L, h with
  | [a, b, c, d, e], _ => exact ⟨a, b, c, d, e, rfl⟩
def Wdc : aW := [(34, 34, 5, 5), (34, 34, 9, 9), (39, 47, 0, 5)]
def Wdcm (m : Nat) : aW := [(34, 34, 5, 5), (34, 34, 9, 9), (39 + m, 39 + m, 0, 5)]
def clc : Nat → Nat → Nat × Nat := fun i f => (39 + i, f)
def eac0 (S : aS) : Bool := (match S.2.2.2.1 with
  | [xa, xb, xc, x3, x4, x5] => decide (xa = rf5 0) && decide (xb = (1, 1, 0, 1)) && decide (xc = cn 0) && !isL x3 && !isL x4 && !isL x5
  | _ => false) && S.2.2.2.2.isEmpty
def eac1 (S : aS) : Bool := (match S.2.2.2.1 with
  | [xa, xb, xc, x3, x4, x5] => decide (xa = rf5 0) && decide (xb = (1, 1, 0, 1)) && decide (xc = (1, 1, 1, 2)) && !isL x3 && !isL x4 && !isL x5
  | _ => false) && S.2.2.2.2.isEmpty
def eac2 (S : aS) : Bool := (match S.2.2.2.1 with
  | [xa, xb, xc, x3, x4, x5] => decide (xa = rf5 0) && decide (xb = (1, 1, 0, 1)) && decide (xc = (1, 1, 0, 2)) && !isL x3 && !isL x4 && !isL x5
  | _ => false) && S.2.2.2.2.isEmpty
set_option maxRecDepth 100000 in
set_option maxHeartbeats 40000000 in
theorem kdc0 : aex prog HT [] [] true tb0 (fun i' S => decide (i' = 9) && (ctr S.2.2.1 || eac0 S)) oxN 60 false 50 94 mX7_deal 0 [.inl (77777, 77777), .inl (1, 9)] [] [] [rf5 0, (1, 1, 0, 1), any7, any7, any7, any7] [] [] [] = true := by decide +kernel
set_option maxRecDepth 100000 in
set_option maxHeartbeats 40000000 in
theorem kdc1_0 : (jf [(34, 34, 5, 5), (34, 34, 9, 9), (39, 39, 0, 5)] && subW [(34, 34, 5, 5), (34, 34, 9, 9), (39, 39, 0, 5)] Wdc && aex prog HT [(34, 34, 5, 5), (34, 34, 9, 9), (39, 39, 0, 5)] [] true tb0 (fun i' S => decide (i' = 9) && (ctr S.2.2.1 || (eac1 S && rbC S.2.2.1 S.2.1 34 5 34 9 clc 0))) oxN 150 true 50 94 mX7_deal 9 [.inl (77777, 77777), .inl (1, 9), .inl (0, 8), .inl (-2147483648, 2147483647)] [(rf5 34, cn 5, cn 0), (rf5 34, cn 9, (1, 1, 0, 3))] [(0, (1, 1, 0, 2), (1, 1, 0, 1), cn 0)] [rf5 0, (1, 1, 0, 1), (1, 1, 0, 2), any7, any7, any7] [] [] []) = true := by decide +kernel
set_option maxRecDepth 100000 in
set_option maxHeartbeats 40000000 in
theorem kdc1_1 : (jf [(34, 34, 5, 5), (34, 34, 9, 9), (40, 40, 0, 5)] && subW [(34, 34, 5, 5), (34, 34, 9, 9), (40, 40, 0, 5)] Wdc && aex prog HT [(34, 34, 5, 5), (34, 34, 9, 9), (40, 40, 0, 5)] [] true tb0 (fun i' S => decide (i' = 9) && (ctr S.2.2.1 || (eac1 S && rbC S.2.2.1 S.2.1 34 5 34 9 clc 1))) oxN 150 true 50 94 mX7_deal 9 [.inl (77777, 77777), .inl (1, 9), .inl (0, 8), .inl (-2147483648, 2147483647)] [(rf5 34, cn 5, cn 1), (rf5 34, cn 9, (1, 1, 0, 3))] [(0, (1, 1, 0, 2), (1, 1, 0, 1), cn 0)] [rf5 0, (1, 1, 0, 1), (1, 1, 0, 2), any7, any7, any7] [] [] []) = true := by decide +kernel
set_option maxRecDepth 100000 in
set_option maxHeartbeats 40000000 in
theorem kdc1_2 : (jf [(34, 34, 5, 5), (34, 34, 9, 9), (41, 41, 0, 5)] && subW [(34, 34, 5, 5), (34, 34, 9, 9), (41, 41, 0, 5)] Wdc && aex prog HT [(34, 34, 5, 5), (34, 34, 9, 9), (41, 41, 0, 5)] [] true tb0 (fun i' S => decide (i' = 9) && (ctr S.2.2.1 || (eac1 S && rbC S.2.2.1 S.2.1 34 5 34 9 clc 2))) oxN 150 true 50 94 mX7_deal 9 [.inl (77777, 77777), .inl (1, 9), .inl (0, 8), .inl (-2147483648, 2147483647)] [(rf5 34, cn 5, cn 2), (rf5 34, cn 9, (1, 1, 0, 3))] [(0, (1, 1, 0, 2), (1, 1, 0, 1), cn 0)] [rf5 0, (1, 1, 0, 1), (1, 1, 0, 2), any7, any7, any7] [] [] []) = true := by decide +kernel
set_option maxRecDepth 100000 in
set_option maxHeartbeats 40000000 in
theorem kdc1_3 : (jf [(34, 34, 5, 5), (34, 34, 9, 9), (42, 42, 0, 5)] && subW [(34, 34, 5, 5), (34, 34, 9, 9), (42, 42, 0, 5)] Wdc && aex prog HT [(34, 34, 5, 5), (34, 34, 9, 9), (42, 42, 0, 5)] [] true tb0 (fun i' S => decide (i' = 9) && (ctr S.2.2.1 || (eac1 S && rbC S.2.2.1 S.2.1 34 5 34 9 clc 3))) oxN 150 true 50 94 mX7_deal 9 [.inl (77777, 77777), .inl (1, 9), .inl (0, 8), .inl (-2147483648, 2147483647)] [(rf5 34, cn 5, cn 3), (rf5 34, cn 9, (1, 1, 0, 3))] [(0, (1, 1, 0, 2), (1, 1, 0, 1), cn 0)] [rf5 0, (1, 1, 0, 1), (1, 1, 0, 2), any7, any7, any7] [] [] []) = true := by decide +kernel
set_option maxRecDepth 100000 in
set_option maxHeartbeats 40000000 in
theorem kdc1_4 : (jf [(34, 34, 5, 5), (34, 34, 9, 9), (43, 43, 0, 5)] && subW [(34, 34, 5, 5), (34, 34, 9, 9), (43, 43, 0, 5)] Wdc && aex prog HT [(34, 34, 5, 5), (34, 34, 9, 9), (43, 43, 0, 5)] [] true tb0 (fun i' S => decide (i' = 9) && (ctr S.2.2.1 || (eac1 S && rbC S.2.2.1 S.2.1 34 5 34 9 clc 4))) oxN 150 true 50 94 mX7_deal 9 [.inl (77777, 77777), .inl (1, 9), .inl (0, 8), .inl (-2147483648, 2147483647)] [(rf5 34, cn 5, cn 4), (rf5 34, cn 9, (1, 1, 0, 3))] [(0, (1, 1, 0, 2), (1, 1, 0, 1), cn 0)] [rf5 0, (1, 1, 0, 1), (1, 1, 0, 2), any7, any7, any7] [] [] []) = true := by decide +kernel
set_option maxRecDepth 100000 in
set_option maxHeartbeats 40000000 in
theorem kdc1_5 : (jf [(34, 34, 5, 5), (34, 34, 9, 9), (44, 44, 0, 5)] && subW [(34, 34, 5, 5), (34, 34, 9, 9), (44, 44, 0, 5)] Wdc && aex prog HT [(34, 34, 5, 5), (34, 34, 9, 9), (44, 44, 0, 5)] [] true tb0 (fun i' S => decide (i' = 9) && (ctr S.2.2.1 || (eac1 S && rbC S.2.2.1 S.2.1 34 5 34 9 clc 5))) oxN 150 true 50 94 mX7_deal 9 [.inl (77777, 77777), .inl (1, 9), .inl (0, 8), .inl (-2147483648, 2147483647)] [(rf5 34, cn 5, cn 5), (rf5 34, cn 9, (1, 1, 0, 3))] [(0, (1, 1, 0, 2), (1, 1, 0, 1), cn 0)] [rf5 0, (1, 1, 0, 1), (1, 1, 0, 2), any7, any7, any7] [] [] []) = true := by decide +kernel
set_option maxRecDepth 100000 in
set_option maxHeartbeats 40000000 in
theorem kdc1_6 : (jf [(34, 34, 5, 5), (34, 34, 9, 9), (45, 45, 0, 5)] && subW [(34, 34, 5, 5), (34, 34, 9, 9), (45, 45, 0, 5)] Wdc && aex prog HT [(34, 34, 5, 5), (34, 34, 9, 9), (45, 45, 0, 5)] [] true tb0 (fun i' S => decide (i' = 9) && (ctr S.2.2.1 || (eac1 S && rbC S.2.2.1 S.2.1 34 5 34 9 clc 6))) oxN 150 true 50 94 mX7_deal 9 [.inl (77777, 77777), .inl (1, 9), .inl (0, 8), .inl (-2147483648, 2147483647)] [(rf5 34, cn 5, cn 6), (rf5 34, cn 9, (1, 1, 0, 3))] [(0, (1, 1, 0, 2), (1, 1, 0, 1), cn 0)] [rf5 0, (1, 1, 0, 1), (1, 1, 0, 2), any7, any7, any7] [] [] []) = true := by decide +kernel
set_option maxRecDepth 100000 in
set_option maxHeartbeats 40000000 in
theorem kdc1_7 : (jf [(34, 34, 5, 5), (34, 34, 9, 9), (46, 46, 0, 5)] && subW [(34, 34, 5, 5), (34, 34, 9, 9), (46, 46, 0, 5)] Wdc && aex prog HT [(34, 34, 5, 5), (34, 34, 9, 9), (46, 46, 0, 5)] [] true tb0 (fun i' S => decide (i' = 9) && (ctr S.2.2.1 || (eac1 S && rbC S.2.2.1 S.2.1 34 5 34 9 clc 7))) oxN 150 true 50 94 mX7_deal 9 [.inl (77777, 77777), .inl (1, 9), .inl (0, 8), .inl (-2147483648, 2147483647)] [(rf5 34, cn 5, cn 7), (rf5 34, cn 9, (1, 1, 0, 3))] [(0, (1, 1, 0, 2), (1, 1, 0, 1), cn 0)] [rf5 0, (1, 1, 0, 1), (1, 1, 0, 2), any7, any7, any7] [] [] []) = true := by decide +kernel
set_option maxRecDepth 100000 in
set_option maxHeartbeats 40000000 in
theorem kdc1_8 : (jf [(34, 34, 5, 5), (34, 34, 9, 9), (47, 47, 0, 5)] && subW [(34, 34, 5, 5), (34, 34, 9, 9), (47, 47, 0, 5)] Wdc && aex prog HT [(34, 34, 5, 5), (34, 34, 9, 9), (47, 47, 0, 5)] [] true tb0 (fun i' S => decide (i' = 9) && (ctr S.2.2.1 || (eac1 S && rbC S.2.2.1 S.2.1 34 5 34 9 clc 8))) oxN 150 true 50 94 mX7_deal 9 [.inl (77777, 77777), .inl (1, 9), .inl (0, 8), .inl (-2147483648, 2147483647)] [(rf5 34, cn 5, cn 8), (rf5 34, cn 9, (1, 1, 0, 3))] [(0, (1, 1, 0, 2), (1, 1, 0, 1), cn 0)] [rf5 0, (1, 1, 0, 1), (1, 1, 0, 2), any7, any7, any7] [] [] []) = true := by decide +kernel
theorem kdc1 : ∀ m : Nat, m < 9 → (jf (Wdcm m) && subW (Wdcm m) Wdc && aex prog HT (Wdcm m) [] true tb0 (fun i' S => decide (i' = 9) && (ctr S.2.2.1 || (eac1 S && rbC S.2.2.1 S.2.1 34 5 34 9 clc m))) oxN 150 true 50 94 mX7_deal 9 [.inl (77777, 77777), .inl (1, 9), .inl (0, 8), .inl (-2147483648, 2147483647)] [(rf5 34, cn 5, cn m), (rf5 34, cn 9, (1, 1, 0, 3))] [(0, (1, 1, 0, 2), (1, 1, 0, 1), cn 0)] [rf5 0, (1, 1, 0, 1), (1, 1, 0, 2), any7, any7, any7] [] [] []) = true
  | 0, _ => kdc1_0
  | 1, _ => kdc1_1
  | 2, _ => kdc1_2
  | 3, _ => kdc1_3
  | 4, _ => kdc1_4
  | 5, _ => kdc1_5
  | 6, _ => kdc1_6
  | 7, _ => kdc1_7
  | 8, _ => kdc1_8
  | m + 9, h => absurd h (by omega)
set_option maxRecDepth 100000 in
set_option maxHeartbeats 40000000 in
theorem kdc2 : aex prog HT [] [] true tb0 (fun i' S => decide (i' = 45) && (ctr S.2.2.1 || eac2 S)) oxN 60 true 50 94 mX7_deal 9 [.inl (77777, 77777), .inl (1, 9), .inl (0, 9)] [(rf5 34, cn 5, cn 9)] [] [rf5 0, (1, 1, 0, 1), (1, 1, 0, 2), any7, any7, any7] [] [] [] = true := by decide +kernel
section DEALC
variable {E : pX} {h : List pC}
theorem ct_cd (hh : HI HT h) : ct h 34 5 = some (.int (ri h 34 5)) ∧ ct h 34 9 = some (.int (ri h 34 9)) := ⟨(ri_ty (k := 8) (a := 34) (i := 5) (p := (0, 9)) hh rfl).1, (ri_ty (k := 8) (a := 34) (i := 9) (p := (-2147483648, 2147483647)) hh rfl).1⟩
theorem deal_cl {d : Nat} (hd : 50 ≤ d + 1) {n : Int32} (hn0 : 1 ≤ n.toInt) (hn : n.toInt ≤ 9) : ∀ (t : Nat) (c : Int32) (a3 a4 a5 : Option Value) (h : List pC) (m : Nat), m ≤ 9 → c.toInt + t = n.toInt → 0 ≤ c.toInt → pcat2 a3 = false → pcat2 a4 = false → pcat2 a5 = false → HI HT h → JT h → (ri h 34 5).toInt = m → Gl prog E pV1 (fun r h' => ∃ (j : Nat) (v : Int32), (j : Int) = min (t : Int) (9 - m) ∧ r = some (.int v) ∧ v.toInt = c.toInt + j ∧ HI HT h' ∧ JT h' ∧ Fr Wdc h h' ∧ DL 34 5 34 9 clc m j h h') (d + 1) mX7_deal 9 [some (.ref 0), some (.int n), some (.int c), a3, a4, a5] [] h [] := by
  intro t
  induction t with
  | zero =>
    intro c a3 a4 a5 h m h9 h1 h2 c3 c4 c5 hh hj em
    refine ⟨some (.int c), h, ?_, 0, c, by omega, rfl, by omega, hh, hj, Fr.rf _ _, DL.nil em⟩
    refine RA.steps 2 rfl ?_
    refine RA.if2T (x := 45) rfl (decide_eq_true (Int32.le_iff_toInt_le.mpr (by omega))) ?_
    refine RA.steps 1 rfl ?_
    exact RA.ret rfl rfl
  | succ t ih =>
    intro c a3 a4 a5 h m h9 h1 h2 c3 c4 c5 hh hj em
    obtain ⟨cn1, cz1⟩ := ct_cd hh
    by_cases hm9 : m = 9
    · subst hm9
      refine hop (σ0 := fun t => match t with | 0 => 77777 | 1 => n.toInt | _ => c.toInt) kdc2 no_kc (by decide) hj hd (by decide) ⟨⟨Nat.le_refl _, agr.rf _ _⟩, fun k e hk => ?_, ?_, (fun e he => by cases he), LG.cons (lGr 0) (LG.cons (lGi (show 1 < 3 by decide) (by show n.toInt = 1 * n.toInt + 0; omega)) (LG.cons (lGi (show 2 < 3 by decide) (by show c.toInt = 1 * c.toInt + 0; omega)) (LG.cons (lG.any c3) (LG.cons (lG.any c4) (LG.cons (lG.any c5) LGn))))), trivial, hh, Fr.rf _ _⟩ (fun σ S L' st' h1' hec g => ?_)
      · match k, hk with
        | 0, hk => cases hk; exact ⟨Int.le_refl 77777, Int.le_refl 77777⟩
        | 1, hk => cases hk; exact ⟨hn0, hn⟩
        | 2, hk => cases hk; exact ⟨h2, by show c.toInt ≤ 9; omega⟩
        | k + 3, hk => simp at hk
      · exact cok.cs ⟨34, 5, _, Or.inl ⟨rfl, rfl⟩, cnZ _, cn1, Nat.zero_le _, by rw [em]; exact cnZ _⟩ cok.nil
      · unfold eac2 at hec
        rw [Bool.and_eq_true] at hec
        obtain ⟨b1, b2⟩ := hec
        obtain ⟨⟨gn, ga⟩, gk, gc, gf, gL, gS_, gh, gF⟩ := g
        split at b1
        · rename_i xa xb xc x3 x4 x5 hA
          rw [hA] at gL
          simp only [Bool.and_eq_true, decide_eq_true_eq, Bool.not_eq_true'] at b1
          obtain ⟨⟨⟨⟨⟨rfl, rfl⟩, rfl⟩, e3⟩, e4⟩, e5⟩ := b1
          obtain ⟨l0, l1, l2, l3, l4, l5, rfl⟩ := sixL gL.1
          obtain ⟨w0, k0, v0⟩ := gL.at (k := 0) rfl (by decide)
          obtain ⟨w1, k1, v1⟩ := gL.at (k := 1) rfl (by decide)
          obtain ⟨w2, k2, v2⟩ := gL.at (k := 2) rfl (by decide)
          have q3 : pcat2 l3 = false := gL.cat2 (k := 3) rfl (of_decide_eq_false e3)
          have q4 : pcat2 l4 = false := gL.cat2 (k := 4) rfl (of_decide_eq_false e4)
          have q5 : pcat2 l5 = false := gL.cat2 (k := 5) rfl (of_decide_eq_false e5)
          obtain rfl : l0 = some w0 := k0
          obtain rfl : l1 = some w1 := k1
          obtain rfl : l2 = some w2 := k2
          obtain ⟨a, rfl, ha | ha⟩ := v0.ref (Or.inl rfl)
          rotate_left
          · exact absurd ha.1 (show ¬ (5 : Nat) = 6 by decide)
          obtain rfl : a = 0 := ha.2
          obtain ⟨u1, rfl, z1⟩ := v1.int (Nat.le_refl 1)
          obtain ⟨u2, rfl, z2⟩ := v2.int (by decide)
          obtain rfl : u1 = n := Int32.toInt_inj.mp ((zsy z1).trans (ga 1 (by decide)))
          obtain rfl : st' = [] := by
            have := gS_
            rw [List.isEmpty_iff.mp b2] at this
            exact this.nil_inv
          obtain rfl : u2 = c := Int32.toInt_inj.mp ((zsy z2).trans (ga 2 (by decide)))
          have hj1 : JT h1' := JT_P _ _ _ (by decide) gF hj
          refine ⟨some (.int u2), h1', ?_, 0, u2, by omega, rfl, by omega, gh, hj1, gF.sub rfl, DL.fr0 em gF⟩
          refine RA.steps 1 rfl ?_
          exact RA.ret rfl rfl
        · cases b1
    · have hm8 : m < 9 := by omega
      have hck := kdc1 m hm8
      rw [Bool.and_eq_true, Bool.and_eq_true] at hck
      obtain ⟨⟨hjf, hsw⟩, hck⟩ := hck
      refine hop (σ0 := fun t => match t with | 0 => 77777 | 1 => n.toInt | 2 => c.toInt | _ => (ri h 34 9).toInt) hck no_kc hjf hj hd (by decide) ⟨⟨Nat.le_refl _, agr.rf _ _⟩, fun k e hk => ?_, ?_, ?_, LG.cons (lGr 0) (LG.cons (lGi (show 1 < 4 by decide) (by show n.toInt = 1 * n.toInt + 0; omega)) (LG.cons (lGi (show 2 < 4 by decide) (by show c.toInt = 1 * c.toInt + 0; omega)) (LG.cons (lG.any c3) (LG.cons (lG.any c4) (LG.cons (lG.any c5) LGn))))), trivial, hh, Fr.rf _ _⟩ (fun σ S L' st' h1' hec g => ?_)
      · match k, hk with
        | 0, hk => cases hk; exact ⟨Int.le_refl 77777, Int.le_refl 77777⟩
        | 1, hk => cases hk; exact ⟨hn0, hn⟩
        | 2, hk => cases hk; exact ⟨h2, by show c.toInt ≤ 8; omega⟩
        | 3, hk => cases hk; exact ⟨i32_lo _, i32_hi _⟩
        | k + 4, hk => simp at hk
      · exact cok.cs ⟨34, 5, _, Or.inl ⟨rfl, rfl⟩, cnZ _, cn1, Nat.zero_le _, by rw [em]; exact cnZ _⟩ (cok.cs ⟨34, 9, _, Or.inl ⟨rfl, rfl⟩, cnZ _, cz1, Nat.le_refl 1, zG.mk (by decide) (by show (ri h 34 9).toInt = 1 * (ri h 34 9).toInt + 0; omega) (show 3 < 4 by decide)⟩ cok.nil)
      · intro f hf
        obtain rfl := List.mem_singleton.mp hf
        exact ⟨c.toInt, n.toInt, zG.mk (by decide) (by show c.toInt = 1 * c.toInt + 0; omega) (show 2 < 4 by decide), zG.mk (by decide) (by show n.toInt = 1 * n.toInt + 0; omega) (show 1 < 4 by decide), (show c.toInt < n.toInt by omega)⟩
      · unfold eac1 at hec
        rw [Bool.and_eq_true, Bool.and_eq_true] at hec
        obtain ⟨⟨b1, b2⟩, b3⟩ := hec
        obtain ⟨⟨gn, ga⟩, gk, gc, gf, gL, gS_, gh, gF⟩ := g
        split at b1
        · rename_i xa xb xc x3 x4 x5 hA
          rw [hA] at gL
          simp only [Bool.and_eq_true, decide_eq_true_eq, Bool.not_eq_true'] at b1
          obtain ⟨⟨⟨⟨⟨rfl, rfl⟩, rfl⟩, e3⟩, e4⟩, e5⟩ := b1
          obtain ⟨l0, l1, l2, l3, l4, l5, rfl⟩ := sixL gL.1
          obtain ⟨w0, k0, v0⟩ := gL.at (k := 0) rfl (by decide)
          obtain ⟨w1, k1, v1⟩ := gL.at (k := 1) rfl (by decide)
          obtain ⟨w2, k2, v2⟩ := gL.at (k := 2) rfl (by decide)
          have q3 : pcat2 l3 = false := gL.cat2 (k := 3) rfl (of_decide_eq_false e3)
          have q4 : pcat2 l4 = false := gL.cat2 (k := 4) rfl (of_decide_eq_false e4)
          have q5 : pcat2 l5 = false := gL.cat2 (k := 5) rfl (of_decide_eq_false e5)
          obtain rfl : l0 = some w0 := k0
          obtain rfl : l1 = some w1 := k1
          obtain rfl : l2 = some w2 := k2
          obtain ⟨a, rfl, ha | ha⟩ := v0.ref (Or.inl rfl)
          rotate_left
          · exact absurd ha.1 (show ¬ (5 : Nat) = 6 by decide)
          obtain rfl : a = 0 := ha.2
          obtain ⟨u1, rfl, z1⟩ := v1.int (Nat.le_refl 1)
          obtain ⟨u2, rfl, z2⟩ := v2.int (by decide)
          obtain rfl : u1 = n := Int32.toInt_inj.mp ((zsy z1).trans (ga 1 (by decide)))
          obtain rfl : st' = [] := by
            have := gS_
            rw [List.isEmpty_iff.mp b2] at this
            exact this.nil_inv
          have y2 : u2.toInt = c.toInt + 1 := by
            have y2 : u2.toInt = 1 * σ 2 + 1 := (z2.lin (show ¬ (1 : Nat) % 2 = 0 by decide)).1
            have s2 : σ 2 = c.toInt := ga 2 (by decide)
            omega
          obtain ⟨r1, r2, r3⟩ := rbC_ok (z := ri h 34 9) (ga 3 (by decide)) (Nat.lt_of_lt_of_le (show 3 < 4 by decide) gn) gc gf b3
          have hj1 : JT h1' := JT_P _ _ _ hjf gF hj
          refine (ih u2 l3 l4 l5 h1' (m + 1) (by omega) (by omega) (by omega) q3 q4 q5 gh hj1 r1).weak (fun r h2' hp => ?_)
          obtain ⟨j, v, p1, p2, p3, p4, p5, p6, p7⟩ := hp
          refine ⟨j + 1, v, by omega, p2, by omega, p4, p5, (gF.sub hsw).tr p6, DL.cs hm8 r2 r3 (fun i f hi hf hne => ri_fr gF (nin_iff.mpr ?_)) p7⟩
          simp only [Wdcm, clc, List.forall_mem_cons]
          exact ⟨by omega, by omega, by omega, fun _ h => absurd h List.not_mem_nil⟩
        · cases b1
theorem deal_c (x : Int32) (hx : 1 ≤ x.toInt ∧ x.toInt ≤ 9) (hh : HI HT h) (hj : JT h) {m : Nat} (h9 : m ≤ 9) (em : (ri h 34 5).toInt = m) : ∃ (j : Nat) (v : Int32) (h' : List pC), Run prog E pV1 120 mX7_deal [.ref 0, .int x] h (some (.int v), h', 0, 0) ∧ (j : Int) = min x.toInt (9 - m) ∧ v.toInt = j ∧ HI HT h' ∧ JT h' ∧ Fr Wdc h h' ∧ DL 34 5 34 9 clc m j h h' := by
  have g : Gl prog E pV1 (fun r h' => ∃ (j : Nat) (v : Int32), (j : Int) = min x.toInt (9 - m) ∧ r = some (.int v) ∧ v.toInt = j ∧ HI HT h' ∧ JT h' ∧ Fr Wdc h h' ∧ DL 34 5 34 9 clc m j h h') 120 mX7_deal 0 (pent (m_l mX7_deal) [.ref 0, .int x]) [] h [] := by
    refine hop (σ0 := fun t => match t with | 0 => 77777 | _ => x.toInt) kdc0 no_kc (by decide) hj (by decide) (by decide) ⟨⟨Nat.le_refl _, agr.rf _ _⟩, fun k e hk => ?_, (fun e he => by cases he), (fun e he => by cases he), LG.cons (lGr 0) (LG.cons (lGi (by decide) (by show x.toInt = 1 * x.toInt + 0; omega)) (LG.cons (lG.any rfl) (LG.cons (lG.any rfl) (LG.cons (lG.any rfl) (LG.cons (lG.any rfl) LGn))))), trivial, hh, Fr.rf _ _⟩ (fun σ S L' st' h1' hec g => ?_)
    · match k, hk with
      | 0, hk => cases hk; exact ⟨Int.le_refl 77777, Int.le_refl 77777⟩
      | 1, hk => cases hk; exact hx
      | k + 2, hk => simp at hk
    · unfold eac0 at hec
      rw [Bool.and_eq_true] at hec
      obtain ⟨b1, b2⟩ := hec
      obtain ⟨⟨gn, ga⟩, gk, gc, gf, gL, gS_, gh, gF⟩ := g
      split at b1
      · rename_i xa xb xc x3 x4 x5 hA
        rw [hA] at gL
        simp only [Bool.and_eq_true, decide_eq_true_eq, Bool.not_eq_true'] at b1
        obtain ⟨⟨⟨⟨⟨rfl, rfl⟩, rfl⟩, e3⟩, e4⟩, e5⟩ := b1
        obtain ⟨l0, l1, l2, l3, l4, l5, rfl⟩ := sixL gL.1
        obtain ⟨w0, k0, v0⟩ := gL.at (k := 0) rfl (by decide)
        obtain ⟨w1, k1, v1⟩ := gL.at (k := 1) rfl (by decide)
        obtain ⟨w2, k2, v2⟩ := gL.at (k := 2) rfl (by decide)
        have q3 : pcat2 l3 = false := gL.cat2 (k := 3) rfl (of_decide_eq_false e3)
        have q4 : pcat2 l4 = false := gL.cat2 (k := 4) rfl (of_decide_eq_false e4)
        have q5 : pcat2 l5 = false := gL.cat2 (k := 5) rfl (of_decide_eq_false e5)
        obtain rfl : l0 = some w0 := k0
        obtain rfl : l1 = some w1 := k1
        obtain rfl : l2 = some w2 := k2
        obtain ⟨a, rfl, ha | ha⟩ := v0.ref (Or.inl rfl)
        rotate_left
        · exact absurd ha.1 (show ¬ (5 : Nat) = 6 by decide)
        obtain rfl : a = 0 := ha.2
        obtain ⟨u1, rfl, z1⟩ := v1.int (Nat.le_refl 1)
        obtain ⟨u2, rfl, z2⟩ := v2.int (by decide)
        obtain rfl : u1 = x := Int32.toInt_inj.mp ((zsy z1).trans (ga 1 (by decide)))
        obtain rfl : st' = [] := by
          have := gS_
          rw [List.isEmpty_iff.mp b2] at this
          exact this.nil_inv
        obtain rfl : u2 = 0 := Int32.toInt_inj.mp ((zcn z2).trans (by decide))
        have hj1 : JT h1' := JT_P _ _ _ (by decide) gF hj
        have er : ∀ a i, ri h1' a i = ri h a i := fun a i => ri_fr gF rfl
        refine (deal_cl (E := E) (d := 119) (by decide) hx.1 hx.2 u1.toInt.toNat 0 l3 l4 l5 h1' m h9 (by rw [show (0 : Int32).toInt = 0 by decide]; omega) (by decide) q3 q4 q5 gh hj1 (by rw [er]; exact em)).weak (fun r h2' hp => ?_)
        obtain ⟨j, v, p1, p2, p3, p4, p5, p6, p7⟩ := hp
        exact ⟨j, v, by omega, p2, (by have e0 : (0 : Int32).toInt = 0 := (by decide); omega), p4, p5, (gF.sub rfl).tr p6, DL.eq er p7⟩
      · cases b1
  obtain ⟨r, h', q1, j, v, q2, rfl, q3⟩ := g
  exact ⟨j, v, h', ⟨Nat.le_of_ble_eq_true rfl, ⟨_, _, rfl⟩, q1⟩, q2, q3⟩
end DEALC
def Wdr : aW := [(111, 111, 0, 0), (111, 111, 4, 4), (111, 111, 21, 74)]
def Wdrm (m : Nat) : aW := [(111, 111, 0, 0), (111, 111, 4, 4), (111, 111, 21 + 6 * m, 26 + 6 * m)]
def clr : Nat → Nat → Nat × Nat := fun i f => (111, 21 + 6 * i + f)
def ear0 (S : aS) : Bool := (match S.2.2.2.1 with
  | [xa, xb, xc, x3, x4] => decide (xa = rf5 110) && decide (xb = (1, 1, 0, 1)) && decide (xc = cn 0) && !isL x3 && !isL x4
  | _ => false) && S.2.2.2.2.isEmpty
def ear1 (S : aS) : Bool := (match S.2.2.2.1 with
  | [xa, xb, xc, x3, x4] => decide (xa = rf5 110) && decide (xb = (1, 1, 0, 1)) && decide (xc = (1, 1, 1, 2)) && !isL x3 && !isL x4
  | _ => false) && S.2.2.2.2.isEmpty
def ear2 (S : aS) : Bool := (match S.2.2.2.1 with
  | [xa, xb, xc, x3, x4] => decide (xa = rf5 110) && decide (xb = (1, 1, 0, 1)) && decide (xc = (1, 1, 0, 2)) && !isL x3 && !isL x4
  | _ => false) && S.2.2.2.2.isEmpty
set_option maxRecDepth 100000 in
set_option maxHeartbeats 40000000 in
theorem kdr0 : aex prog HT [] [] true tb0 (fun i' S => decide (i' = 10) && (ctr S.2.2.1 || ear0 S)) oxN 60 false 110 173 mX8_deal 0 [.inl (77777, 77777), .inl (1, 9)] [] [] [rf5 110, (1, 1, 0, 1), any7, any7, any7] [] [] [] = true := by decide +kernel
set_option maxRecDepth 100000 in
set_option maxHeartbeats 40000000 in
theorem kdr1_0 : (jf [(111, 111, 0, 0), (111, 111, 4, 4), (111, 111, 21, 26)] && subW [(111, 111, 0, 0), (111, 111, 4, 4), (111, 111, 21, 26)] Wdr && aex prog HT [(111, 111, 0, 0), (111, 111, 4, 4), (111, 111, 21, 26)] [] true tb0 (fun i' S => decide (i' = 10) && (ctr S.2.2.1 || (ear1 S && rbC S.2.2.1 S.2.1 111 0 111 4 clr 0))) oxN 215 true 110 173 mX8_deal 10 [.inl (77777, 77777), .inl (1, 9), .inl (0, 8), .inl (-2147483648, 2147483647)] [(rf5 111, cn 0, cn 0), (rf5 111, cn 4, (1, 1, 0, 3))] [(0, (1, 1, 0, 2), (1, 1, 0, 1), cn 0)] [rf5 110, (1, 1, 0, 1), (1, 1, 0, 2), any7, any7] [] [] []) = true := by decide +kernel
set_option maxRecDepth 100000 in
set_option maxHeartbeats 40000000 in
theorem kdr1_1 : (jf [(111, 111, 0, 0), (111, 111, 4, 4), (111, 111, 27, 32)] && subW [(111, 111, 0, 0), (111, 111, 4, 4), (111, 111, 27, 32)] Wdr && aex prog HT [(111, 111, 0, 0), (111, 111, 4, 4), (111, 111, 27, 32)] [] true tb0 (fun i' S => decide (i' = 10) && (ctr S.2.2.1 || (ear1 S && rbC S.2.2.1 S.2.1 111 0 111 4 clr 1))) oxN 215 true 110 173 mX8_deal 10 [.inl (77777, 77777), .inl (1, 9), .inl (0, 8), .inl (-2147483648, 2147483647)] [(rf5 111, cn 0, cn 1), (rf5 111, cn 4, (1, 1, 0, 3))] [(0, (1, 1, 0, 2), (1, 1, 0, 1), cn 0)] [rf5 110, (1, 1, 0, 1), (1, 1, 0, 2), any7, any7] [] [] []) = true := by decide +kernel
set_option maxRecDepth 100000 in
set_option maxHeartbeats 40000000 in
theorem kdr1_2 : (jf [(111, 111, 0, 0), (111, 111, 4, 4), (111, 111, 33, 38)] && subW [(111, 111, 0, 0), (111, 111, 4, 4), (111, 111, 33, 38)] Wdr && aex prog HT [(111, 111, 0, 0), (111, 111, 4, 4), (111, 111, 33, 38)] [] true tb0 (fun i' S => decide (i' = 10) && (ctr S.2.2.1 || (ear1 S && rbC S.2.2.1 S.2.1 111 0 111 4 clr 2))) oxN 215 true 110 173 mX8_deal 10 [.inl (77777, 77777), .inl (1, 9), .inl (0, 8), .inl (-2147483648, 2147483647)] [(rf5 111, cn 0, cn 2), (rf5 111, cn 4, (1, 1, 0, 3))] [(0, (1, 1, 0, 2), (1, 1, 0, 1), cn 0)] [rf5 110, (1, 1, 0, 1), (1, 1, 0, 2), any7, any7] [] [] []) = true := by decide +kernel
set_option maxRecDepth 100000 in
set_option maxHeartbeats 40000000 in
theorem kdr1_3 : (jf [(111, 111, 0, 0), (111, 111, 4, 4), (111, 111, 39, 44)] && subW [(111, 111, 0, 0), (111, 111, 4, 4), (111, 111, 39, 44)] Wdr && aex prog HT [(111, 111, 0, 0), (111, 111, 4, 4), (111, 111, 39, 44)] [] true tb0 (fun i' S => decide (i' = 10) && (ctr S.2.2.1 || (ear1 S && rbC S.2.2.1 S.2.1 111 0 111 4 clr 3))) oxN 215 true 110 173 mX8_deal 10 [.inl (77777, 77777), .inl (1, 9), .inl (0, 8), .inl (-2147483648, 2147483647)] [(rf5 111, cn 0, cn 3), (rf5 111, cn 4, (1, 1, 0, 3))] [(0, (1, 1, 0, 2), (1, 1, 0, 1), cn 0)] [rf5 110, (1, 1, 0, 1), (1, 1, 0, 2), any7, any7] [] [] []) = true := by decide +kernel
set_option maxRecDepth 100000 in
set_option maxHeartbeats 40000000 in
theorem kdr1_4 : (jf [(111, 111, 0, 0), (111, 111, 4, 4), (111, 111, 45, 50)] && subW [(111, 111, 0, 0), (111, 111, 4, 4), (111, 111, 45, 50)] Wdr && aex prog HT [(111, 111, 0, 0), (111, 111, 4, 4), (111, 111, 45, 50)] [] true tb0 (fun i' S => decide (i' = 10) && (ctr S.2.2.1 || (ear1 S && rbC S.2.2.1 S.2.1 111 0 111 4 clr 4))) oxN 215 true 110 173 mX8_deal 10 [.inl (77777, 77777), .inl (1, 9), .inl (0, 8), .inl (-2147483648, 2147483647)] [(rf5 111, cn 0, cn 4), (rf5 111, cn 4, (1, 1, 0, 3))] [(0, (1, 1, 0, 2), (1, 1, 0, 1), cn 0)] [rf5 110, (1, 1, 0, 1), (1, 1, 0, 2), any7, any7] [] [] []) = true := by decide +kernel
set_option maxRecDepth 100000 in
set_option maxHeartbeats 40000000 in
theorem kdr1_5 : (jf [(111, 111, 0, 0), (111, 111, 4, 4), (111, 111, 51, 56)] && subW [(111, 111, 0, 0), (111, 111, 4, 4), (111, 111, 51, 56)] Wdr && aex prog HT [(111, 111, 0, 0), (111, 111, 4, 4), (111, 111, 51, 56)] [] true tb0 (fun i' S => decide (i' = 10) && (ctr S.2.2.1 || (ear1 S && rbC S.2.2.1 S.2.1 111 0 111 4 clr 5))) oxN 215 true 110 173 mX8_deal 10 [.inl (77777, 77777), .inl (1, 9), .inl (0, 8), .inl (-2147483648, 2147483647)] [(rf5 111, cn 0, cn 5), (rf5 111, cn 4, (1, 1, 0, 3))] [(0, (1, 1, 0, 2), (1, 1, 0, 1), cn 0)] [rf5 110, (1, 1, 0, 1), (1, 1, 0, 2), any7, any7] [] [] []) = true := by decide +kernel
set_option maxRecDepth 100000 in
set_option maxHeartbeats 40000000 in
theorem kdr1_6 : (jf [(111, 111, 0, 0), (111, 111, 4, 4), (111, 111, 57, 62)] && subW [(111, 111, 0, 0), (111, 111, 4, 4), (111, 111, 57, 62)] Wdr && aex prog HT [(111, 111, 0, 0), (111, 111, 4, 4), (111, 111, 57, 62)] [] true tb0 (fun i' S => decide (i' = 10) && (ctr S.2.2.1 || (ear1 S && rbC S.2.2.1 S.2.1 111 0 111 4 clr 6))) oxN 215 true 110 173 mX8_deal 10 [.inl (77777, 77777), .inl (1, 9), .inl (0, 8), .inl (-2147483648, 2147483647)] [(rf5 111, cn 0, cn 6), (rf5 111, cn 4, (1, 1, 0, 3))] [(0, (1, 1, 0, 2), (1, 1, 0, 1), cn 0)] [rf5 110, (1, 1, 0, 1), (1, 1, 0, 2), any7, any7] [] [] []) = true := by decide +kernel
set_option maxRecDepth 100000 in
set_option maxHeartbeats 40000000 in
theorem kdr1_7 : (jf [(111, 111, 0, 0), (111, 111, 4, 4), (111, 111, 63, 68)] && subW [(111, 111, 0, 0), (111, 111, 4, 4), (111, 111, 63, 68)] Wdr && aex prog HT [(111, 111, 0, 0), (111, 111, 4, 4), (111, 111, 63, 68)] [] true tb0 (fun i' S => decide (i' = 10) && (ctr S.2.2.1 || (ear1 S && rbC S.2.2.1 S.2.1 111 0 111 4 clr 7))) oxN 215 true 110 173 mX8_deal 10 [.inl (77777, 77777), .inl (1, 9), .inl (0, 8), .inl (-2147483648, 2147483647)] [(rf5 111, cn 0, cn 7), (rf5 111, cn 4, (1, 1, 0, 3))] [(0, (1, 1, 0, 2), (1, 1, 0, 1), cn 0)] [rf5 110, (1, 1, 0, 1), (1, 1, 0, 2), any7, any7] [] [] []) = true := by decide +kernel
set_option maxRecDepth 100000 in
set_option maxHeartbeats 40000000 in
theorem kdr1_8 : (jf [(111, 111, 0, 0), (111, 111, 4, 4), (111, 111, 69, 74)] && subW [(111, 111, 0, 0), (111, 111, 4, 4), (111, 111, 69, 74)] Wdr && aex prog HT [(111, 111, 0, 0), (111, 111, 4, 4), (111, 111, 69, 74)] [] true tb0 (fun i' S => decide (i' = 10) && (ctr S.2.2.1 || (ear1 S && rbC S.2.2.1 S.2.1 111 0 111 4 clr 8))) oxN 215 true 110 173 mX8_deal 10 [.inl (77777, 77777), .inl (1, 9), .inl (0, 8), .inl (-2147483648, 2147483647)] [(rf5 111, cn 0, cn 8), (rf5 111, cn 4, (1, 1, 0, 3))] [(0, (1, 1, 0, 2), (1, 1, 0, 1), cn 0)] [rf5 110, (1, 1, 0, 1), (1, 1, 0, 2), any7, any7] [] [] []) = true := by decide +kernel
theorem kdr1 : ∀ m : Nat, m < 9 → (jf (Wdrm m) && subW (Wdrm m) Wdr && aex prog HT (Wdrm m) [] true tb0 (fun i' S => decide (i' = 10) && (ctr S.2.2.1 || (ear1 S && rbC S.2.2.1 S.2.1 111 0 111 4 clr m))) oxN 215 true 110 173 mX8_deal 10 [.inl (77777, 77777), .inl (1, 9), .inl (0, 8), .inl (-2147483648, 2147483647)] [(rf5 111, cn 0, cn m), (rf5 111, cn 4, (1, 1, 0, 3))] [(0, (1, 1, 0, 2), (1, 1, 0, 1), cn 0)] [rf5 110, (1, 1, 0, 1), (1, 1, 0, 2), any7, any7] [] [] []) = true
  | 0, _ => kdr1_0
  | 1, _ => kdr1_1
  | 2, _ => kdr1_2
  | 3, _ => kdr1_3
  | 4, _ => kdr1_4
  | 5, _ => kdr1_5
  | 6, _ => kdr1_6
  | 7, _ => kdr1_7
  | 8, _ => kdr1_8
  | m + 9, h => absurd h (by omega)
set_option maxRecDepth 100000 in
set_option maxHeartbeats 40000000 in
theorem kdr2 : aex prog HT [] [] true tb0 (fun i' S => decide (i' = 41) && (ctr S.2.2.1 || ear2 S)) oxN 60 true 110 173 mX8_deal 10 [.inl (77777, 77777), .inl (1, 9), .inl (0, 9)] [(rf5 111, cn 0, cn 9)] [] [rf5 110, (1, 1, 0, 1), (1, 1, 0, 2), any7, any7] [] [] [] = true := by decide +kernel
section DEALR
variable {E : pX} {h : List pC}
theorem ct_rd (hh : HI HT h) : ct h 111 0 = some (.int (ri h 111 0)) ∧ ct h 111 4 = some (.int (ri h 111 4)) := by
  obtain ⟨f, p1, u1, -⟩ := hi_int hh HT111
  exact ⟨by rw [ct_ri p1 (by decide), ← u1 0 (by decide)], by rw [ct_ri p1 (by decide), ← u1 4 (by decide)]⟩
theorem deal_rl {d : Nat} (hd : 110 ≤ d + 1) {n : Int32} (hn0 : 1 ≤ n.toInt) (hn : n.toInt ≤ 9) : ∀ (t : Nat) (c : Int32) (a3 a4 : Option Value) (h : List pC) (m : Nat), m ≤ 9 → c.toInt + t = n.toInt → 0 ≤ c.toInt → pcat2 a3 = false → pcat2 a4 = false → HI HT h → JT h → (ri h 111 0).toInt = m → Gl prog E pV1 (fun r h' => ∃ (j : Nat) (v : Int32), (j : Int) = min (t : Int) (9 - m) ∧ r = some (.int v) ∧ v.toInt = c.toInt + j ∧ HI HT h' ∧ JT h' ∧ Fr Wdr h h' ∧ DL 111 0 111 4 clr m j h h') (d + 1) mX8_deal 10 [some (.ref 110), some (.int n), some (.int c), a3, a4] [] h [] := by
  intro t
  induction t with
  | zero =>
    intro c a3 a4 h m h9 h1 h2 c3 c4 hh hj em
    refine ⟨some (.int c), h, ?_, 0, c, by omega, rfl, by omega, hh, hj, Fr.rf _ _, DL.nil em⟩
    refine RA.steps 2 rfl ?_
    refine RA.if2T (x := 41) rfl (decide_eq_true (Int32.le_iff_toInt_le.mpr (by omega))) ?_
    refine RA.steps 1 rfl ?_
    exact RA.ret rfl rfl
  | succ t ih =>
    intro c a3 a4 h m h9 h1 h2 c3 c4 hh hj em
    obtain ⟨cn1, cz1⟩ := ct_rd hh
    by_cases hm9 : m = 9
    · subst hm9
      refine hop (σ0 := fun t => match t with | 0 => 77777 | 1 => n.toInt | _ => c.toInt) kdr2 no_kc (by decide) hj hd (by decide) ⟨⟨Nat.le_refl _, agr.rf _ _⟩, fun k e hk => ?_, ?_, (fun e he => by cases he), LG.cons (lGr 110) (LG.cons (lGi (show 1 < 3 by decide) (by show n.toInt = 1 * n.toInt + 0; omega)) (LG.cons (lGi (show 2 < 3 by decide) (by show c.toInt = 1 * c.toInt + 0; omega)) (LG.cons (lG.any c3) (LG.cons (lG.any c4) LGn)))), trivial, hh, Fr.rf _ _⟩ (fun σ S L' st' h1' hec g => ?_)
      · match k, hk with
        | 0, hk => cases hk; exact ⟨Int.le_refl 77777, Int.le_refl 77777⟩
        | 1, hk => cases hk; exact ⟨hn0, hn⟩
        | 2, hk => cases hk; exact ⟨h2, by show c.toInt ≤ 9; omega⟩
        | k + 3, hk => simp at hk
      · exact cok.cs ⟨111, 0, _, Or.inl ⟨rfl, rfl⟩, cnZ _, cn1, Nat.zero_le _, by rw [em]; exact cnZ _⟩ cok.nil
      · unfold ear2 at hec
        rw [Bool.and_eq_true] at hec
        obtain ⟨b1, b2⟩ := hec
        obtain ⟨⟨gn, ga⟩, gk, gc, gf, gL, gS_, gh, gF⟩ := g
        split at b1
        · rename_i xa xb xc x3 x4 hA
          rw [hA] at gL
          simp only [Bool.and_eq_true, decide_eq_true_eq, Bool.not_eq_true'] at b1
          obtain ⟨⟨⟨⟨rfl, rfl⟩, rfl⟩, e3⟩, e4⟩ := b1
          obtain ⟨l0, l1, l2, l3, l4, rfl⟩ := fiveL gL.1
          obtain ⟨w0, k0, v0⟩ := gL.at (k := 0) rfl (by decide)
          obtain ⟨w1, k1, v1⟩ := gL.at (k := 1) rfl (by decide)
          obtain ⟨w2, k2, v2⟩ := gL.at (k := 2) rfl (by decide)
          have q3 : pcat2 l3 = false := gL.cat2 (k := 3) rfl (of_decide_eq_false e3)
          have q4 : pcat2 l4 = false := gL.cat2 (k := 4) rfl (of_decide_eq_false e4)
          obtain rfl : l0 = some w0 := k0
          obtain rfl : l1 = some w1 := k1
          obtain rfl : l2 = some w2 := k2
          obtain ⟨a, rfl, ha | ha⟩ := v0.ref (Or.inl rfl)
          rotate_left
          · exact absurd ha.1 (show ¬ (5 : Nat) = 6 by decide)
          obtain rfl : a = 110 := ha.2
          obtain ⟨u1, rfl, z1⟩ := v1.int (Nat.le_refl 1)
          obtain ⟨u2, rfl, z2⟩ := v2.int (by decide)
          obtain rfl : u1 = n := Int32.toInt_inj.mp ((zsy z1).trans (ga 1 (by decide)))
          obtain rfl : st' = [] := by
            have := gS_
            rw [List.isEmpty_iff.mp b2] at this
            exact this.nil_inv
          obtain rfl : u2 = c := Int32.toInt_inj.mp ((zsy z2).trans (ga 2 (by decide)))
          have hj1 : JT h1' := JT_P _ _ _ (by decide) gF hj
          refine ⟨some (.int u2), h1', ?_, 0, u2, by omega, rfl, by omega, gh, hj1, gF.sub rfl, DL.fr0 em gF⟩
          refine RA.steps 1 rfl ?_
          exact RA.ret rfl rfl
        · cases b1
    · have hm8 : m < 9 := by omega
      have hck := kdr1 m hm8
      rw [Bool.and_eq_true, Bool.and_eq_true] at hck
      obtain ⟨⟨hjf, hsw⟩, hck⟩ := hck
      refine hop (σ0 := fun t => match t with | 0 => 77777 | 1 => n.toInt | 2 => c.toInt | _ => (ri h 111 4).toInt) hck no_kc hjf hj hd (by decide) ⟨⟨Nat.le_refl _, agr.rf _ _⟩, fun k e hk => ?_, ?_, ?_, LG.cons (lGr 110) (LG.cons (lGi (show 1 < 4 by decide) (by show n.toInt = 1 * n.toInt + 0; omega)) (LG.cons (lGi (show 2 < 4 by decide) (by show c.toInt = 1 * c.toInt + 0; omega)) (LG.cons (lG.any c3) (LG.cons (lG.any c4) LGn)))), trivial, hh, Fr.rf _ _⟩ (fun σ S L' st' h1' hec g => ?_)
      · match k, hk with
        | 0, hk => cases hk; exact ⟨Int.le_refl 77777, Int.le_refl 77777⟩
        | 1, hk => cases hk; exact ⟨hn0, hn⟩
        | 2, hk => cases hk; exact ⟨h2, by show c.toInt ≤ 8; omega⟩
        | 3, hk => cases hk; exact ⟨i32_lo _, i32_hi _⟩
        | k + 4, hk => simp at hk
      · exact cok.cs ⟨111, 0, _, Or.inl ⟨rfl, rfl⟩, cnZ _, cn1, Nat.zero_le _, by rw [em]; exact cnZ _⟩ (cok.cs ⟨111, 4, _, Or.inl ⟨rfl, rfl⟩, cnZ _, cz1, Nat.le_refl 1, zG.mk (by decide) (by show (ri h 111 4).toInt = 1 * (ri h 111 4).toInt + 0; omega) (show 3 < 4 by decide)⟩ cok.nil)
      · intro f hf
        obtain rfl := List.mem_singleton.mp hf
        exact ⟨c.toInt, n.toInt, zG.mk (by decide) (by show c.toInt = 1 * c.toInt + 0; omega) (show 2 < 4 by decide), zG.mk (by decide) (by show n.toInt = 1 * n.toInt + 0; omega) (show 1 < 4 by decide), (show c.toInt < n.toInt by omega)⟩
      · unfold ear1 at hec
        rw [Bool.and_eq_true, Bool.and_eq_true] at hec
        obtain ⟨⟨b1, b2⟩, b3⟩ := hec
        obtain ⟨⟨gn, ga⟩, gk, gc, gf, gL, gS_, gh, gF⟩ := g
        split at b1
        · rename_i xa xb xc x3 x4 hA
          rw [hA] at gL
          simp only [Bool.and_eq_true, decide_eq_true_eq, Bool.not_eq_true'] at b1
          obtain ⟨⟨⟨⟨rfl, rfl⟩, rfl⟩, e3⟩, e4⟩ := b1
          obtain ⟨l0, l1, l2, l3, l4, rfl⟩ := fiveL gL.1
          obtain ⟨w0, k0, v0⟩ := gL.at (k := 0) rfl (by decide)
          obtain ⟨w1, k1, v1⟩ := gL.at (k := 1) rfl (by decide)
          obtain ⟨w2, k2, v2⟩ := gL.at (k := 2) rfl (by decide)
          have q3 : pcat2 l3 = false := gL.cat2 (k := 3) rfl (of_decide_eq_false e3)
          have q4 : pcat2 l4 = false := gL.cat2 (k := 4) rfl (of_decide_eq_false e4)
          obtain rfl : l0 = some w0 := k0
          obtain rfl : l1 = some w1 := k1
          obtain rfl : l2 = some w2 := k2
          obtain ⟨a, rfl, ha | ha⟩ := v0.ref (Or.inl rfl)
          rotate_left
          · exact absurd ha.1 (show ¬ (5 : Nat) = 6 by decide)
          obtain rfl : a = 110 := ha.2
          obtain ⟨u1, rfl, z1⟩ := v1.int (Nat.le_refl 1)
          obtain ⟨u2, rfl, z2⟩ := v2.int (by decide)
          obtain rfl : u1 = n := Int32.toInt_inj.mp ((zsy z1).trans (ga 1 (by decide)))
          obtain rfl : st' = [] := by
            have := gS_
            rw [List.isEmpty_iff.mp b2] at this
            exact this.nil_inv
          have y2 : u2.toInt = c.toInt + 1 := by
            have y2 : u2.toInt = 1 * σ 2 + 1 := (z2.lin (show ¬ (1 : Nat) % 2 = 0 by decide)).1
            have s2 : σ 2 = c.toInt := ga 2 (by decide)
            omega
          obtain ⟨r1, r2, r3⟩ := rbC_ok (z := ri h 111 4) (ga 3 (by decide)) (Nat.lt_of_lt_of_le (show 3 < 4 by decide) gn) gc gf b3
          have hj1 : JT h1' := JT_P _ _ _ hjf gF hj
          refine (ih u2 l3 l4 h1' (m + 1) (by omega) (by omega) (by omega) q3 q4 gh hj1 r1).weak (fun r h2' hp => ?_)
          obtain ⟨j, v, p1, p2, p3, p4, p5, p6, p7⟩ := hp
          refine ⟨j + 1, v, by omega, p2, by omega, p4, p5, (gF.sub hsw).tr p6, DL.cs hm8 r2 r3 (fun i f hi hf hne => ri_fr gF (nin_iff.mpr ?_)) p7⟩
          simp only [Wdrm, clr, List.forall_mem_cons]
          exact ⟨by omega, by omega, by omega, fun _ h => absurd h List.not_mem_nil⟩
        · cases b1
theorem deal_r (x : Int32) (hx : 1 ≤ x.toInt ∧ x.toInt ≤ 9) (hh : HI HT h) (hj : JT h) {m : Nat} (h9 : m ≤ 9) (em : (ri h 111 0).toInt = m) : ∃ (j : Nat) (v : Int32) (h' : List pC), Run prog E pV1 120 mX8_deal [.ref 110, .int x] h (some (.int v), h', 0, 0) ∧ (j : Int) = min x.toInt (9 - m) ∧ v.toInt = j ∧ HI HT h' ∧ JT h' ∧ Fr Wdr h h' ∧ DL 111 0 111 4 clr m j h h' := by
  have g : Gl prog E pV1 (fun r h' => ∃ (j : Nat) (v : Int32), (j : Int) = min x.toInt (9 - m) ∧ r = some (.int v) ∧ v.toInt = j ∧ HI HT h' ∧ JT h' ∧ Fr Wdr h h' ∧ DL 111 0 111 4 clr m j h h') 120 mX8_deal 0 (pent (m_l mX8_deal) [.ref 110, .int x]) [] h [] := by
    refine hop (σ0 := fun t => match t with | 0 => 77777 | _ => x.toInt) kdr0 no_kc (by decide) hj (by decide) (by decide) ⟨⟨Nat.le_refl _, agr.rf _ _⟩, fun k e hk => ?_, (fun e he => by cases he), (fun e he => by cases he), LG.cons (lGr 110) (LG.cons (lGi (by decide) (by show x.toInt = 1 * x.toInt + 0; omega)) (LG.cons (lG.any rfl) (LG.cons (lG.any rfl) (LG.cons (lG.any rfl) LGn)))), trivial, hh, Fr.rf _ _⟩ (fun σ S L' st' h1' hec g => ?_)
    · match k, hk with
      | 0, hk => cases hk; exact ⟨Int.le_refl 77777, Int.le_refl 77777⟩
      | 1, hk => cases hk; exact hx
      | k + 2, hk => simp at hk
    · unfold ear0 at hec
      rw [Bool.and_eq_true] at hec
      obtain ⟨b1, b2⟩ := hec
      obtain ⟨⟨gn, ga⟩, gk, gc, gf, gL, gS_, gh, gF⟩ := g
      split at b1
      · rename_i xa xb xc x3 x4 hA
        rw [hA] at gL
        simp only [Bool.and_eq_true, decide_eq_true_eq, Bool.not_eq_true'] at b1
        obtain ⟨⟨⟨⟨rfl, rfl⟩, rfl⟩, e3⟩, e4⟩ := b1
        obtain ⟨l0, l1, l2, l3, l4, rfl⟩ := fiveL gL.1
        obtain ⟨w0, k0, v0⟩ := gL.at (k := 0) rfl (by decide)
        obtain ⟨w1, k1, v1⟩ := gL.at (k := 1) rfl (by decide)
        obtain ⟨w2, k2, v2⟩ := gL.at (k := 2) rfl (by decide)
        have q3 : pcat2 l3 = false := gL.cat2 (k := 3) rfl (of_decide_eq_false e3)
        have q4 : pcat2 l4 = false := gL.cat2 (k := 4) rfl (of_decide_eq_false e4)
        obtain rfl : l0 = some w0 := k0
        obtain rfl : l1 = some w1 := k1
        obtain rfl : l2 = some w2 := k2
        obtain ⟨a, rfl, ha | ha⟩ := v0.ref (Or.inl rfl)
        rotate_left
        · exact absurd ha.1 (show ¬ (5 : Nat) = 6 by decide)
        obtain rfl : a = 110 := ha.2
        obtain ⟨u1, rfl, z1⟩ := v1.int (Nat.le_refl 1)
        obtain ⟨u2, rfl, z2⟩ := v2.int (by decide)
        obtain rfl : u1 = x := Int32.toInt_inj.mp ((zsy z1).trans (ga 1 (by decide)))
        obtain rfl : st' = [] := by
          have := gS_
          rw [List.isEmpty_iff.mp b2] at this
          exact this.nil_inv
        obtain rfl : u2 = 0 := Int32.toInt_inj.mp ((zcn z2).trans (by decide))
        have hj1 : JT h1' := JT_P _ _ _ (by decide) gF hj
        have er : ∀ a i, ri h1' a i = ri h a i := fun a i => ri_fr gF rfl
        refine (deal_rl (E := E) (d := 119) (by decide) hx.1 hx.2 u1.toInt.toNat 0 l3 l4 h1' m h9 (by rw [show (0 : Int32).toInt = 0 by decide]; omega) (by decide) q3 q4 gh hj1 (by rw [er]; exact em)).weak (fun r h2' hp => ?_)
        obtain ⟨j, v, p1, p2, p3, p4, p5, p6, p7⟩ := hp
        exact ⟨j, v, by omega, p2, (by have e0 : (0 : Int32).toInt = 0 := (by decide); omega), p4, p5, (gF.sub rfl).tr p6, DL.eq er p7⟩
      · cases b1
  obtain ⟨r, h', q1, j, v, q2, rfl, q3⟩ := g
  exact ⟨j, v, h', ⟨Nat.le_of_ble_eq_true rfl, ⟨_, _, rfl⟩, q1⟩, q2, q3⟩
end DEALR
