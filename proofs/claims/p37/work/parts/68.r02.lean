/-! ===== copy: what it answers, on both sides ===== -/
def has (Δ : aD) (r : Nat) (x y : AV) : Bool := det x && det y && decide (r < 6) && Δ.any (fun f => decide (f.1 = r) && decide (f.2.1 = x) && decide (f.2.2.1 = y))
def hasS (Δ : aD) (x y : AV) (r : Nat) (w : AV) : Bool := det x && det y && Δ.any (fun f => decide (f.1 = 11) && decide (f.2.1 = x) && decide (f.2.2.1 = y) && has Δ r w f.2.2.2)
section HAS
variable {n : Nat} {σ : Nat → Int} {Δ : aD} {x y w : AV} {r : Nat}
theorem has_ok {a b : Int} (hf : fok n σ Δ) (hh : has Δ r x y = true) (hx : zG n σ a x) (hy : zG n σ b y) : rel r a b := by
  unfold has at hh
  rw [Bool.and_eq_true, Bool.and_eq_true, Bool.and_eq_true] at hh
  obtain ⟨⟨⟨d1, d2⟩, h6⟩, h1⟩ := hh
  have h6 := of_decide_eq_true h6
  obtain ⟨f, hm, h2⟩ := List.any_eq_true.mp h1
  rw [Bool.and_eq_true, Bool.and_eq_true] at h2
  have e1 := of_decide_eq_true h2.1.1
  have e2 := of_decide_eq_true h2.1.2
  have e3 := of_decide_eq_true h2.2
  have k := hf f hm
  unfold fcG at k
  rw [if_pos (by omega)] at k
  obtain ⟨a', b', k1, k2, k3⟩ := k
  rw [e2] at k1
  rw [e3] at k2
  rw [e1] at k3
  rw [det_ok d1 hx k1, det_ok d2 hy k2]
  exact k3
theorem hasS_ok {A B : Int32} {c : Int} (hf : fok n σ Δ) (hh : hasS Δ x y r w = true) (hx : zG n σ A.toInt x) (hy : zG n σ B.toInt y) (hw : zG n σ c w) : rel r c (A - B).toInt := by
  unfold hasS at hh
  rw [Bool.and_eq_true, Bool.and_eq_true] at hh
  obtain ⟨⟨d1, d2⟩, h1⟩ := hh
  obtain ⟨f, hm, h2⟩ := List.any_eq_true.mp h1
  rw [Bool.and_eq_true, Bool.and_eq_true, Bool.and_eq_true] at h2
  have e1 := of_decide_eq_true h2.1.1.1
  have e2 := of_decide_eq_true h2.1.1.2
  have e3 := of_decide_eq_true h2.1.2
  have k := hf f hm
  unfold fcG at k
  rw [if_neg (by omega)] at k
  obtain ⟨A', B', k1, k2, k3⟩ := k
  rw [e2] at k1
  rw [e3] at k2
  rw [e1] at k3
  obtain rfl : A = A' := Int32.toInt_inj.mp (det_ok d1 hx k1)
  obtain rfl : B = B' := Int32.toInt_inj.mp (det_ok d2 hy k2)
  exact has_ok hf h2.2 hw k3
end HAS
/-- when copy is refused for its places -/
def CpC (p a m lf lt : Int) : Prop := p < 0 ∨ a < 0 ∨ m < 0 ∨ lf < p + m ∨ lt < a + m
def s1_ : AV := (1, 1, 0, 1)
def s2_ : AV := (1, 1, 0, 2)
def s3_ : AV := (1, 1, 0, 3)
def s4_ : AV := (1, 1, 0, 4)
def s5_ : AV := (1, 1, 0, 5)
def s6_ : AV := (1, 1, 0, 6)
def s7_ : AV := (1, 1, 0, 7)
def s8_ : AV := (1, 1, 0, 8)
def ecCp : aG → aC → aD → Option AV → Bool := fun _ _ Δ x =>
  (decide (x = some (cn (-1000000013))) && (has Δ 0 s2_ (cn 0) || has Δ 0 s5_ (cn 0) || has Δ 0 s4_ (cn 0) || (has Δ 3 s5_ (cn 0) && has Δ 2 s2_ s7_) || (has Δ 3 s5_ (cn 0) && has Δ 2 s4_ s8_) || (has Δ 3 s2_ (cn 0) && has Δ 1 s2_ s7_ && hasS Δ s7_ s2_ 2 s5_) || (has Δ 3 s4_ (cn 0) && has Δ 1 s4_ s8_ && hasS Δ s8_ s4_ 2 s5_))) ||
  (decide (x = some s5_) && has Δ 3 s2_ (cn 0) && has Δ 3 s4_ (cn 0) && has Δ 3 s5_ (cn 0) && has Δ 1 s2_ s7_ && has Δ 1 s4_ s8_ && hasS Δ s7_ s2_ 1 s5_ && hasS Δ s8_ s4_ 1 s5_)
def WCp : aW := [(83, 83, 0, 23), (85, 85, 0, 23), (87, 87, 0, 23), (89, 89, 0, 23)]
def gCp : aG := [.inl (77777, 77777), .inl (0, 3), .inl (-2147483648, 2147483647), .inl (0, 3), .inl (-2147483648, 2147483647), .inl (-2147483648, 2147483647), .inl (0, 1), .inl (0, 24), .inl (0, 24), .inr [82, 84, 86, 88], .inr [82, 84, 86, 88]]
def cCp : aC := [(rf5 79, s1_, (6, 0, 0, 9)), (rf5 79, s3_, (6, 0, 0, 10)), ((6, 0, 0, 9), cn 1, s6_), ((6, 0, 0, 10), cn 1, s6_), ((6, 0, 0, 9), cn 2, s7_), ((6, 0, 0, 10), cn 2, s8_)]
set_option maxRecDepth 100000 in
set_option maxHeartbeats 40000000 in
theorem ck_cp : aex prog HT WCp [] true tb0 noS (oxC ecCp) 140 false 110 121 mX7_copy 0 gCp cCp [] [rf5 0, s1_, s2_, s3_, s4_, s5_, any7, any7] [] [] [] = true := by decide +kernel
def ecC31 (S : aS) : Bool := (match S.2.2.2.1 with
  | [a, b, c, d, e, f, g] => decide (a = rf5 110) && decide (b = s1_) && decide (c = s2_) && decide (d = s3_) && decide (e = s4_) && decide (f = s5_) && !isL g
  | _ => false) && S.2.2.2.2.isEmpty
set_option maxRecDepth 100000 in
set_option maxHeartbeats 40000000 in
theorem ck_c31 : aex prog HT [] [] true tb0 (fun i' S => decide (i' = 31) && (ctr S.2.2.1 || ecC31 S)) oxN 80 false 50 232 mX8_copy 0 [.inl (77777, 77777), .inl (0, 3), .inl (-2147483648, 2147483647), .inl (0, 3), .inl (-2147483648, 2147483647), .inl (-2147483648, 2147483647), .inl (0, 1)] [(rf5 114, s1_, s6_), (rf5 114, s3_, s6_)] [] [rf5 110, s1_, s2_, s3_, s4_, s5_, any7] [] [] [] = true := by decide +kernel
set_option maxRecDepth 100000 in
set_option maxHeartbeats 40000000 in
theorem sa_co3x : (List.range 25).all (fun c => segchk prog HT [(127, 127, 0, 23), (116, 116, 0, 95)] [] tb_co3 35 50 232 63 false (lt_co3 c) [] (en_co3 c) (some ((c : Int), (c : Int)))) = true := by decide +kernel
section CPY
variable {E : pX} {h : List pC}
theorem row_at (hh : HI HT h) : ∀ u : Nat, u < 4 → ct h 79 u = some (.ref (82 + 2 * u)) := by
  have one : ∀ (u a : Nat), elT HT 1 79 u u = some (.inr [a]) → ct h 79 u = some (.ref a) := fun u a he => by
    obtain ⟨c, w, -, -, hc, hw⟩ := elT_ok hh he (Int.le_refl _) (Int.le_refl _)
    obtain ⟨b, hb, rfl⟩ := hw
    rw [hc, List.mem_singleton.mp hb]
  intro u hu
  match u, hu with
  | 0, _ => exact one 0 82 rfl
  | 1, _ => exact one 1 84 rfl
  | 2, _ => exact one 2 86 rfl
  | 3, _ => exact one 3 88 rfl
theorem row_ty (hh : HI HT h) : ∀ u : Nat, u < 4 → ct h (82 + 2 * u) 1 = some (.int (ri h (82 + 2 * u) 1)) ∧ ct h (82 + 2 * u) 2 = some (.int (ri h (82 + 2 * u) 2)) ∧ ct h 114 u = some (.int (ri h 114 u)) ∧ (-1 ≤ (ri h 114 u).toInt ∧ (ri h 114 u).toInt ≤ 1) ∧ 0 ≤ (ri h 115 u).toInt ∧ (ri h 115 u).toInt ≤ 24 := by
  intro u hu
  match u, hu with
  | 0, _ => exact ⟨(ri_ty (k := 5) (p := (-2147483648, 2147483647)) hh rfl).1, (ri_ty (k := 5) (p := (-2147483648, 2147483647)) hh rfl).1, (ri_ty (k := 0) (p := (-1, 1)) hh rfl).1, (ri_ty (k := 0) (p := (-1, 1)) hh rfl).2, (ri_ty (k := 0) (p := (0, 24)) hh rfl).2⟩
  | 1, _ => exact ⟨(ri_ty (k := 5) (p := (-2147483648, 2147483647)) hh rfl).1, (ri_ty (k := 5) (p := (-2147483648, 2147483647)) hh rfl).1, (ri_ty (k := 0) (p := (-1, 1)) hh rfl).1, (ri_ty (k := 0) (p := (-1, 1)) hh rfl).2, (ri_ty (k := 0) (p := (0, 24)) hh rfl).2⟩
  | 2, _ => exact ⟨(ri_ty (k := 5) (p := (-2147483648, 2147483647)) hh rfl).1, (ri_ty (k := 5) (p := (-2147483648, 2147483647)) hh rfl).1, (ri_ty (k := 0) (p := (-1, 1)) hh rfl).1, (ri_ty (k := 0) (p := (-1, 1)) hh rfl).2, (ri_ty (k := 0) (p := (0, 24)) hh rfl).2⟩
  | 3, _ => exact ⟨(ri_ty (k := 5) (p := (-2147483648, 2147483647)) hh rfl).1, (ri_ty (k := 5) (p := (-2147483648, 2147483647)) hh rfl).1, (ri_ty (k := 0) (p := (-1, 1)) hh rfl).1, (ri_ty (k := 0) (p := (-1, 1)) hh rfl).2, (ri_ty (k := 0) (p := (0, 24)) hh rfl).2⟩
/-- what both are told of: two sheets that are there, of one sort -/
def CpG (h : List pC) (u v : Nat) (s : Int) (lf lt : Int32) : Prop := u < 4 ∧ v < 4 ∧ 0 ≤ s ∧ s ≤ 1 ∧ (ri h (82 + 2 * u) 1).toInt = s ∧ (ri h (82 + 2 * v) 1).toInt = s ∧ ri h (82 + 2 * u) 2 = lf ∧ ri h (82 + 2 * v) 2 = lt ∧ 0 ≤ lf.toInt ∧ lf.toInt ≤ 24 ∧ 0 ≤ lt.toInt ∧ lt.toInt ≤ 24
theorem row_mem : ∀ u : Nat, u < 4 → 82 + 2 * u ∈ ([82, 84, 86, 88] : List Nat) := by decide
theorem copy_c {u v : Nat} {s : Int} {lf lt x1 x2 x3 x4 x5 : Int32} (hh : HI HT h) (hj : JT h) (g : CpG h u v s lf lt) (e1 : x1.toInt = u) (e3 : x3.toInt = v) : ∃ (r : Int32) (h' : List pC), Run prog E pV1 120 mX7_copy [.ref 0, .int x1, .int x2, .int x3, .int x4, .int x5] h (some (.int r), h', 0, 0) ∧ HI HT h' ∧ JT h' ∧ Fr WCp h h' ∧ ((r = -1000000013 ∧ CpC x2.toInt x4.toInt x5.toInt lf.toInt lt.toInt) ∨ (r = x5 ∧ ¬ CpC x2.toInt x4.toInt x5.toInt lf.toInt lt.toInt)) := by
  obtain ⟨hu, hv, s0, s1, a1, a2, a3, a4, l1, l2, l3, l4⟩ := g
  obtain ⟨t1, t2, -⟩ := row_ty hh u hu
  obtain ⟨t3, t4, -⟩ := row_ty hh v hv
  have mk1 : ∀ (k : Nat) (z : Int32) (σ : Nat → Int), z.toInt = σ k → k < 11 → vG 11 σ (.int z) (1, 1, 0, k) := fun k z σ e hk => ⟨Nat.le_refl 1, zG.mk (by decide) (by omega) hk⟩
  obtain ⟨r, h', q1, q2, q3, q4, w, rfl, q5⟩ := oxH (E := E) (d := 120) (N := mX7_copy) (as := [.ref 0, .int x1, .int x2, .int x3, .int x4, .int x5]) (σ0 := fun t => match t with | 0 => 77777 | 1 => x1.toInt | 2 => x2.toInt | 3 => x3.toInt | 4 => x4.toInt | 5 => x5.toInt | 6 => s | 7 => lf.toInt | 8 => lt.toInt | 9 => ((82 + 2 * u : Nat) : Int) | _ => ((82 + 2 * v : Nat) : Int))
    (Q := fun r h' => ∃ w : Int32, r = some (.int w) ∧ ((w = -1000000013 ∧ CpC x2.toInt x4.toInt x5.toInt lf.toInt lt.toInt) ∨ (w = x5 ∧ ¬ CpC x2.toInt x4.toInt x5.toInt lf.toInt lt.toInt))) ck_cp no_kc (by decide) hj (by decide) ⟨_, _, rfl⟩ (Nat.le_of_ble_eq_true rfl) ⟨⟨Nat.le_refl _, agr.rf _ _⟩, (fun k e hk => by
      match k, hk with
      | 0, hk => cases hk; exact ⟨Int.le_refl 77777, Int.le_refl 77777⟩
      | 1, hk => cases hk; exact ⟨by show (0 : Int) ≤ x1.toInt; omega, by show x1.toInt ≤ 3; omega⟩
      | 2, hk => cases hk; exact ⟨i32_lo _, i32_hi _⟩
      | 3, hk => cases hk; exact ⟨by show (0 : Int) ≤ x3.toInt; omega, by show x3.toInt ≤ 3; omega⟩
      | 4, hk => cases hk; exact ⟨i32_lo _, i32_hi _⟩
      | 5, hk => cases hk; exact ⟨i32_lo _, i32_hi _⟩
      | 6, hk => cases hk; exact ⟨s0, s1⟩
      | 7, hk => cases hk; exact ⟨l1, l2⟩
      | 8, hk => cases hk; exact ⟨l3, l4⟩
      | 9, hk => cases hk; exact ⟨82 + 2 * u, row_mem u hu, rfl⟩
      | 10, hk => cases hk; exact ⟨82 + 2 * v, row_mem v hv, rfl⟩
      | k + 11, hk => simp [gCp] at hk), (fun e he => by
      rcases List.mem_cons.mp he with rfl | he
      · exact ⟨79, u, _, Or.inl ⟨rfl, rfl⟩, zG.mk (by decide) (by show (u : Int) = 1 * x1.toInt + 0; omega) (by decide), row_at hh u hu, Or.inr ⟨rfl, by show _ = (((82 + 2 * u : Nat) : Int)).toNat; omega, by decide⟩⟩
      rcases List.mem_cons.mp he with rfl | he
      · exact ⟨79, v, _, Or.inl ⟨rfl, rfl⟩, zG.mk (by decide) (by show (v : Int) = 1 * x3.toInt + 0; omega) (by decide), row_at hh v hv, Or.inr ⟨rfl, by show _ = (((82 + 2 * v : Nat) : Int)).toNat; omega, by decide⟩⟩
      rcases List.mem_cons.mp he with rfl | he
      · exact ⟨82 + 2 * u, 1, _, Or.inr ⟨rfl, by show _ = (((82 + 2 * u : Nat) : Int)).toNat; omega, by decide⟩, cnZ _, t1, mk1 6 _ _ a1 (by decide)⟩
      rcases List.mem_cons.mp he with rfl | he
      · exact ⟨82 + 2 * v, 1, _, Or.inr ⟨rfl, by show _ = (((82 + 2 * v : Nat) : Int)).toNat; omega, by decide⟩, cnZ _, t3, mk1 6 _ _ a2 (by decide)⟩
      rcases List.mem_cons.mp he with rfl | he
      · exact ⟨82 + 2 * u, 2, _, Or.inr ⟨rfl, by show _ = (((82 + 2 * u : Nat) : Int)).toNat; omega, by decide⟩, cnZ _, t2, mk1 7 _ _ (congrArg Int32.toInt a3) (by decide)⟩
      obtain rfl := List.mem_singleton.mp he
      exact ⟨82 + 2 * v, 2, _, Or.inr ⟨rfl, by show _ = (((82 + 2 * v : Nat) : Int)).toNat; omega, by decide⟩, cnZ _, t4, mk1 8 _ _ (congrArg Int32.toInt a4) (by decide)⟩), (fun e he => by cases he), LG.cons (lGr 0) (LG.cons (lGi (by decide) (by show x1.toInt = 1 * x1.toInt + 0; omega)) (LG.cons (lGi (by decide) (by show x2.toInt = 1 * x2.toInt + 0; omega)) (LG.cons (lGi (by decide) (by show x3.toInt = 1 * x3.toInt + 0; omega)) (LG.cons (lGi (by decide) (by show x4.toInt = 1 * x4.toInt + 0; omega)) (LG.cons (lGi (by decide) (by show x5.toInt = 1 * x5.toInt + 0; omega)) (LG.cons (lG.any rfl) (LG.cons (lG.any rfl) LGn))))))), trivial, hh, Fr.rf _ _⟩ (fun σ Γ C Δ x r h' hec ga gk gc gf hr => by
    have y2 : σ 2 = x2.toInt := ga 2 (by decide)
    have y4 : σ 4 = x4.toInt := ga 4 (by decide)
    have y5 : σ 5 = x5.toInt := ga 5 (by decide)
    have y7 : σ 7 = lf.toInt := ga 7 (by decide)
    have y8 : σ 8 = lt.toInt := ga 8 (by decide)
    have gf := gf.up (Nat.le_max_left Γ.length 11) (agr.rf _ σ)
    have lt11 : ∀ k, k < 11 → k < max Γ.length 11 := fun k hk => Nat.lt_of_lt_of_le hk (Nat.le_max_right _ _)
    have m2 : zG (max Γ.length 11) σ x2.toInt s2_ := zG.mk (by decide) (by rw [y2]; omega) (lt11 2 (by decide))
    have m4 : zG (max Γ.length 11) σ x4.toInt s4_ := zG.mk (by decide) (by rw [y4]; omega) (lt11 4 (by decide))
    have m5 : zG (max Γ.length 11) σ x5.toInt s5_ := zG.mk (by decide) (by rw [y5]; omega) (lt11 5 (by decide))
    have m7 : zG (max Γ.length 11) σ lf.toInt s7_ := zG.mk (by decide) (by rw [y7]; omega) (lt11 7 (by decide))
    have m8 : zG (max Γ.length 11) σ lt.toInt s8_ := zG.mk (by decide) (by rw [y8]; omega) (lt11 8 (by decide))
    have sub : ∀ a b : Int32, 0 ≤ a.toInt → a.toInt ≤ 24 → 0 ≤ b.toInt → b.toInt ≤ 24 → (a - b).toInt = a.toInt - b.toInt := fun a b h1 h2 h3 h4 => by
      rw [Int32.toInt_sub]
      exact bm32 (by unfold mI; omega) (by unfold MI; omega)
    unfold ecCp at hec
    rw [Bool.or_eq_true] at hec
    rcases hec with hec | hec
    · rw [Bool.and_eq_true] at hec
      obtain ⟨b1, b2⟩ := hec
      obtain rfl := of_decide_eq_true b1
      cases r with
      | none => exact hr.elim
      | some w0 =>
        obtain ⟨w, rfl, hz⟩ := (show vG Γ.length σ w0 (cn (-1000000013)) from hr).int (Nat.zero_le 1)
        refine ⟨w, rfl, Or.inl ⟨Int32.toInt_inj.mp ((zcn hz).trans (by decide)), ?_⟩⟩
        simp only [Bool.or_eq_true, Bool.and_eq_true] at b2
        unfold CpC
        rcases b2 with (((((b2 | b2) | b2) | b2) | b2) | b2) | b2
        · have : x2.toInt < 0 := has_ok gf b2 m2 (cnZ 0)
          omega
        · have : x5.toInt < 0 := has_ok gf b2 m5 (cnZ 0)
          omega
        · have : x4.toInt < 0 := has_ok gf b2 m4 (cnZ 0)
          omega
        · have c1 : 0 ≤ x5.toInt := has_ok gf b2.1 m5 (cnZ 0)
          have c2 : lf.toInt < x2.toInt := has_ok gf b2.2 m2 m7
          omega
        · have c1 : 0 ≤ x5.toInt := has_ok gf b2.1 m5 (cnZ 0)
          have c2 : lt.toInt < x4.toInt := has_ok gf b2.2 m4 m8
          omega
        · have c1 : 0 ≤ x2.toInt := has_ok gf b2.1.1 m2 (cnZ 0)
          have c2 : x2.toInt ≤ lf.toInt := has_ok gf b2.1.2 m2 m7
          have c3 : (lf - x2).toInt < x5.toInt := hasS_ok gf b2.2 m7 m2 m5
          rw [sub lf x2 l1 l2 c1 (by omega)] at c3
          omega
        · have c1 : 0 ≤ x4.toInt := has_ok gf b2.1.1 m4 (cnZ 0)
          have c2 : x4.toInt ≤ lt.toInt := has_ok gf b2.1.2 m4 m8
          have c3 : (lt - x4).toInt < x5.toInt := hasS_ok gf b2.2 m8 m4 m5
          rw [sub lt x4 l3 l4 c1 (by omega)] at c3
          omega
    · simp only [Bool.and_eq_true] at hec
      obtain ⟨⟨⟨⟨⟨⟨⟨b1, b2⟩, b3⟩, b4⟩, b5⟩, b6⟩, b7⟩, b8⟩ := hec
      obtain rfl := of_decide_eq_true b1
      cases r with
      | none => exact hr.elim
      | some w0 =>
        obtain ⟨w, rfl, hz⟩ := (show vG Γ.length σ w0 s5_ from hr).int (Nat.le_refl 1)
        refine ⟨w, rfl, Or.inr ⟨Int32.toInt_inj.mp ((zsy hz).trans y5), ?_⟩⟩
        have c1 : 0 ≤ x2.toInt := has_ok gf b2 m2 (cnZ 0)
        have c2 : 0 ≤ x4.toInt := has_ok gf b3 m4 (cnZ 0)
        have c3 : 0 ≤ x5.toInt := has_ok gf b4 m5 (cnZ 0)
        have c4 : x2.toInt ≤ lf.toInt := has_ok gf b5 m2 m7
        have c5 : x4.toInt ≤ lt.toInt := has_ok gf b6 m4 m8
        have c6 : x5.toInt ≤ (lf - x2).toInt := hasS_ok gf b7 m7 m2 m5
        have c7 : x5.toInt ≤ (lt - x4).toInt := hasS_ok gf b8 m8 m4 m5
        rw [sub lf x2 l1 l2 c1 (by omega)] at c6
        rw [sub lt x4 l3 l4 c2 (by omega)] at c7
        unfold CpC
        omega)
  exact ⟨w, h', q1, q2, q3, q4, q5⟩
theorem lsum_t {a b c : Int32} (ha : 0 ≤ a.toInt) (hb : 0 ≤ b.toInt) (h : (0 : Int32) < lg_cmp (a.toInt64 + b.toInt64) c.toInt64) : c.toInt < a.toInt + b.toInt := by
  have h1 : ¬ a.toInt64 + b.toInt64 ≤ c.toInt64 := fun q => absurd ((lgc_le' _ _).mpr q) (Int32.not_le.mpr h)
  have h2 : ¬ (a.toInt64 + b.toInt64).toInt ≤ c.toInt64.toInt := fun q => h1 (Int64.le_iff_toInt_le.mpr q)
  have u1 := i32_hi a
  have u2 := i32_hi b
  unfold MI at u1 u2
  rw [Int64.toInt_add, Int32.toInt_toInt64, Int32.toInt_toInt64, Int32.toInt_toInt64, bm64 (by omega) (by omega)] at h2
  omega
theorem copy_r31 {d : Nat} (hd : 50 ≤ d + 2) (hh : HI HT h) (hj : JT h) (v1 v2 v3 v4 v5 : Int32) (a6 : Option Value) (w1 : 0 ≤ v1.toInt ∧ v1.toInt ≤ 3) (w3 : 0 ≤ v3.toInt ∧ v3.toInt ≤ 3) (q6 : pcat2 a6 = false) : Gl prog E pV1 (fun r h' => HI HT h' ∧ JT h' ∧ Fr WCo h h' ∧ ((r = some (.int (-1000000013)) ∧ CpC v2.toInt v4.toInt v5.toInt (ri h 115 v1.toInt.toNat).toInt (ri h 115 v3.toInt.toNat).toInt) ∨ (r = some (.int v5) ∧ ¬ CpC v2.toInt v4.toInt v5.toInt (ri h 115 v1.toInt.toNat).toInt (ri h 115 v3.toInt.toNat).toInt))) (d + 2) mX8_copy 31 [some (.ref 110), some (.int v1), some (.int v2), some (.int v3), some (.int v4), some (.int v5), a6] [] h [] := by
  have bad : CpC v2.toInt v4.toInt v5.toInt (ri h 115 v1.toInt.toNat).toInt (ri h 115 v3.toInt.toNat).toInt → Gl prog E pV1 (fun r h' => HI HT h' ∧ JT h' ∧ Fr WCo h h' ∧ ((r = some (.int (-1000000013)) ∧ CpC v2.toInt v4.toInt v5.toInt (ri h 115 v1.toInt.toNat).toInt (ri h 115 v3.toInt.toNat).toInt) ∨ (r = some (.int v5) ∧ ¬ CpC v2.toInt v4.toInt v5.toInt (ri h 115 v1.toInt.toNat).toInt (ri h 115 v3.toInt.toNat).toInt))) (d + 2) mX8_copy 61 [some (.ref 110), some (.int v1), some (.int v2), some (.int v3), some (.int v4), some (.int v5), a6] [] h [] := fun c => ⟨_, h, RA.steps 1 rfl (RA.ret rfl rfl), hh, hj, Fr.rf _ _, Or.inl ⟨rfl, c⟩⟩
  obtain ⟨fs, ho, f5⟩ := m_obj5 hh
  obtain ⟨g, p1, r1, s1⟩ := hi_int (a := 115) (n := 4) (sg := [(0, 3, 0, 24)]) hh rfl
  have at_ : ∀ v : Int32, 0 ≤ v.toInt → v.toInt ≤ 3 → 0 ≤ v ∧ v.toNatClampNeg < 4 ∧ (g v.toNatClampNeg).toInt ≤ 24 ∧ g v.toNatClampNeg = ri h 115 v.toInt.toNat := fun v h0 h3 => by
    have hn : v.toNatClampNeg = v.toInt.toNat := rfl
    exact ⟨Int32.le_iff_toInt_le.mpr h0, by omega, (s1 (0, 3, 0, 24) List.mem_cons_self v.toNatClampNeg (Nat.zero_le _) (by show v.toNatClampNeg ≤ 3; omega) (by omega)).2, by rw [hn]; exact (r1 _ (by omega)).symm⟩
  obtain ⟨i1, i2, i3, i4⟩ := at_ v1 w1.1 w1.2
  obtain ⟨j1, j2, j3, j4⟩ := at_ v3 w3.1 w3.2
  rw [i4] at i3
  rw [j4] at j3
  have neg : ∀ v : Int32, v < 0 → v.toInt < 0 := fun v q => Int32.lt_iff_toInt_lt.mp q
  by_cases c2 : v2 < 0
  · exact Gl.via (fun res k => RA.steps 1 rfl (RA.if1T rfl (decide_eq_true c2) k)) (bad (Or.inl (neg _ c2)))
  refine Gl.via (i' := 33) (h1 := h) (fun res k => RA.steps 1 rfl (RA.if1F rfl (decide_eq_false c2) k)) ?_
  by_cases c4 : v4 < 0
  · exact Gl.via (fun res k => RA.steps 1 rfl (RA.if1T rfl (decide_eq_true c4) k)) (bad (Or.inr (Or.inl (neg _ c4))))
  refine Gl.via (i' := 35) (h1 := h) (fun res k => RA.steps 1 rfl (RA.if1F rfl (decide_eq_false c4) k)) ?_
  by_cases c5 : v5 < 0
  · exact Gl.via (fun res k => RA.steps 1 rfl (RA.if1T rfl (decide_eq_true c5) k)) (bad (Or.inr (Or.inr (Or.inl (neg _ c5)))))
  refine Gl.via (i' := 37) (h1 := h) (fun res k => RA.steps 1 rfl (RA.if1F rfl (decide_eq_false c5) k)) ?_
  have z2 := i0_of c2
  have z4 := i0_of c4
  have z5 := i0_of c5
  refine Gl.via (i' := 48) (L' := [some (.ref 110), some (.int v1), some (.int v2), some (.int v3), some (.int v4), some (.int v5), a6]) (st' := [.int (lg_cmp (v2.toInt64 + v5.toInt64) (g v1.toNatClampNeg).toInt64)]) (h1 := h) (fun res k => ?_) ?_
  · refine RA.steps 6 rfl ?_
    refine RA.getf rfl ho rfl f5 ?_
    refine RA.steps 1 rfl ?_
    refine RA.iald rfl p1 ⟨i1, i2⟩ rfl ?_
    exact RA.steps 2 rfl k
  rw [i4]
  by_cases c6 : (0 : Int32) < lg_cmp (v2.toInt64 + v5.toInt64) (ri h 115 v1.toInt.toNat).toInt64
  · exact Gl.via (fun res k => RA.if1T rfl (decide_eq_true c6) k) (bad (Or.inr (Or.inr (Or.inr (Or.inl (lsum_t z2 z5 c6))))))
  refine Gl.via (i' := 49) (h1 := h) (fun res k => RA.if1F rfl (decide_eq_false c6) k) ?_
  refine Gl.via (i' := 60) (L' := [some (.ref 110), some (.int v1), some (.int v2), some (.int v3), some (.int v4), some (.int v5), a6]) (st' := [.int (lg_cmp (v4.toInt64 + v5.toInt64) (g v3.toNatClampNeg).toInt64)]) (h1 := h) (fun res k => ?_) ?_
  · refine RA.steps 6 rfl ?_
    refine RA.getf rfl ho rfl f5 ?_
    refine RA.steps 1 rfl ?_
    refine RA.iald rfl p1 ⟨j1, j2⟩ rfl ?_
    exact RA.steps 2 rfl k
  rw [j4]
  by_cases c7 : (0 : Int32) < lg_cmp (v4.toInt64 + v5.toInt64) (ri h 115 v3.toInt.toNat).toInt64
  · exact Gl.via (fun res k => RA.if1F rfl (decide_eq_false (Int32.not_le.mpr c7)) k) (bad (Or.inr (Or.inr (Or.inr (Or.inr (lsum_t z4 z5 c7))))))
  refine Gl.via (i' := 63) (h1 := h) (fun res k => RA.if1T rfl (decide_eq_true (Int32.not_lt.mp c7)) k) ?_
  have l6 := lsum z2 z5 c6
  have l7 := lsum z4 z5 c7
  refine sg_use (List.all_eq_true.mp sa_co3x v5.toInt.toNat (List.mem_range.mpr (by omega))) rfl no_kc (by decide) hj hd (lt7 w1 ⟨z2, by rw [Int.toNat_of_nonneg z5]; dsimp only; omega⟩ w3 ⟨z4, by rw [Int.toNat_of_nonneg z5]; dsimp only; omega⟩ (by rw [Int.toNat_of_nonneg z5]; exact ⟨Int.le_refl _, Int.le_refl _⟩) q6) trivial hh (fun r h' hr hh' hf => ⟨hh', JT_P _ _ _ (by decide) hf hj, hf.sub (by decide), Or.inr ⟨?_, ?_⟩⟩) (fun z hz => by cases hz)
  · obtain ⟨v, rfl, b1, b2⟩ := (show ∃ v : Int32, r = some (.int v) ∧ ((v5.toInt.toNat : Nat) : Int) ≤ v.toInt ∧ v.toInt ≤ ((v5.toInt.toNat : Nat) : Int) from hr)
    obtain rfl : v = v5 := Int32.toInt_inj.mp (by omega)
    rfl
  · unfold CpC
    omega
theorem copy_r {u v : Nat} {s : Int} {x1 x2 x3 x4 x5 : Int32} (hh : HI HT h) (hj : JT h) (hu : u < 4) (hv : v < 4) (s0 : 0 ≤ s) (s1 : s ≤ 1) (a1 : (ri h 114 u).toInt = s) (a2 : (ri h 114 v).toInt = s) (e1 : x1.toInt = u) (e3 : x3.toInt = v) : ∃ (r : Int32) (h' : List pC), Run prog E pV1 120 mX8_copy [.ref 110, .int x1, .int x2, .int x3, .int x4, .int x5] h (some (.int r), h', 0, 0) ∧ HI HT h' ∧ JT h' ∧ Fr WCo h h' ∧ ((r = -1000000013 ∧ CpC x2.toInt x4.toInt x5.toInt (ri h 115 u).toInt (ri h 115 v).toInt) ∨ (r = x5 ∧ ¬ CpC x2.toInt x4.toInt x5.toInt (ri h 115 u).toInt (ri h 115 v).toInt)) := by
  obtain ⟨-, -, t1, -⟩ := row_ty hh u hu
  obtain ⟨-, -, t2, -⟩ := row_ty hh v hv
  have g : Gl prog E pV1 (fun r h' => ∃ w : Int32, r = some (.int w) ∧ HI HT h' ∧ JT h' ∧ Fr WCo h h' ∧ ((w = -1000000013 ∧ CpC x2.toInt x4.toInt x5.toInt (ri h 115 u).toInt (ri h 115 v).toInt) ∨ (w = x5 ∧ ¬ CpC x2.toInt x4.toInt x5.toInt (ri h 115 u).toInt (ri h 115 v).toInt))) 120 mX8_copy 0 (pent (m_l mX8_copy) [.ref 110, .int x1, .int x2, .int x3, .int x4, .int x5]) [] h [] := by
    refine hop (σ0 := fun t => match t with | 0 => 77777 | 1 => x1.toInt | 2 => x2.toInt | 3 => x3.toInt | 4 => x4.toInt | 5 => x5.toInt | _ => s) ck_c31 no_kc (by decide) hj (by decide) (by decide) ⟨⟨Nat.le_refl _, agr.rf _ _⟩, fun k e hk => ?_, ?_, (fun e he => by cases he), LG.cons (lGr 110) (LG.cons (lGi (by decide) (by show x1.toInt = 1 * x1.toInt + 0; omega)) (LG.cons (lGi (by decide) (by show x2.toInt = 1 * x2.toInt + 0; omega)) (LG.cons (lGi (by decide) (by show x3.toInt = 1 * x3.toInt + 0; omega)) (LG.cons (lGi (by decide) (by show x4.toInt = 1 * x4.toInt + 0; omega)) (LG.cons (lGi (by decide) (by show x5.toInt = 1 * x5.toInt + 0; omega)) (LG.cons (lG.any rfl) LGn)))))), trivial, hh, Fr.rf _ _⟩ (fun σ S L' st' h1 hec g => ?_)
    · match k, hk with
      | 0, hk => cases hk; exact ⟨Int.le_refl 77777, Int.le_refl 77777⟩
      | 1, hk => cases hk; exact ⟨by show (0 : Int) ≤ x1.toInt; omega, by show x1.toInt ≤ 3; omega⟩
      | 2, hk => cases hk; exact ⟨i32_lo _, i32_hi _⟩
      | 3, hk => cases hk; exact ⟨by show (0 : Int) ≤ x3.toInt; omega, by show x3.toInt ≤ 3; omega⟩
      | 4, hk => cases hk; exact ⟨i32_lo _, i32_hi _⟩
      | 5, hk => cases hk; exact ⟨i32_lo _, i32_hi _⟩
      | 6, hk => cases hk; exact ⟨s0, s1⟩
      | k + 7, hk => simp at hk
    · exact cok.cs ⟨114, u, _, Or.inl ⟨rfl, rfl⟩, zG.mk (by decide) (by show (u : Int) = 1 * x1.toInt + 0; omega) (by decide), t1, Nat.le_refl 1, zG.mk (by decide) (by show (ri h 114 u).toInt = 1 * s + 0; omega) (by decide)⟩ (cok.cs ⟨114, v, _, Or.inl ⟨rfl, rfl⟩, zG.mk (by decide) (by show (v : Int) = 1 * x3.toInt + 0; omega) (by decide), t2, Nat.le_refl 1, zG.mk (by decide) (by show (ri h 114 v).toInt = 1 * s + 0; omega) (by decide)⟩ cok.nil)
    · obtain ⟨⟨gn, ga⟩, gk, gc, gf, gL, gS_, gh, gF⟩ := g
      unfold ecC31 at hec
      rw [Bool.and_eq_true] at hec
      obtain ⟨b1, b2⟩ := hec
      obtain rfl : st' = [] := by
        have := gS_
        rw [List.isEmpty_iff.mp b2] at this
        exact this.nil_inv
      split at b1
      · rename_i xa xb xc xd xe xf xg hA
        rw [hA] at gL
        simp only [Bool.and_eq_true, decide_eq_true_eq, Bool.not_eq_true'] at b1
        obtain ⟨⟨⟨⟨⟨⟨rfl, rfl⟩, rfl⟩, rfl⟩, rfl⟩, rfl⟩, e7⟩ := b1
        obtain ⟨l0, l1, l2, l3, l4, l5, l6, rfl⟩ := seven gL.1
        have q6 : pcat2 l6 = false := gL.cat2 (k := 6) rfl (of_decide_eq_false e7)
        have int_at : ∀ (k : Nat) (o : Option Value) (x : Int32), k < 7 → pget [l0, l1, l2, l3, l4, l5, l6] k = o → σ k = x.toInt → lG S.1.length σ o (1, 1, 0, k) → o = some (.int x) := fun k o x hk7 ho hs hl => by
          unfold lG at hl
          rw [if_neg (show ¬ (1 : Nat) = 7 by decide)] at hl
          obtain ⟨w, rfl, hv⟩ := hl
          obtain ⟨y, rfl, hz⟩ := hv.int (Nat.le_refl 1)
          rw [Int32.toInt_inj.mp ((zsy hz).trans hs)]
        obtain ⟨w0, k0, v0⟩ := gL.at (k := 0) rfl (by decide)
        obtain rfl : l0 = some w0 := k0
        obtain ⟨a, rfl, ha | ha⟩ := v0.ref (Or.inl rfl)
        rotate_left
        · exact absurd ha.1 (show ¬ (5 : Nat) = 6 by decide)
        obtain rfl : a = 110 := ha.2
        obtain rfl : l1 = some (.int x1) := int_at 1 l1 x1 (by decide) rfl (ga 1 (by decide)) (gL.2 1 _ rfl)
        obtain rfl : l2 = some (.int x2) := int_at 2 l2 x2 (by decide) rfl (ga 2 (by decide)) (gL.2 2 _ rfl)
        obtain rfl : l3 = some (.int x3) := int_at 3 l3 x3 (by decide) rfl (ga 3 (by decide)) (gL.2 3 _ rfl)
        obtain rfl : l4 = some (.int x4) := int_at 4 l4 x4 (by decide) rfl (ga 4 (by decide)) (gL.2 4 _ rfl)
        obtain rfl : l5 = some (.int x5) := int_at 5 l5 x5 (by decide) rfl (ga 5 (by decide)) (gL.2 5 _ rfl)
        have n1 : x1.toInt.toNat = u := by omega
        have n3 : x3.toInt.toNat = v := by omega
        have f1 : ri h1 115 u = ri h 115 u := ri_fr gF rfl
        have f3 : ri h1 115 v = ri h 115 v := ri_fr gF rfl
        have key := copy_r31 (E := E) (d := 118) (by decide) gh (JT_P [] _ _ rfl gF hj) x1 x2 x3 x4 x5 l6 ⟨by omega, by omega⟩ ⟨by omega, by omega⟩ q6
        rw [n1, n3, f1, f3] at key
        refine key.weak (fun r h2 hp => ?_)
        obtain ⟨p1, p2, p3, p4⟩ := hp
        rcases p4 with ⟨rfl, p4⟩ | ⟨rfl, p4⟩
        · exact ⟨_, rfl, p1, p2, (gF.sub rfl).tr p3, Or.inl ⟨rfl, p4⟩⟩
        · exact ⟨_, rfl, p1, p2, (gF.sub rfl).tr p3, Or.inr ⟨rfl, p4⟩⟩
      · cases b1
  obtain ⟨r, h', q1, w, rfl, q2⟩ := g
  exact ⟨w, h', ⟨Nat.le_of_ble_eq_true rfl, ⟨_, _, rfl⟩, q1⟩, q2⟩
/-- both, of two sheets that are there, of one sort -/
theorem copy_both {u v : Nat} {s : Int} {x1 x2 x3 x4 x5 : Int32} (hh : HI HT h) (hj : JT h) (hu : u < 4) (hv : v < 4) (s0 : 0 ≤ s) (s1 : s ≤ 1) (a1 : (ri h (82 + 2 * u) 1).toInt = s) (a2 : (ri h (82 + 2 * v) 1).toInt = s) (b1 : ri h (82 + 2 * u) 1 = ri h 114 u) (b2 : ri h (82 + 2 * v) 1 = ri h 114 v) (c1 : ri h (82 + 2 * u) 2 = ri h 115 u) (c2 : ri h (82 + 2 * v) 2 = ri h 115 v) (e1 : x1.toInt = u) (e3 : x3.toInt = v) : ∃ (r : Int32) (h1 h2 : List pC), Run prog E pV1 120 mX7_copy [.ref 0, .int x1, .int x2, .int x3, .int x4, .int x5] h (some (.int r), h1, 0, 0) ∧ Run prog E pV1 120 mX8_copy [.ref 110, .int x1, .int x2, .int x3, .int x4, .int x5] h1 (some (.int r), h2, 0, 0) ∧ HI HT h1 ∧ HI HT h2 ∧ JT h2 ∧ Fr WCp h h1 ∧ Fr WCo h1 h2 := by
  obtain ⟨-, -, -, -, t1, t2⟩ := row_ty hh u hu
  obtain ⟨-, -, -, -, t3, t4⟩ := row_ty hh v hv
  obtain ⟨r, h1, q1, hh1, hj1, f1, z1⟩ := copy_c (E := E) (x1 := x1) (x2 := x2) (x3 := x3) (x4 := x4) (x5 := x5) hh hj ⟨hu, hv, s0, s1, a1, a2, c1, c2, t1, t2, t3, t4⟩ e1 e3
  have k1 : ∀ a i, (a = 114 ∨ a = 115) → ri h1 a i = ri h a i := fun a i ha => ri_fr f1 (nin_iff.mpr (by
    simp only [WCp, List.forall_mem_cons]
    exact ⟨by omega, by omega, by omega, by omega, fun _ h => absurd h List.not_mem_nil⟩))
  obtain ⟨r2, h2, q2, hh2, hj2, f2, z2⟩ := copy_r (E := E) (x1 := x1) (x2 := x2) (x3 := x3) (x4 := x4) (x5 := x5) hh1 hj1 hu hv s0 s1 (by rw [k1 114 u (Or.inl rfl), ← b1]; exact a1) (by rw [k1 114 v (Or.inl rfl), ← b2]; exact a2) e1 e3
  rw [k1 115 u (Or.inr rfl), k1 115 v (Or.inr rfl)] at z2
  have e : r2 = r := by
    rcases z1 with ⟨rfl, z1⟩ | ⟨rfl, z1⟩
    · rcases z2 with ⟨rfl, z2⟩ | ⟨rfl, z2⟩
      · rfl
      · exact absurd z1 z2
    · rcases z2 with ⟨rfl, z2⟩ | ⟨rfl, z2⟩
      · exact absurd z2 z1
      · rfl
  subst e
  exact ⟨r2, h1, h2, q1, q2, hh1, hh2, hj2, f1, f2⟩
end CPY
