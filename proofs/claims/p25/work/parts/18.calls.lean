/-! ===== calls, natives, returns, contracts ===== -/
abbrev aA : Type := (Int × Int) ⊕ (Bool × List Nat)
abbrev aK : Type := List aA × Option (Int × Int) × aW × Nat
def a_m2 (ff : Bool) (c : Nat) (i : Nat) (Γ : aG) (C : aC) (Δ : aD) (A : aL) (s : List AV) : Option aO := match s with
  | y :: x :: r => if isI x = true ∧ isI y = true ∧ acs r ≤ 8 then aps i (aopS ff Γ Δ c x y).1 C (aopS ff Γ Δ c x y).2.1 A ((aopS ff Γ Δ c x y).2.2 :: r) else none
  | _ => none
def a_m1 (ff : Bool) (c : Nat) (i : Nat) (Γ : aG) (C : aC) (Δ : aD) (A : aL) (s : List AV) : Option aO := match s with
  | x :: r => if isI x = true ∧ acs r ≤ 8 then aps i (aopS ff Γ Δ c x (cn 0)).1 C (aopS ff Γ Δ c x (cn 0)).2.1 A ((aopS ff Γ Δ c x (cn 0)).2.2 :: r) else none
  | _ => none
def cpS (T : List aT) (m : Int) (a : Nat) : Bool := match T[a]? with
  | some (.inl t) => decide (m ≤ (t.1 : Int))
  | _ => false
def cpD (T : List aT) (W : aW) (m : Int) (a : Nat) : Bool := match T[a]? with
  | some (.inl t) => decide (m ≤ (t.1 : Int)) && t.2.isEmpty && inWs W a 0 ((t.1 : Int) - 1)
  | _ => false
/-- an upper bound of sp + n, where n ≤ len - sp is known -/
def ubG (Γ : aG) (sp n : AV) (f g : Nat × AV × AV × AV) : Option Int := if g.1 = 11 ∧ g.2.2.1 = sp ∧ g.2.2.2 = f.2.2.1 ∧ det n = true ∧ det sp = true ∧ det f.2.2.1 = true then (match ivl Γ g.2.1 with
  | some p => if 0 ≤ p.1 then some p.2 else none
  | none => none) else none
def ubC (Γ : aG) (Δ : aD) (sp n : AV) : Option Int := Δ.findSome? (fun f => if f.1 = 1 ∧ f.2.1 = n then Δ.findSome? (ubG Γ sp n f) else none)
def ubS (Γ : aG) (Δ : aD) (sp n : AV) (b : Int) : Int := match ubC Γ Δ sp n with
  | some c => min c b
  | none => b
theorem ubC_ok {m : Nat} {σ : Nat → Int} {Γ : aG} {Δ : aD} {sp n : AV} {c : Int} {vs vn : Int32} (hg : gok σ Γ) (hf : fok m σ Δ) (hs : zG m σ vs.toInt sp) (hn : zG m σ vn.toInt n) (h0 : 0 ≤ vs.toInt) (hu : ubC Γ Δ sp n = some c) : vs.toInt + vn.toInt ≤ c := by
  unfold ubC at hu
  obtain ⟨f, hm1, hu⟩ := List.exists_of_findSome?_eq_some hu
  split at hu
  · rename_i hp1
    obtain ⟨g, hm2, hu⟩ := List.exists_of_findSome?_eq_some hu
    unfold ubG at hu
    split at hu
    · rename_i hp2
      obtain ⟨p1, p2, p3, d1, d2, d3⟩ := hp2
      split at hu
      · rename_i p hp
        split at hu
        · rename_i hp0
          cases hu
          have f1 := hf f hm1
          have f2 := hf g hm2
          unfold fcG at f1 f2
          rw [if_pos (by omega)] at f1
          rw [if_neg (by omega)] at f2
          obtain ⟨a, b, a1, a2, a3⟩ := f1
          obtain ⟨x, y, b1, b2, b3⟩ := f2
          rw [hp1.1] at a3
          have a3 : a ≤ b := a3
          rw [hp1.2] at a1
          rw [p2] at b2
          rw [p3, p1] at b3
          have e1 := det_ok d1 a1 hn
          have e2 := det_ok d2 b2 hs
          have e3 := det_ok d3 a2 b3
          have hx := ivl_ok hg b1 hp
          have e4 : (opS (11 - 10) x y).toInt = x.toInt - y.toInt := by
            show (x - y).toInt = _
            have u1 := i32_hi x
            have u2 := i32_hi y
            unfold MI at u1 u2
            rw [Int32.toInt_sub]
            exact bm32 (by unfold mI; omega) (by unfold MI; omega)
          omega
        · cases hu
      · cases hu
    · cases hu
  · cases hu
/-- what is known of the places that are copied -/
def cpX (Γ : aG) (pn pd ps : Int × Int) (xa xb : AV) (C : aC) : aC := if (mkd Γ && decide (pn.1 = pn.2) && decide (pd.1 = pd.2) && decide (ps.1 = ps.2)) = true then C.filterMap (fun e => if e.1 = xa ∧ e.2.1.1 = 0 ∧ e.2.1.2.1 = e.2.1.2.2.1 ∧ ps.1 ≤ e.2.1.2.1 ∧ e.2.1.2.1 < ps.1 + pn.1 then some (xb, cn (e.2.1.2.1 - ps.1 + pd.1), e.2.2) else none) else []
def a_cpy (T : List aT) (W : aW) (e : pE) (i : Nat) (Γ : aG) (C : aC) (Δ : aD) (A : aL) (s : List AV) : Option aO := match s with
  | n :: dp :: b :: sp :: a :: r => if e_x e = 99999 ∧ acs r ≤ 8 ∧ isI n = true ∧ isI dp = true ∧ isI sp = true then (match ivl Γ n, ivl Γ dp, ivl Γ sp, adrs Γ a, adrs Γ b with
    | some pn, some pd, some ps, some as, some bs => if 0 ≤ pn.1 ∧ 0 ≤ pd.1 ∧ 0 ≤ ps.1 ∧ as.all (cpS T (ubS Γ Δ sp n (ps.2 + pn.2))) = true ∧ bs.all (cpD T W (ubS Γ Δ dp n (pd.2 + pn.2))) = true then aps i Γ (cpX Γ pn pd ps a b C ++ C.filter (fun e => apA Γ e.1 b)) Δ A r else none
    | _, _, _, _, _ => none) else none
  | _ => none
def a_nat (ff : Bool) (T : List aT) (W : aW) (e : pE) (i : Nat) (Γ : aG) (C : aC) (Δ : aD) (A : aL) (s : List AV) : Option aO :=
  if e_x e = 99990 then a_m2 ff 11 i Γ C Δ A s else if e_x e = 99991 then a_m2 ff 12 i Γ C Δ A s else if e_x e = 99992 then a_m1 ff 14 i Γ C Δ A s else a_cpy T W e i Γ C Δ A s
def astepN (ff : Bool) (P : List pM) (T : List aT) (W : aW) (e : pE) (i : Nat) (Γ : aG) (C : aC) (Δ : aD) (A : aL) (s : List AV) : Option aO := match e_in e with
  | .invokestatic _ => (match P[e_x e]? with
    | some _ => none
    | none => a_nat ff T W e i Γ C Δ A s)
  | _ => astep ff T W e i Γ C Δ A s
section CAL
variable {n0 : Nat} {σ0 : Nat → Int} {T : List aT} {W : aW} {h0 : List pC} {E : pX} {P : List pM} {V : pV} {M N : pM} {t : pE} {i : Nat} {L : pL} {st : List Value} {h : List pC} {σ : Nat → Int} {Γ : aG} {C : aC} {Δ : aD} {A : aL} {s : List AV} {outs : aO} {ff : Bool}
theorem m2_ok {c : Nat} {f : Int32 → Int32 → Int32} (hfc : f = opS c) (g : gS n0 σ0 T W h0 σ (Γ, C, Δ, A, s) L st h) (hp : pstep E t i L st h = pm2 f i L st h) (ha : a_m2 ff c i Γ C Δ A s = some outs) : Nx n0 σ0 T W h0 E t i L st h σ Γ.length outs := by
  unfold a_m2 at ha
  split at ha
  · rename_i y x r
    obtain ⟨w, st, rfl, hv, hs1⟩ := g.2.2.2.2.2.1.cons_inv
    obtain ⟨w', st, rfl, hv', hs2⟩ := hs1.cons_inv
    split at ha
    · rename_i hb
      cases ha
      obtain ⟨u, rfl, hy⟩ := hv.int (isI_t hb.2.1)
      obtain ⟨v, rfl, hx⟩ := hv'.int (isI_t hb.1)
      obtain ⟨σ', s1, s2, s3, s4, s5⟩ := aopS_ok ff c g.2.1 g.2.2.2.1 hx hy
      refine nx2 g s1 s3 s2 s4 (L' := L) (st' := .int (opS c v u) :: st) ?_ (g.2.2.2.2.1.up s3 s1) (by exact ⟨s5, hs2.up s3 s1⟩) List.mem_cons_self
      rw [hp, hfc]
      exact if_pos (by rw [acs_ok hs2]; exact hb.2.2)
    · cases ha
  · cases ha
theorem m1_ok {c : Nat} {f : Int32 → Int32} (hfc : ∀ a, f a = opS c a 0) (g : gS n0 σ0 T W h0 σ (Γ, C, Δ, A, s) L st h) (hp : pstep E t i L st h = pm1 f i L st h) (ha : a_m1 ff c i Γ C Δ A s = some outs) : Nx n0 σ0 T W h0 E t i L st h σ Γ.length outs := by
  unfold a_m1 at ha
  split at ha
  · rename_i x r
    obtain ⟨w, st, rfl, hv, hs1⟩ := g.2.2.2.2.2.1.cons_inv
    split at ha
    · rename_i hb
      cases ha
      obtain ⟨v, rfl, hx⟩ := hv.int (isI_t hb.1)
      obtain ⟨σ', s1, s2, s3, s4, s5⟩ := aopS_ok (u := 0) (y := cn 0) ff c g.2.1 g.2.2.2.1 hx (cnZ 0)
      refine nx2 g s1 s3 s2 s4 (L' := L) (st' := .int (opS c v 0) :: st) ?_ (g.2.2.2.2.1.up s3 s1) (by exact ⟨s5, hs1.up s3 s1⟩) List.mem_cons_self
      rw [hp, ← hfc]
      exact if_pos (by rw [acs_ok hs1]; exact hb.2)
    · cases ha
  · cases ha
theorem ivl_nat {v : Int32} {x : AV} {p : Int × Int} (hg : gok σ Γ) (hx : zG Γ.length σ v.toInt x) (hp : ivl Γ x = some p) (h0 : 0 ≤ p.1) : 0 ≤ v ∧ (v.toNatClampNeg : Int) ≤ p.2 := by
  have h1 := ivl_ok hg hx hp
  have h2 : 0 ≤ v.toInt := by omega
  refine ⟨Int32.le_iff_toInt_le.mpr h2, ?_⟩
  rw [Int32.toNatClampNeg, Int.toNat_of_nonneg h2]
  exact h1.2
theorem cpy_ok (g : gS n0 σ0 T W h0 σ (Γ, C, Δ, A, s) L st h) (hp : pstep E t i L st h = pocopy t i L st h) (ha : a_cpy T W t i Γ C Δ A s = some outs) : Nx n0 σ0 T W h0 E t i L st h σ Γ.length outs := by
  unfold a_cpy at ha
  split at ha
  · rename_i xn xd xb xs xa r
    obtain ⟨w1, st, rfl, hv1, hs1⟩ := g.2.2.2.2.2.1.cons_inv
    obtain ⟨w2, st, rfl, hv2, hs2⟩ := hs1.cons_inv
    obtain ⟨w3, st, rfl, hv3, hs3⟩ := hs2.cons_inv
    obtain ⟨w4, st, rfl, hv4, hs4⟩ := hs3.cons_inv
    obtain ⟨w5, st, rfl, hv5, hs5⟩ := hs4.cons_inv
    split at ha
    · rename_i hb
      obtain ⟨b1, b2, b3, b4, b5⟩ := hb
      split at ha
      · rename_i pn pd ps as bs e1 e2' e3 e4 e5
        split at ha
        · rename_i hc
          cases ha
          obtain ⟨c1, c2, c3, c4, c5⟩ := hc
          obtain ⟨vn, rfl, hn⟩ := hv1.int (isI_t b3)
          obtain ⟨vd, rfl, hd⟩ := hv2.int (isI_t b4)
          obtain ⟨vs, rfl, hs⟩ := hv4.int (isI_t b5)
          obtain ⟨b, hb, rfl⟩ := adrs_ok g.2.1 hv3 e5
          obtain ⟨a, ha, rfl⟩ := adrs_ok g.2.1 hv5 e4
          obtain ⟨n1, n2⟩ := ivl_nat g.2.1 hn e1 c1
          obtain ⟨d1, d2⟩ := ivl_nat g.2.1 hd e2' c2
          obtain ⟨s1, s2⟩ := ivl_nat g.2.1 hs e3 c3
          have k1 := List.all_eq_true.mp c4 a ha
          have k2 := List.all_eq_true.mp c5 b hb
          have z1 : ((vs.toNatClampNeg : Nat) : Int) = vs.toInt := by rw [Int32.toNatClampNeg]; exact Int.toNat_of_nonneg (Int32.le_iff_toInt_le.mp s1)
          have z2 : ((vd.toNatClampNeg : Nat) : Int) = vd.toInt := by rw [Int32.toNatClampNeg]; exact Int.toNat_of_nonneg (Int32.le_iff_toInt_le.mp d1)
          have z3 : ((vn.toNatClampNeg : Nat) : Int) = vn.toInt := by rw [Int32.toNatClampNeg]; exact Int.toNat_of_nonneg (Int32.le_iff_toInt_le.mp n1)
          have y1 : (vs.toNatClampNeg : Int) + (vn.toNatClampNeg : Int) ≤ ubS Γ Δ xs xn (ps.2 + pn.2) := by
            unfold ubS
            split
            · rename_i c hc'
              have := ubC_ok g.2.1 g.2.2.2.1 hs hn (by omega) hc'
              exact Int.le_min.mpr ⟨by omega, by omega⟩
            · omega
          have y2 : (vd.toNatClampNeg : Int) + (vn.toNatClampNeg : Int) ≤ ubS Γ Δ xd xn (pd.2 + pn.2) := by
            unfold ubS
            split
            · rename_i c hc'
              have := ubC_ok g.2.1 g.2.2.2.1 hd hn (by omega) hc'
              exact Int.le_min.mpr ⟨by omega, by omega⟩
            · omega
          have hh := g.2.2.2.2.2.2.1
          unfold cpS at k1
          unfold cpD at k2
          split at k1
          · rename_i ta hta
            split at k2
            · rename_i tb htb
              have k1 := of_decide_eq_true k1
              rw [Bool.and_eq_true, Bool.and_eq_true] at k2
              obtain ⟨⟨k2, k3⟩, k4⟩ := k2
              have k2 := of_decide_eq_true k2
              obtain ⟨ca, hca, hya⟩ := hh.2 a _ hta
              obtain ⟨cb, hcb, hyb⟩ := hh.2 b _ htb
              rcases ca with za | za | za
              · rcases cb with zb | zb | zb
                · obtain ⟨qa, -⟩ : za.1 = ta.1 ∧ _ := hya
                  obtain ⟨qb, -⟩ : zb.1 = tb.1 ∧ _ := hyb
                  have hl := (List.getElem?_eq_some_iff.mp hcb).1
                  refine nx3 g (agr.rf _ _) (Nat.le_refl _) g.2.1 (h' := h.set b (.inl (zb.1, va_cpy za.2 zb.2 vs.toNatClampNeg vd.toNatClampNeg vn.toNatClampNeg))) ?_ ⟨⟨by rw [List.length_set]; exact hh.1, fun j tj htj => ?_⟩, fun j k hjk => ?_⟩ (L' := L) (st' := st) ?_ g.2.2.2.2.1 hs5 List.mem_cons_self
                  · intro e he
                    rcases List.mem_append.mp he with he | he
                    · unfold cpX at he
                      split at he
                      · rename_i hq
                        simp only [Bool.and_eq_true, decide_eq_true_eq] at hq
                        obtain ⟨⟨⟨-, q1⟩, q2⟩, q3⟩ := hq
                        obtain ⟨e0, he0, hm⟩ := List.mem_filterMap.mp he
                        split at hm
                        · rename_i hc
                          cases hm
                          obtain ⟨c1', c2', c3', c4', c5'⟩ := hc
                          obtain ⟨j, k, w, f1, f2, f3, f4⟩ := g.2.2.1 e0 he0
                          rw [c1'] at f1
                          obtain rfl : j = a := ref_one f1 hv5
                          have e2 : (k : Int) = e0.2.1.2.1 := by
                            unfold zG at f2
                            rw [if_pos (by rw [c2'])] at f2
                            omega
                          have l1 := ivl_ok g.2.1 hn e1
                          have l2 := ivl_ok g.2.1 hd e2'
                          have l3 := ivl_ok g.2.1 hs e3
                          refine ⟨b, k - vs.toNatClampNeg + vd.toNatClampNeg, w, hv3, ?_, ?_, f4⟩
                          · have : (((k - vs.toNatClampNeg + vd.toNatClampNeg : Nat)) : Int) = e0.2.1.2.1 - ps.1 + pd.1 := by omega
                            rw [this]
                            exact cnZ _
                          · unfold ct at f3 ⊢
                            rw [hca] at f3
                            rw [List.getElem?_set_self hl]
                            dsimp only at f3 ⊢
                            split at f3
                            · rename_i hlt
                              cases f3
                              rw [if_pos (by omega)]
                              unfold va_cpy
                              rw [if_pos ⟨by omega, by omega⟩, show vs.toNatClampNeg + (k - vs.toNatClampNeg + vd.toNatClampNeg - vd.toNatClampNeg) = k by omega]
                            · cases f3
                        · cases hm
                      · cases he
                    obtain ⟨he, hap⟩ := List.mem_filter.mp he
                    obtain ⟨j, k, w, f1, f2, f3, f4⟩ := g.2.2.1 e he
                    refine ⟨j, k, w, f1, f2, ?_, f4⟩
                    have hne : j ≠ b := apA_ok g.2.1 hap f1 hv3
                    unfold ct
                    rw [List.getElem?_set_ne (Ne.symm hne)]
                    exact f3
                  · by_cases e : j = b
                    · subst e
                      rw [htb] at htj
                      cases htj
                      refine ⟨_, List.getElem?_set_self hl, qb, fun s hs => ?_⟩
                      rw [List.isEmpty_iff.mp k3] at hs
                      cases hs
                    · obtain ⟨c, hc, hy⟩ := hh.2 j tj htj
                      exact ⟨c, by rw [List.getElem?_set_ne (Ne.symm e)]; exact hc, hy⟩
                  · rw [← g.2.2.2.2.2.2.2 j k hjk]
                    by_cases e : j = b
                    · subst e
                      unfold ct
                      rw [List.getElem?_set_self hl, hcb]
                      dsimp only
                      by_cases hk : k < zb.1
                      · rw [inWs_ok (i := k) k4 (by omega) (by omega)] at hjk
                        cases hjk
                      · rw [if_neg hk, if_neg hk]
                    · unfold ct
                      rw [List.getElem?_set_ne (Ne.symm e)]
                  · rw [hp]
                    unfold pocopy pint
                    dsimp only
                    rw [if_pos ⟨b1, by rw [acs_ok hs5]; exact b2⟩, hca, hcb]
                    dsimp only
                    rw [if_pos ⟨s1, d1, n1, by omega, by omega⟩]
                    rfl
                · exact hyb.elim
                · exact hyb.elim
              · exact hya.elim
              · exact hya.elim
            · cases k2
          · cases k1
        · cases ha
      · cases ha
    · cases ha
  · cases ha
theorem nat_ok (g : gS n0 σ0 T W h0 σ (Γ, C, Δ, A, s) L st h) (hp : pstep E t i L st h = pnats t i L st h) (ha : a_nat ff T W t i Γ C Δ A s = some outs) : Nx n0 σ0 T W h0 E t i L st h σ Γ.length outs := by
  unfold a_nat at ha
  unfold pnats at hp
  by_cases e1 : e_x t = 99990
  · rw [if_pos e1] at ha hp
    exact m2_ok (c := 11) rfl g hp ha
  · rw [if_neg e1] at ha hp
    by_cases e2 : e_x t = 99991
    · rw [if_pos e2] at ha hp
      exact m2_ok (c := 12) rfl g hp ha
    · rw [if_neg e2] at ha hp
      by_cases e3 : e_x t = 99992
      · rw [if_pos e3] at ha hp
        exact m1_ok (c := 14) (fun _ => rfl) g hp ha
      · rw [if_neg e3] at ha hp
        exact cpy_ok g hp ha
theorem astep_pn (ha : astep ff T W t i Γ C Δ A s = some outs) : pret M t st = none ∧ pcall P t st h = none := by
  unfold astep at ha
  split at ha <;> first | (cases ha; done) | (rename_i hin; exact ⟨by unfold pret; rw [hin], by unfold pcall; rw [hin]⟩)
theorem astepN_ok (g : gS n0 σ0 T W h0 σ (Γ, C, Δ, A, s) L st h) (ha : astepN ff P T W t i Γ C Δ A s = some outs) : (pret M t st = none ∧ pcall P t st h = none) ∧ Nx n0 σ0 T W h0 E t i L st h σ Γ.length outs := by
  unfold astepN at ha
  split at ha
  · rename_i hin
    split at ha
    · cases ha
    · rename_i hP
      exact ⟨⟨by unfold pret; rw [hin], by unfold pcall; rw [hin]; dsimp only; rw [hP]⟩, nat_ok g (by unfold pstep; rw [hin]) ha⟩
  · exact ⟨astep_pn ha, astep_ok g ha⟩
/-! returns -/
def aret (M : pM) (e : pE) (Γ : aG) (s : List AV) : Option (Option AV) := match e_in e, s with
  | .return_, [] => match m_r M with
    | none => some none
    | _ => none
  | .ireturn, [x] => if isI x = true then (match m_r M with
    | some .int => some (some x)
    | some .boolean => if afit .boolean Γ x = true then some (some x) else none
    | _ => none) else none
  | .areturn, [x] => if isR x = true then (match m_r M with
    | some (.object _) => some (some x)
    | _ => none) else none
  | _, _ => none
def rvG (n : Nat) (σ : Nat → Int) (r : Option Value) (x : Option AV) : Prop := match r, x with
  | none, none => True
  | some w, some x => vG n σ w x
  | _, _ => False
theorem aret_ok {x : Option AV} (hg : gok σ Γ) (hs : SG Γ.length σ st s) (ha : aret M t Γ s = some x) : ∃ r, pret M t st = some r ∧ rvG Γ.length σ r x := by
  unfold aret at ha
  split at ha
  · rename_i hin
    obtain rfl := hs.nil_inv
    split at ha
    · rename_i hm
      cases ha
      refine ⟨none, ?_, trivial⟩
      unfold pret
      rw [hin]
      dsimp only
      rw [hm]
    · cases ha
  · rename_i y hin
    obtain ⟨w, st, rfl, hv, hs1⟩ := hs.cons_inv
    obtain rfl := hs1.nil_inv
    split at ha
    · rename_i hb
      obtain ⟨v, rfl, hx⟩ := hv.int (isI_t hb)
      split at ha
      · rename_i hm
        cases ha
        refine ⟨some (.int v), ?_, hv⟩
        unfold pret
        rw [hin]
        dsimp only
        rw [hm]
      · rename_i hm
        split at ha
        · rename_i hf
          cases ha
          have hb2 := afit_ok hg hx hf
          have hb2 : v = 0 ∨ v = 1 := of_decide_eq_true hb2
          refine ⟨some (.int v), ?_, hv⟩
          unfold pret
          rw [hin]
          dsimp only
          rw [hm]
          dsimp only
          rw [if_pos hb2]
        · cases ha
      · cases ha
    · cases ha
  · rename_i y hin
    obtain ⟨w, st, rfl, hv, hs1⟩ := hs.cons_inv
    obtain rfl := hs1.nil_inv
    split at ha
    · rename_i hb
      split at ha
      · rename_i cn hm
        cases ha
        rcases hv.isr hb with rfl | ⟨a, rfl⟩
        · refine ⟨some .null, ?_, hv⟩
          unfold pret
          rw [hin]
          dsimp only
          rw [hm]
        · refine ⟨some (.ref a), ?_, hv⟩
          unfold pret
          rw [hin]
          dsimp only
          rw [hm]
      · cases ha
    · cases ha
  · cases ha
/-! calls -/
def clsT (T : List aT) (c a : Nat) : Bool := match T[a]? with
  | some (.inr (.inr t)) => decide (t.1 = c)
  | _ => false
def acall (P : List pM) (T : List aT) (e : pE) (Γ : aG) (s : List AV) : Option (Nat × pM × List AV × List AV) := match e_in e with
  | .invokestatic _ => (match P[e_x e]? with
    | some N => if m_k N = 0 ∧ e_y e ≤ s.length ∧ acs (s.drop (e_y e)) ≤ 8 then some (e_x e, N, (s.take (e_y e)).reverse, s.drop (e_y e)) else none
    | none => none)
  | .invokevirtual _ => (match P[e_x e]? with
    | some N => (match s.drop (e_y e) with
      | x :: r => (match adrs Γ x with
        | some as => if m_k N = 1 ∧ acs r ≤ 8 ∧ as.all (clsT T (m_c N)) = true then some (e_x e, N, x :: (s.take (e_y e)).reverse, r) else none
        | none => none)
      | _ => none)
    | none => none)
  | _ => none
theorem acall_ok {k : Nat} {xs r : List AV} (hg : gok σ Γ) (hh : HI T h) (hs : SG Γ.length σ st s) (ha : acall P T t Γ s = some (k, N, xs, r)) : pret M t st = none ∧ P[k]? = some N ∧ ∃ as rest, pcall P t st h = some (N, as, rest) ∧ SG Γ.length σ as xs ∧ SG Γ.length σ rest r := by
  unfold acall at ha
  split at ha
  · rename_i hin
    split at ha
    · rename_i N' hN
      split at ha
      · rename_i hc
        cases ha
        refine ⟨by unfold pret; rw [hin], hN, (st.take (e_y t)).reverse, st.drop (e_y t), ?_, (hs.take _).rev, hs.drop _⟩
        unfold pcall
        rw [hin]
        dsimp only
        rw [hN]
        exact if_pos ⟨hc.1, by rw [hs.len]; exact hc.2.1, by rw [acs_ok (hs.drop _)]; exact hc.2.2⟩
      · cases ha
    · cases ha
  · rename_i hin
    split at ha
    · rename_i N' hN
      split at ha
      · rename_i x r' hx
        have hd := hs.drop (e_y t)
        rw [hx] at hd
        obtain ⟨w, rest, e1, hv, hs1⟩ := hd.cons_inv
        split at ha
        · rename_i as has
          split at ha
          · rename_i hc
            cases ha
            obtain ⟨b, hb, rfl⟩ := adrs_ok hg hv has
            have hcl := List.all_eq_true.mp hc.2.2 b hb
            unfold clsT at hcl
            split at hcl
            · rename_i tt htt
              have hcl := of_decide_eq_true hcl
              obtain ⟨c, hc1, hty⟩ := hh.2 b _ htt
              rcases c with z | z | z
              · exact hty.elim
              · exact hty.elim
              · refine ⟨by unfold pret; rw [hin], hN, .ref b :: (st.take (e_y t)).reverse, rest, ?_, ⟨hv, (hs.take _).rev⟩, hs1⟩
                unfold pcall
                rw [hin]
                dsimp only
                rw [hN]
                dsimp only
                rw [e1]
                dsimp only
                unfold pobj
                rw [hc1]
                dsimp only
                rw [if_pos ⟨hc.1, hty.1.trans hcl, by rw [acs_ok hs1]; exact hc.2.1⟩]
            · cases hcl
          · cases ha
        · cases ha
      · cases ha
    · cases ha
  · cases ha
/-! contracts -/
def argG (w : Value) (p : aA) : Prop := match p with
  | .inl q => ∃ v : Int32, w = .int v ∧ q.1 ≤ v.toInt ∧ v.toInt ≤ q.2
  | .inr q => (q.1 = true ∧ w = .null) ∨ ∃ a ∈ q.2, w = .ref a
def argsG : List Value → List aA → Prop
  | [], [] => True
  | w :: ws, p :: ps => argG w p ∧ argsG ws ps
  | _, _ => False
def argB (Γ : aG) (x : AV) (p : aA) : Bool := match p with
  | .inl q => isI x && (match ivl Γ x with
    | some r => decide (q.1 ≤ r.1) && decide (r.2 ≤ q.2)
    | none => false)
  | .inr q => (decide (x.1 = 4) && q.1) || (match adrs Γ x with
    | some as => as.all (fun a => q.2.any (fun b => decide (a = b)))
    | none => false)
def argsB (Γ : aG) : List AV → List aA → Bool
  | [], [] => true
  | x :: xs, p :: ps => argB Γ x p && argsB Γ xs ps
  | _, _ => false
theorem argB_ok {w : Value} {x : AV} {p : aA} (hg : gok σ Γ) (hv : vG Γ.length σ w x) (hb : argB Γ x p = true) : argG w p := by
  unfold argB at hb
  split at hb
  · rename_i q
    rw [Bool.and_eq_true] at hb
    obtain ⟨v, rfl, hz⟩ := hv.int (isI_t hb.1)
    have hb2 := hb.2
    split at hb2
    · rename_i r hr
      have h1 := ivl_ok hg hz hr
      rw [Bool.and_eq_true] at hb2
      have f1 := of_decide_eq_true hb2.1
      have f2 := of_decide_eq_true hb2.2
      exact ⟨v, rfl, by omega, by omega⟩
    · cases hb2
  · rename_i q
    rw [Bool.or_eq_true, Bool.and_eq_true] at hb
    rcases hb with hb | hb
    · exact Or.inl ⟨hb.2, hv.null (of_decide_eq_true hb.1)⟩
    · split at hb
      · rename_i as has
        obtain ⟨a, ha, rfl⟩ := adrs_ok hg hv has
        obtain ⟨b, hb1, hb2⟩ := List.any_eq_true.mp (List.all_eq_true.mp hb a ha)
        obtain rfl := of_decide_eq_true hb2
        exact Or.inr ⟨a, hb1, rfl⟩
      · cases hb
theorem argsB_ok (hg : gok σ Γ) : ∀ {as : List Value} {xs : List AV} {ps : List aA}, SG Γ.length σ as xs → argsB Γ xs ps = true → argsG as ps
  | [], [], [], _, _ => trivial
  | _ :: _, _ :: _, _ :: _, hs, hb => by
    rw [argsB, Bool.and_eq_true] at hb
    exact ⟨argB_ok hg hs.1 hb.1, argsB_ok hg hs.2 hb.2⟩
  | _ :: _, _ :: _, [], _, hb => by cases hb
  | [], [], _ :: _, _, hb => by cases hb
  | [], _ :: _, _, hs, _ => hs.elim
  | _ :: _, [], _, hs, _ => hs.elim
def retG (r : Option Value) (p : Option (Int × Int)) : Prop := match p with
  | none => r = none
  | some q => ∃ v : Int32, r = some (.int v) ∧ q.1 ≤ v.toInt ∧ v.toInt ≤ q.2
def CallG (P : List pM) (E : pX) (V : pV) (d : Nat) (N : pM) (as : List Value) (h : List pC) (r : Option Value) (h' : List pC) : Prop := Run P E V d N as h (r, h', 0, 0) ∨ (m_code N = [] ∧ 6 ≤ d ∧ V N as h = some r ∧ h' = h)
/-- a contract: from arguments such and such it answers a number between two (or nothing), writes only there, and the cells stay what they are -/
def KG (P : List pM) (E : pX) (V : pV) (T : List aT) (J : List pC → Prop) (N : pM) (c : aK) : Prop := ∀ d : Nat, c.2.2.2 ≤ d → ∀ (as : List Value) (h : List pC), argsG as c.1 → HI T h → J h → ∃ r h', CallG P E V d N as h r h' ∧ retG r c.2.1 ∧ HI T h' ∧ Fr c.2.2.1 h h' ∧ J h'
def rnm (Γ : aG) (p : Option (Int × Int)) : aG × List AV := match p with
  | none => (Γ, [])
  | some q => ((nm Γ (0, q.1, q.2, 0)).1, [(nm Γ (0, q.1, q.2, 0)).2])
theorem rnm_ok {r : Option Value} {p : Option (Int × Int)} (hg : gok σ Γ) (hr : retG r p) : ∃ σ', agr Γ.length σ σ' ∧ gok σ' (rnm Γ p).1 ∧ Γ.length ≤ (rnm Γ p).1.length ∧ SG (rnm Γ p).1.length σ' r.toList (rnm Γ p).2 := by
  unfold retG at hr
  unfold rnm
  split at hr
  · subst hr
    exact ⟨σ, agr.rf _ _, hg, Nat.le_refl _, trivial⟩
  · obtain ⟨v, rfl, h1, h2⟩ := hr
    obtain ⟨σ', s1, s2, s3, s4⟩ := nm_ok (v := v) hg (zG.itv (t := 0) (k := 0) rfl h1 h2) (Nat.zero_le _)
    exact ⟨σ', s1, s2, s3, s4, trivial⟩
/-- surely outside -/
def notW (W : aW) (Γ : aG) (e : AV × AV × AV) : Bool := match adrs Γ e.1, ivl Γ e.2.1 with
  | some as, some p => W.all (fun b => as.all (fun a => decide (a < b.1) || decide (b.2.1 < a)) || decide (p.2 < (b.2.2.1 : Int)) || decide ((b.2.2.2 : Int) < p.1))
  | _, _ => false
theorem notW_ok {e : AV × AV × AV} {a j m : Nat} (hg : gok σ Γ) (ha : vG m σ (.ref a) e.1) (hi : zG m σ (j : Int) e.2.1) (hn : notW W Γ e = true) : inW W a j = false := by
  unfold notW at hn
  split at hn
  · rename_i as p has hp
    obtain ⟨a', ha', e'⟩ := adrs_ok hg ha has
    cases e'
    have h1 := ivl_ok hg hi hp
    cases hq : inW W a j with
    | false => rfl
    | true =>
      exfalso
      obtain ⟨b, hb, hb2⟩ := List.any_eq_true.mp hq
      have hc := List.all_eq_true.mp hn b hb
      rw [Bool.or_eq_true, Bool.or_eq_true] at hc
      simp only [Bool.and_eq_true, decide_eq_true_eq] at hb2
      rcases hc with (hc | hc) | hc
      · have := List.all_eq_true.mp hc a ha'
        simp only [Bool.or_eq_true, decide_eq_true_eq] at this
        omega
      · have := of_decide_eq_true hc
        omega
      · have := of_decide_eq_true hc
        omega
  · cases hn
theorem cok.fr {n : Nat} {W' : aW} {h' : List pC} (hg : gok σ Γ) (hc : cok n σ h C) (hf : Fr W' h h') : cok n σ h' (C.filter (notW W' Γ)) := fun e he => by
  obtain ⟨he, hw⟩ := List.mem_filter.mp he
  obtain ⟨a, j, w, h1, h2, h3, h4⟩ := hc e he
  exact ⟨a, j, w, h1, h2, by rw [hf a j (notW_ok hg h1 h2 hw)]; exact h3, h4⟩
end CAL
