/-! ===== nextToken, the whole ===== -/
section NX2
variable {E : pX} {V : pV} {d : Nat} {h h' : List pC} {Post : Option Value → List pC → Prop}
theorem fld_at {fs : List Value} {i : Nat} {w : Value} (ho : pobj h 110 = some (8, fs)) (hc : ct h 110 i = some w) : fs[i]? = some w := by
  unfold ct at hc
  rw [pobj_at ho] at hc
  exact hc
theorem nt_51 {h0 : List pC} {e0 : Int} {s2 s3 : Int32} (ht : 0 ≤ s2.toInt ∧ s2.toInt ≤ 1) (h1 : List pC) (hh : HI HT h1) (hf : Fr WNt h0 h1) (hb : e0 ≤ fi h1 16) (hbe : fi h1 16 = fi h1 17) (hle : fi h1 17 ≤ fi h1 15) : Gl prog E V (PNt h0 e0) (d + 8) mX8_nextToken 51 [some (.ref 110), some (.int s2), some (.int s3)] [] h1 [] := by
  obtain ⟨c15, r15⟩ := m_fld hh (i := 15) (lo := 0) (hi := 96) rfl
  obtain ⟨c16, r16⟩ := m_fld hh (i := 16) (lo := 0) (hi := 96) rfl
  obtain ⟨c17, r17⟩ := m_fld hh (i := 17) (lo := 0) (hi := 96) rfl
  obtain ⟨fs, ho, -⟩ := hi_obj hh HTm
  have pre : ∀ res, RA prog E V (d + 8) mX8_nextToken 55 [some (.ref 110), some (.int s2), some (.int s3)] [.int (ri h1 110 15), .int (ri h1 110 16)] h1 res → RA prog E V (d + 8) mX8_nextToken 51 [some (.ref 110), some (.int s2), some (.int s3)] [] h1 res := by
    intro res k
    refine RA.steps 1 rfl ?_
    refine RA.getf rfl ho rfl (fld_at ho c16) ?_
    refine RA.steps 1 rfl ?_
    refine RA.getf rfl ho rfl (fld_at ho c15) ?_
    exact k
  by_cases he : ri h1 110 16 = ri h1 110 15
  · refine Gl.via (i' := 56) (h1 := h1) (fun res k => pre res (RA.if2F rfl (decide_eq_false (Decidable.not_not.mpr he)) k)) ?_
    have hg := gok6 (σ := ntσ (fi h1 15) (fi h1 17) s2.toInt s3.toInt (fi h1 16) 0) (p0 := (0, 96)) (p1 := (0, 96)) (p2 := (0, 1)) (p3 := (-2147483648, 2147483647)) (p4 := (0, 96)) (p5 := (0, 255)) r15 r17 ht ⟨i32_lo s3, i32_hi s3⟩ r16 ⟨(show (0 : Int) ≤ 0 by decide), (show (0 : Int) ≤ 255 by decide)⟩
    refine fseg_ok (J := fun _ => True) fs_nt56 rfl (fun k N c hk => by cases hk) (fun _ _ => trivial) (by omega) hg (nt_C hh) (nt_L s2 s3) trivial hh (fun p hp r h2 hr hp2 hh2 hf2 => ?_) (fun z hz => by cases hz)
    obtain rfl := List.mem_singleton.mp hp
    have e16 := ck_in (i := 16) hp2.1 List.mem_cons_self
    have e16 : fi h2 16 = 1 * fi h1 16 + 0 := e16
    have e17 := ck_in (i := 17) hp2.1 (List.mem_cons_of_mem _ List.mem_cons_self)
    have e17 : fi h2 17 = 1 * fi h1 17 + 0 := e17
    have e18 := ck_inc (i := 18) hp2.1 (List.mem_cons_of_mem _ (List.mem_cons_of_mem _ List.mem_cons_self))
    have e15 := f15 hf2
    exact ⟨rv_none hr, hh2, hf.tr hf2, by omega, by omega, by omega, fun h18 => absurd e18 h18⟩
  · have hlt : fi h1 17 < fi h1 15 := by
      have : fi h1 16 ≠ fi h1 15 := fun q => he (i32_eq.mpr q)
      omega
    refine Gl.via (i' := 60) (h1 := h1) (fun res k => pre res (RA.if2T rfl (decide_eq_true he) k)) ?_
    obtain ⟨g, p1, r1, q1⟩ := hi_int (a := 124) (n := 96) (sg := [(0, 95, 0, 255)]) hh rfl
    have hn : ((fi h1 17).toNat : Int) = fi h1 17 := Int.toNat_of_nonneg r17.1
    have hc := q1 (0, 95, 0, 255) List.mem_cons_self (fi h1 17).toNat (Nat.zero_le _) (by show (fi h1 17).toNat ≤ 95; omega) (by omega)
    have hct := ct_ri p1 (show (fi h1 17).toNat < 96 by omega)
    revert hc hct
    generalize g (fi h1 17).toNat = c
    intro hc hct
    have hC : cok 6 (ntσ (fi h1 15) (fi h1 17) s2.toInt s3.toInt (fi h1 16) c.toInt) h1 [(rf5 110, cn (15 : Nat), (1, 1, 0, 0)), (rf5 110, cn (16 : Nat), (1, 1, 0, 1)), (rf5 110, cn (17 : Nat), (1, 1, 0, 1)), (rf5 124, (1, 1, 0, 1), (1, 1, 0, 5))] :=
      cok.cs (ck_f (lo := 0) (hi := 96) hh rfl (by decide) rfl) (cok.cs (ck_f (lo := 0) (hi := 96) hh rfl (by decide) hbe.symm) (cok.cs (ck_f (lo := 0) (hi := 96) hh rfl (by decide) rfl) (cok.cs ⟨124, (fi h1 17).toNat, _, Or.inl ⟨rfl, rfl⟩, zG.mk (by decide) (by show ((fi h1 17).toNat : Int) = 1 * fi h1 17 + 0; omega) (by decide), hct, Nat.le_refl 1, zG.mk (by decide) (by show c.toInt = 1 * c.toInt + 0; omega) (by decide)⟩ cok.nil)))
    have hg : ∀ lo hi : Int, lo ≤ c.toInt → c.toInt ≤ hi → gok (ntσ (fi h1 15) (fi h1 17) s2.toInt s3.toInt (fi h1 16) c.toInt) [.inl (0, 96), .inl (0, 95), .inl (0, 1), .inl (-2147483648, 2147483647), .inl (0, 96), .inl (lo, hi)] := fun lo hi h1' h2' => gok6 r15 ⟨r17.1, by show fi h1 17 ≤ 95; omega⟩ ht ⟨i32_lo s3, i32_hi s3⟩ r16 ⟨h1', h2'⟩
    have hno : ∀ (p : aPt) (r : Option Value) (h2 : List pC), p.2.1 = [(3, (1, 1, 0, 1), (1, 1, 0, 0), (0, 0, 0, 0))] → ptG 6 (ntσ (fi h1 15) (fi h1 17) s2.toInt s3.toInt (fi h1 16) c.toInt) h2 p → PNt h0 e0 r h2 := by
      intro p r h2 hp hp2
      exfalso
      have hq := hp2.2.1
      rw [hp] at hq
      have : fi h1 15 ≤ fi h1 17 := nt_facts (hq _ List.mem_cons_self) rfl rfl
      omega
    have hmore : ∀ (p : aPt) (L' : pL) (h2 : List pC), p.1 = [(rf5 110, cn (15 : Nat), (1, 1, 0, 0)), (rf5 110, cn (16 : Nat), (1, 1, 0, 1)), (rf5 110, cn (17 : Nat), (1, 1, 1, 1))] → elG 6 (ntσ (fi h1 15) (fi h1 17) s2.toInt s3.toInt (fi h1 16) c.toInt) L' [some (5, 0, 0, 110), some (1, 1, 0, 2), some (1, 1, 0, 3)] → ptG 6 (ntσ (fi h1 15) (fi h1 17) s2.toInt s3.toInt (fi h1 16) c.toInt) h2 p → HI HT h2 → Fr WNt h1 h2 → Gl prog E V (PNt h0 e0) (d + 8) mX8_nextToken 65 L' [] h2 [] ∧ Gl prog E V (PNt h0 e0) (d + 8) mX8_nextToken 109 L' [] h2 [] := by
      intro p L' h2 hp hL hp2 hh2 hf2
      have hc' := hp2.1
      rw [hp] at hc'
      have e16 := ck_in (i := 16) hc' (List.mem_cons_of_mem _ List.mem_cons_self)
      have e16 : fi h2 16 = 1 * fi h1 17 + 0 := e16
      have e17 := ck_in (i := 17) hc' (List.mem_cons_of_mem _ (List.mem_cons_of_mem _ List.mem_cons_self))
      have e17 : fi h2 17 = 1 * fi h1 17 + 1 := e17
      have e15 := f15 hf2
      rw [el3 (s2 := s2) (s3 := s3) hL rfl rfl]
      exact nt_more ht _ h2 rfl hh2 (hf.tr hf2) (by omega) (by omega) (by omega)
    have hsign : ∀ (p : aPt) (r : Option Value) (h2 : List pC), p.1 = [(rf5 110, cn (16 : Nat), (1, 1, 0, 1)), (rf5 110, cn (17 : Nat), (1, 1, 1, 1)), (rf5 110, cn (18 : Nat), (0, 3, 3, 0))] → rvG 6 (ntσ (fi h1 15) (fi h1 17) s2.toInt s3.toInt (fi h1 16) c.toInt) r none → ptG 6 (ntσ (fi h1 15) (fi h1 17) s2.toInt s3.toInt (fi h1 16) c.toInt) h2 p → HI HT h2 → Fr WNt h1 h2 → PNt h0 e0 r h2 := by
      intro p r h2 hp hr hp2 hh2 hf2
      have hc' := hp2.1
      rw [hp] at hc'
      have e16 := ck_in (i := 16) hc' List.mem_cons_self
      have e16 : fi h2 16 = 1 * fi h1 17 + 0 := e16
      have e17 := ck_in (i := 17) hc' (List.mem_cons_of_mem _ List.mem_cons_self)
      have e17 : fi h2 17 = 1 * fi h1 17 + 1 := e17
      have e15 := f15 hf2
      exact ⟨rv_none hr, hh2, hf.tr hf2, by omega, by omega, by omega, fun _ => by omega⟩
    by_cases cL : 97 ≤ c.toInt ∧ c.toInt ≤ 122
    · refine fseg_ok (J := fun _ => True) fs_nt60L rfl (fun k N c hk => by cases hk) (fun _ _ => trivial) (by omega) (hg _ _ cL.1 cL.2) hC (nt_L s2 s3) trivial hh (fun p hp r h2 hr hp2 hh2 hf2 => ?_) (fun z hz L' st' h2 hL' hS' hp2 hh2 hf2 => ?_)
      · obtain rfl := List.mem_singleton.mp hp
        exact hno _ r h2 rfl hp2
      · obtain rfl := List.mem_singleton.mp hz
        obtain rfl := hS'.nil_inv
        exact (hmore _ L' h2 rfl hL' hp2 hh2 hf2).1
    · by_cases cD : 48 ≤ c.toInt ∧ c.toInt ≤ 57
      · refine fseg_ok (J := fun _ => True) fs_nt60D rfl (fun k N c hk => by cases hk) (fun _ _ => trivial) (by omega) (hg _ _ cD.1 cD.2) hC (nt_L s2 s3) trivial hh (fun p hp r h2 hr hp2 hh2 hf2 => ?_) (fun z hz L' st' h2 hL' hS' hp2 hh2 hf2 => ?_)
        · obtain rfl := List.mem_singleton.mp hp
          exact hno _ r h2 rfl hp2
        · obtain rfl := List.mem_singleton.mp hz
          obtain rfl := hS'.nil_inv
          exact (hmore _ L' h2 rfl hL' hp2 hh2 hf2).2
      · have two : ∀ (p : aRt) (r : Option Value) (h2 : List pC), (p = (none, ([(rf5 110, cn (16 : Nat), (1, 1, 0, 1)), (rf5 110, cn (17 : Nat), (1, 1, 1, 1)), (rf5 110, cn (18 : Nat), (0, 3, 3, 0))], [], [])) ∨ p = (none, ([], [(3, (1, 1, 0, 1), (1, 1, 0, 0), (0, 0, 0, 0))], []))) → rvG 6 (ntσ (fi h1 15) (fi h1 17) s2.toInt s3.toInt (fi h1 16) c.toInt) r p.1 → ptG 6 (ntσ (fi h1 15) (fi h1 17) s2.toInt s3.toInt (fi h1 16) c.toInt) h2 p.2 → HI HT h2 → Fr WNt h1 h2 → PNt h0 e0 r h2 := by
          intro p r h2 hp hr hp2 hh2 hf2
          rcases hp with rfl | rfl
          · exact hsign _ r h2 rfl hr hp2 hh2 hf2
          · exact hno _ r h2 rfl hp2
        have mem2 : ∀ {a b p : aRt}, p ∈ [a, b] → p = a ∨ p = b := fun hp => by
          rcases List.mem_cons.mp hp with hp | hp
          · exact Or.inl hp
          · exact Or.inr (List.mem_singleton.mp hp)
        have h3 : (0 ≤ c.toInt ∧ c.toInt ≤ 47) ∨ (58 ≤ c.toInt ∧ c.toInt ≤ 96) ∨ (123 ≤ c.toInt ∧ c.toInt ≤ 255) := by
          dsimp only at hc
          omega
        rcases h3 with h3 | h3 | h3
        · exact fseg_ok (J := fun _ => True) fs_nt60S0 rfl (fun k N c hk => by cases hk) (fun _ _ => trivial) (by omega) (hg _ _ h3.1 h3.2) hC (nt_L s2 s3) trivial hh (fun p hp r h2 hr hp2 hh2 hf2 => two p r h2 (mem2 hp) hr hp2 hh2 hf2) (fun z hz => by cases hz)
        · exact fseg_ok (J := fun _ => True) fs_nt60S1 rfl (fun k N c hk => by cases hk) (fun _ _ => trivial) (by omega) (hg _ _ h3.1 h3.2) hC (nt_L s2 s3) trivial hh (fun p hp r h2 hr hp2 hh2 hf2 => two p r h2 (mem2 hp) hr hp2 hh2 hf2) (fun z hz => by cases hz)
        · exact fseg_ok (J := fun _ => True) fs_nt60S2 rfl (fun k N c hk => by cases hk) (fun _ _ => trivial) (by omega) (hg _ _ h3.1 h3.2) hC (nt_L s2 s3) trivial hh (fun p hp r h2 hr hp2 hh2 hf2 => two p r h2 (mem2 hp) hr hp2 hh2 hf2) (fun z hz => by cases hz)
theorem el3c {n : Nat} {σ : Nat → Int} {L : pL} {s3 : Int32} {b : Int} (h : elG n σ L [some (5, 0, 0, 110), some (0, b, b, 0), some (1, 1, 0, 3)]) (h3 : σ 3 = s3.toInt) : ∃ v : Int32, v.toInt = b ∧ L = [some (.ref 110), some (.int v), some (.int s3)] := by
  have hl := h.1
  match L, hl with
  | [a, b', c], _ =>
    have g0 : a = _ := h.r (k := 0) rfl
    obtain ⟨w, g1, hv⟩ := h.2 1 _ rfl
    obtain ⟨v1, rfl, hz⟩ := hv.int (Nat.zero_le 1)
    obtain ⟨v2, g2, f2⟩ := h.i (k := 2) rfl
    have g1 : b' = _ := g1
    have g2 : c = _ := g2
    have e2 : v2 = s3 := i32_eq.mpr (by rw [f2, h3]; omega)
    unfold zG at hz
    rw [if_pos (by rfl)] at hz
    exact ⟨v1, by dsimp only at hz; omega, by rw [g0, g1, g2, e2]⟩
theorem nt_18 {h0 : List pC} {e0 : Int} {s2 s3 : Int32} (ht : 0 ≤ s2.toInt ∧ s2.toInt ≤ 1) : ∀ (M : Nat) (h1 : List pC), (fi h1 15 - fi h1 17).toNat = M → HI HT h1 → Fr WNt h0 h1 → e0 ≤ fi h1 17 → fi h1 17 ≤ fi h1 15 → Gl prog E V (PNt h0 e0) (d + 8) mX8_nextToken 18 [some (.ref 110), some (.int s2), some (.int s3)] [] h1 [] := by
  intro M
  induction M using Nat.strongRecOn with
  | _ M ih =>
    intro h1 hm hh hf hb hle
    have r15 := (m_fld hh (i := 15) (lo := 0) (hi := 96) rfl).2
    have r16 := (m_fld hh (i := 16) (lo := 0) (hi := 96) rfl).2
    have r17 := (m_fld hh (i := 17) (lo := 0) (hi := 96) rfl).2
    have hC : ∀ {h : List pC}, HI HT h → cok 6 (ntσ (fi h 15) (fi h 17) s2.toInt s3.toInt (fi h 16) 0) h [(rf5 110, cn (15 : Nat), (1, 1, 0, 0)), (rf5 110, cn (17 : Nat), (1, 1, 0, 1))] := fun hh => cok.cs (ck_f (lo := 0) (hi := 96) hh rfl (by decide) rfl) (cok.cs (ck_f (lo := 0) (hi := 96) hh rfl (by decide) rfl) cok.nil)
    have hg : ∀ {h : List pC}, HI HT h → gok (ntσ (fi h 15) (fi h 17) s2.toInt s3.toInt (fi h 16) 0) [.inl (0, 96), .inl (0, 96), .inl (0, 1), .inl (-2147483648, 2147483647), .inl (0, 96), .inl (0, 255)] := fun {h} hh => gok6 (m_fld hh (i := 15) (lo := 0) (hi := 96) rfl).2 (m_fld hh (i := 17) (lo := 0) (hi := 96) rfl).2 ht ⟨i32_lo s3, i32_hi s3⟩ (m_fld hh (i := 16) (lo := 0) (hi := 96) rfl).2 ⟨(show (0 : Int) ≤ 0 by decide), (show (0 : Int) ≤ 255 by decide)⟩
    refine fseg_ok (J := fun _ => True) fs_nt18 rfl (fun k N c hk => by cases hk) (fun _ _ => trivial) (by omega) (hg hh) (hC hh) (nt_L s2 s3) trivial hh (fun p hp => by cases hp) (fun z hz L' st' h2 hL' hS' hp2 hh2 hf2 => ?_)
    rcases List.mem_cons.mp hz with rfl | hz
    · obtain rfl := hS'.nil_inv
      have e17 := ck_in (i := 17) hp2.1 (List.mem_cons_of_mem _ List.mem_cons_self)
      have e17 : fi h2 17 = 1 * fi h1 17 + 1 := e17
      have e15 := f15 hf2
      have hlt2 : fi h1 17 < fi h1 15 := nt_facts (hp2.2.1 _ List.mem_cons_self) rfl rfl
      have eL := el3 (s2 := s2) (s3 := s3) hL' rfl rfl
      subst eL
      exact ih (fi h2 15 - fi h2 17).toNat (by omega) h2 rfl hh2 (hf.tr hf2) (by omega) (by omega)
    · obtain rfl := List.mem_singleton.mp hz
      obtain rfl := hS'.nil_inv
      have e17 := ck_in (i := 17) hp2.1 (List.mem_cons_of_mem _ List.mem_cons_self)
      have e17 : fi h2 17 = 1 * fi h1 17 + 0 := e17
      have e15 := f15 hf2
      have eL := el3 (s2 := s2) (s3 := s3) hL' rfl rfl
      subst eL
      refine fseg_ok (J := fun _ => True) fs_nt37 rfl (fun k N c hk => by cases hk) (fun _ _ => trivial) (by omega) (hg hh2) (hC hh2) (nt_L s2 s3) trivial hh2 (fun p hp => by cases hp) (fun z hz L3 st3 h3 hL3 hS3 hp3 hh3 hf3 => ?_)
      have fin : ∀ (bq : Int) (p : aPt), 0 ≤ bq ∧ bq ≤ 1 → p.1 = [(rf5 110, cn (15 : Nat), (1, 1, 0, 0)), (rf5 110, cn (16 : Nat), (1, 1, 0, 1)), (rf5 110, cn (17 : Nat), (1, 1, 0, 1))] → elG 6 (ntσ (fi h2 15) (fi h2 17) s2.toInt s3.toInt (fi h2 16) 0) L3 [some (5, 0, 0, 110), some (0, bq, bq, 0), some (1, 1, 0, 3)] → ptG 6 (ntσ (fi h2 15) (fi h2 17) s2.toInt s3.toInt (fi h2 16) 0) h3 p → Gl prog E V (PNt h0 e0) (d + 8) mX8_nextToken 51 L3 [] h3 [] := by
        intro bq p hbq hp hL3 hp3
        have hc' := hp3.1
        rw [hp] at hc'
        have f16 := ck_in (i := 16) hc' (List.mem_cons_of_mem _ List.mem_cons_self)
        have f16 : fi h3 16 = 1 * fi h2 17 + 0 := f16
        have f17 := ck_in (i := 17) hc' (List.mem_cons_of_mem _ (List.mem_cons_of_mem _ List.mem_cons_self))
        have f17 : fi h3 17 = 1 * fi h2 17 + 0 := f17
        have f15' := f15 hf3
        obtain ⟨v, hv, rfl⟩ := el3c (s3 := s3) hL3 rfl
        exact nt_51 (by omega) h3 hh3 ((hf.tr hf2).tr hf3) (by omega) (by omega) (by omega)
      rcases List.mem_cons.mp hz with rfl | hz
      · obtain rfl := hS3.nil_inv
        exact fin 0 _ ⟨by omega, by omega⟩ rfl hL3 hp3
      · obtain rfl := List.mem_singleton.mp hz
        obtain rfl := hS3.nil_inv
        exact fin 1 _ ⟨by omega, by omega⟩ rfl hL3 hp3
/-- nextToken: it goes on to the next token, the places that are to be read alone are written -/
theorem next_x (hh : HI HT h) (he : fi h 17 ≤ fi h 15) : ∃ h', Run prog E V (d + 8) mX8_nextToken [.ref 110] h (none, h', 0, 0) ∧ PNt h (fi h 17) none h' := by
  have key : Gl prog E V (PNt h (fi h 17)) (d + 8) mX8_nextToken 0 (pent 3 [.ref 110]) [] h [] := by
    refine seg_ok (J := fun _ => True) sg_nt0 rfl (fun k N c hk => by cases hk) (fun _ _ => trivial) (by omega) (args_lt (as := [.ref 110]) (ps := [.inr (false, [110])]) 3 2 ⟨Or.inr ⟨110, List.mem_cons_self, rfl⟩, trivial⟩ rfl) trivial hh (fun r h' hr _ _ => (no_ret hr).elim) (fun z hz L1 st1 h1 hL1 hst1 hh1 hf1 => ?_)
    obtain rfl := List.mem_singleton.mp hz
    match st1, hst1 with
    | [], _ =>
      have hl := hL1.1
      match L1, hl with
      | [a, b, c], _ =>
        obtain rfl : a = _ := rf_of (k := 0) hL1 rfl
        obtain ⟨v1, q1, w1⟩ := iv_of (k := 1) hL1 rfl
        obtain ⟨v2, q2, w2⟩ := iv_of (k := 2) hL1 rfl
        obtain rfl : b = _ := q1
        obtain rfl : c = _ := q2
        have e15 : fi h1 15 = fi h 15 := by unfold fi; rw [ri_ct (hf1 110 15 rfl)]
        have e17 : fi h1 17 = fi h 17 := by unfold fi; rw [ri_ct (hf1 110 17 rfl)]
        exact nt_18 w1 _ h1 rfl hh1 (hf1.sub rfl) (by omega) (by omega)
  obtain ⟨r, h', k1, k2⟩ := key
  obtain rfl := k2.1
  exact ⟨h', ⟨Nat.le_of_ble_eq_true rfl, ⟨_, _, rfl⟩, k1⟩, k2⟩
end NX2
