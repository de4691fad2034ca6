/-! ===== nextToken: what it leaves of the places ===== -/
def fi (h : List pC) (i : Nat) : Int := (ri h 110 i).toInt
def MX : List AV := match (HT[110]? : Option aT) with
  | some (.inr (.inr t)) => t.2
  | _ => []
section NXT
variable {E : pX} {V : pV} {d : Nat} {h h' : List pC} {Post : Option Value → List pC → Prop}
theorem HTm : HT[110]? = some (.inr (.inr (8, MX))) := by rfl
theorem m_fld (hh : HI HT h) {i : Nat} {lo hi : Int} (hx : MX[i]? = some (0, lo, hi, 0)) : ct h 110 i = some (.int (ri h 110 i)) ∧ lo ≤ fi h i ∧ fi h i ≤ hi := by
  obtain ⟨fs, ho, hF⟩ := hi_obj hh HTm
  obtain ⟨w, hw, hv⟩ := FG.at hF hx
  obtain ⟨v, rfl, hz⟩ := hv.int (Nat.zero_le 1)
  have hc : ct h 110 i = some (.int v) := by
    unfold ct
    rw [pobj_at ho]
    exact hw
  have hr : ri h 110 i = v := by unfold ri; rw [hc]
  unfold fi
  rw [hr]
  unfold zG at hz
  rw [if_pos (by rfl)] at hz
  exact ⟨hc, hz⟩
theorem ck_in {n : Nat} {σ : Nat → Int} {C : aC} {i s : Nat} {a b : Int} (hC : cok n σ h C) (hm : (rf5 110, cn (i : Int), ((1, a, b, s) : AV)) ∈ C) : fi h i = a * σ s + b := by
  obtain ⟨a', i', w, h1, h2, h3, h4⟩ := hC _ hm
  have e1 : a' = 110 := ref_one h1 (n := n) (σ := σ) (x := rf5 110) (Or.inl ⟨rfl, rfl⟩)
  have e2 : i' = i := by
    have := det_ok (x := cn (i : Int)) (by unfold det cn; simp) h2 (cnZ (i : Int))
    omega
  subst e1
  subst e2
  obtain ⟨v, rfl, hz⟩ := h4.int (Nat.le_refl 1)
  unfold fi ri
  rw [h3]
  exact (hz.lin (show ¬ (1 : Nat) % 2 = 0 by decide)).1
theorem ck_inc {n : Nat} {σ : Nat → Int} {C : aC} {i : Nat} {a : Int} (hC : cok n σ h C) (hm : (rf5 110, cn (i : Int), ((0, a, a, 0) : AV)) ∈ C) : fi h i = a := by
  obtain ⟨a', i', w, h1, h2, h3, h4⟩ := hC _ hm
  have e1 : a' = 110 := ref_one h1 (n := n) (σ := σ) (x := rf5 110) (Or.inl ⟨rfl, rfl⟩)
  have e2 : i' = i := by
    have := det_ok (x := cn (i : Int)) (by unfold det cn; simp) h2 (cnZ (i : Int))
    omega
  subst e1
  subst e2
  obtain ⟨v, rfl, hz⟩ := h4.int (Nat.zero_le 1)
  unfold fi ri
  rw [h3]
  unfold zG at hz
  rw [if_pos (by rfl)] at hz
  dsimp only at hz ⊢
  omega
/-- a field, as it is remembered -/
def ckE (n : Nat) (σ : Nat → Int) (h : List pC) (e : AV × AV × AV) : Prop := ∃ (a i : Nat) (w : Value), vG n σ (.ref a) e.1 ∧ zG n σ (i : Int) e.2.1 ∧ ct h a i = some w ∧ vG n σ w e.2.2
theorem ck_f (hh : HI HT h) {n i k : Nat} {σ : Nat → Int} {lo hi : Int} (hx : MX[i]? = some (0, lo, hi, 0)) (hk : k < n) (hs : σ k = fi h i) : ckE n σ h (rf5 110, cn (i : Int), (1, 1, 0, k)) :=
  ⟨110, i, _, Or.inl ⟨rfl, rfl⟩, cnZ _, (m_fld hh hx).1, Nat.le_refl 1, zG.mk (by decide) (by rw [hs]; show fi h i = 1 * fi h i + 0; omega) hk⟩
theorem cok.nil {n : Nat} {σ : Nat → Int} : cok n σ h [] := fun e he => by cases he
theorem cok.cs {n : Nat} {σ : Nat → Int} {e : AV × AV × AV} {C : aC} (h1 : ckE n σ h e) (h2 : cok n σ h C) : cok n σ h (e :: C) := fun e' he => by
  rcases List.mem_cons.mp he with rfl | he
  · exact h1
  · exact h2 e' he
theorem gok.nil {σ : Nat → Int} : gok σ [] := fun k e hk => by simp at hk
def ntσ (tp e t w b c : Int) : Nat → Int := fun j => match j with
  | 0 => tp
  | 1 => e
  | 2 => t
  | 3 => w
  | 4 => b
  | _ => c
theorem gok6 {σ : Nat → Int} {p0 p1 p2 p3 p4 p5 : Int × Int} (h0 : p0.1 ≤ σ 0 ∧ σ 0 ≤ p0.2) (h1 : p1.1 ≤ σ 1 ∧ σ 1 ≤ p1.2) (h2 : p2.1 ≤ σ 2 ∧ σ 2 ≤ p2.2) (h3 : p3.1 ≤ σ 3 ∧ σ 3 ≤ p3.2) (h4 : p4.1 ≤ σ 4 ∧ σ 4 ≤ p4.2) (h5 : p5.1 ≤ σ 5 ∧ σ 5 ≤ p5.2) : gok σ [.inl p0, .inl p1, .inl p2, .inl p3, .inl p4, .inl p5] := fun k e hk => by
  match k, hk with
  | 0, hk => cases hk; exact h0
  | 1, hk => cases hk; exact h1
  | 2, hk => cases hk; exact h2
  | 3, hk => cases hk; exact h3
  | 4, hk => cases hk; exact h4
  | 5, hk => cases hk; exact h5
  | k + 6, hk => simp at hk
def WNt : aW := [(110, 110, 16, 20)]
/-- behind nextToken -/
def PNt (h : List pC) (e : Int) : Option Value → List pC → Prop := fun r h' => r = none ∧ HI HT h' ∧ Fr WNt h h' ∧ e ≤ fi h' 16 ∧ fi h' 16 ≤ fi h' 17 ∧ fi h' 17 ≤ fi h' 15 ∧ (fi h' 18 ≠ 0 → fi h' 16 < fi h' 17)
theorem f15 {h1 h2 : List pC} (hf : Fr WNt h1 h2) : fi h2 15 = fi h1 15 := by
  unfold fi
  rw [ri_ct (hf 110 15 rfl)]
theorem rv_none {n : Nat} {σ : Nat → Int} {r : Option Value} (h : rvG n σ r none) : r = none := by
  cases r with
  | none => rfl
  | some w => exact h.elim
theorem nt_facts {n : Nat} {σ : Nat → Int} {f : Nat × AV × AV × AV} {s1 s2 : Nat} (h : ∃ a b : Int, zG n σ a f.2.1 ∧ zG n σ b f.2.2.1 ∧ rel f.1 a b) (h1 : f.2.1 = (1, 1, 0, s1)) (h2 : f.2.2.1 = (1, 1, 0, s2)) : rel f.1 (σ s1) (σ s2) := by
  obtain ⟨a, b, k1, k2, k3⟩ := h
  rw [h1] at k1
  rw [h2] at k2
  have k1 : a = 1 * σ s1 + 0 := (k1.lin (show ¬ (1 : Nat) % 2 = 0 by decide)).1
  have k2 : b = 1 * σ s2 + 0 := (k2.lin (show ¬ (1 : Nat) % 2 = 0 by decide)).1
  rw [Int.one_mul, Int.add_zero] at k1 k2
  rw [k1, k2] at k3
  exact k3
theorem el3 {n : Nat} {σ : Nat → Int} {L : pL} {s2 s3 : Int32} (h : elG n σ L [some (5, 0, 0, 110), some (1, 1, 0, 2), some (1, 1, 0, 3)]) (h2 : σ 2 = s2.toInt) (h3 : σ 3 = s3.toInt) : L = [some (.ref 110), some (.int s2), some (.int s3)] := by
  have hl := h.1
  match L, hl with
  | [a, b, c], _ =>
    have g0 : a = _ := h.r (k := 0) rfl
    obtain ⟨v1, g1, f1⟩ := h.i (k := 1) rfl
    obtain ⟨v2, g2, f2⟩ := h.i (k := 2) rfl
    have g1 : b = _ := g1
    have g2 : c = _ := g2
    have e1 : v1 = s2 := i32_eq.mpr (by rw [f1, h2]; omega)
    have e2 : v2 = s3 := i32_eq.mpr (by rw [f2, h3]; omega)
    rw [g0, g1, g2, e1, e2]
theorem nt_L {tp e b c : Int} (s2 s3 : Int32) : LG 6 (ntσ tp e s2.toInt s3.toInt b c) [some (.ref 110), some (.int s2), some (.int s3)] [(5, 0, 0, 110), (1, 1, 0, 2), (1, 1, 0, 3)] := LG.cons (lGr 110) (LG.cons (lGi (by decide) (by show s2.toInt = 1 * s2.toInt + 0; omega)) (LG.cons (lGi (by decide) (by show s3.toInt = 1 * s3.toInt + 0; omega)) LGn))
theorem nt_C (hh : HI HT h) {t w c : Int} : cok 6 (ntσ (fi h 15) (fi h 17) t w (fi h 16) c) h [(rf5 110, cn (15 : Nat), (1, 1, 0, 0)), (rf5 110, cn (16 : Nat), (1, 1, 0, 4)), (rf5 110, cn (17 : Nat), (1, 1, 0, 1))] := cok.cs (ck_f (lo := 0) (hi := 96) hh rfl (by decide) rfl) (cok.cs (ck_f (lo := 0) (hi := 96) hh rfl (by decide) rfl) (cok.cs (ck_f (lo := 0) (hi := 96) hh rfl (by decide) rfl) cok.nil))
theorem nt_more {h0 : List pC} {e0 : Int} {s2 s3 : Int32} (ht : 0 ≤ s2.toInt ∧ s2.toInt ≤ 1) : ∀ (M : Nat) (h1 : List pC), (fi h1 15 - fi h1 17).toNat = M → HI HT h1 → Fr WNt h0 h1 → e0 ≤ fi h1 16 → fi h1 16 < fi h1 17 → fi h1 17 ≤ fi h1 15 → Gl prog E V (PNt h0 e0) (d + 8) mX8_nextToken 65 [some (.ref 110), some (.int s2), some (.int s3)] [] h1 [] ∧ Gl prog E V (PNt h0 e0) (d + 8) mX8_nextToken 109 [some (.ref 110), some (.int s2), some (.int s3)] [] h1 [] := by
  intro M
  induction M using Nat.strongRecOn with
  | _ M ih =>
    intro h1 hm hh hf hb hlt hle
    have r15 := (m_fld hh (i := 15) (lo := 0) (hi := 96) rfl).2
    have r16 := (m_fld hh (i := 16) (lo := 0) (hi := 96) rfl).2
    have r17 := (m_fld hh (i := 17) (lo := 0) (hi := 96) rfl).2
    have hg := gok6 (σ := ntσ (fi h1 15) (fi h1 17) s2.toInt s3.toInt (fi h1 16) 0) (p0 := (0, 96)) (p1 := (0, 96)) (p2 := (0, 1)) (p3 := (-2147483648, 2147483647)) (p4 := (0, 95)) (p5 := (0, 255)) r15 r17 ht ⟨i32_lo s3, i32_hi s3⟩ ⟨r16.1, by show fi h1 16 ≤ 95; omega⟩ ⟨(show (0 : Int) ≤ 0 by decide), (show (0 : Int) ≤ 255 by decide)⟩
    have hend : ∀ (p : aPt) (r : Option Value) (h2 : List pC), p.1 = [(rf5 110, cn (16 : Nat), (1, 1, 0, 4)), (rf5 110, cn (17 : Nat), (1, 1, 0, 1))] → rvG 6 (ntσ (fi h1 15) (fi h1 17) s2.toInt s3.toInt (fi h1 16) 0) r none → ptG 6 (ntσ (fi h1 15) (fi h1 17) s2.toInt s3.toInt (fi h1 16) 0) h2 p → HI HT h2 → Fr WNt h1 h2 → PNt h0 e0 r h2 := by
      intro p r h2 hp hr hp2 hh2 hf2
      have hc := hp2.1
      rw [hp] at hc
      have e16 := ck_in (i := 16) hc List.mem_cons_self
      have e16 : fi h2 16 = 1 * fi h1 16 + 0 := e16
      have e17 := ck_in (i := 17) hc (List.mem_cons_of_mem _ List.mem_cons_self)
      have e17 : fi h2 17 = 1 * fi h1 17 + 0 := e17
      have e15 := f15 hf2
      exact ⟨rv_none hr, hh2, hf.tr hf2, by omega, by omega, by omega, fun _ => by omega⟩
    have hnext : ∀ (p : aPt) (L' : pL) (h2 : List pC), p.1 = [(rf5 110, cn (15 : Nat), (1, 1, 0, 0)), (rf5 110, cn (16 : Nat), (1, 1, 0, 4)), (rf5 110, cn (17 : Nat), (1, 1, 1, 1))] → p.2.1 = [(0, (1, 1, 0, 1), (1, 1, 0, 0), (0, 0, 0, 0))] → elG 6 (ntσ (fi h1 15) (fi h1 17) s2.toInt s3.toInt (fi h1 16) 0) L' [some (5, 0, 0, 110), some (1, 1, 0, 2), some (1, 1, 0, 3)] → ptG 6 (ntσ (fi h1 15) (fi h1 17) s2.toInt s3.toInt (fi h1 16) 0) h2 p → HI HT h2 → Fr WNt h1 h2 → L' = [some (.ref 110), some (.int s2), some (.int s3)] ∧ Gl prog E V (PNt h0 e0) (d + 8) mX8_nextToken 65 [some (.ref 110), some (.int s2), some (.int s3)] [] h2 [] ∧ Gl prog E V (PNt h0 e0) (d + 8) mX8_nextToken 109 [some (.ref 110), some (.int s2), some (.int s3)] [] h2 [] := by
      intro p L' h2 hp hp1 hL hp2 hh2 hf2
      have hc := hp2.1
      rw [hp] at hc
      have e16 := ck_in (i := 16) hc (List.mem_cons_of_mem _ List.mem_cons_self)
      have e16 : fi h2 16 = 1 * fi h1 16 + 0 := e16
      have e17 := ck_in (i := 17) hc (List.mem_cons_of_mem _ (List.mem_cons_of_mem _ List.mem_cons_self))
      have e17 : fi h2 17 = 1 * fi h1 17 + 1 := e17
      have e15 := f15 hf2
      have hq := hp2.2.1
      rw [hp1] at hq
      have hlt2 : fi h1 17 < fi h1 15 := nt_facts (hq _ List.mem_cons_self) rfl rfl
      exact ⟨el3 hL rfl rfl, ih (fi h2 15 - fi h2 17).toNat (by omega) h2 rfl hh2 (hf.tr hf2) (by omega) (by omega) (by omega)⟩
    constructor
    · refine fseg_ok (J := fun _ => True) fs_nt65 rfl (fun k N c hk => by cases hk) (fun _ _ => trivial) (by omega) hg (nt_C hh) (nt_L s2 s3) trivial hh (fun p hp r h2 hr hp2 hh2 hf2 => ?_) (fun z hz L' st' h2 hL' hS' hp2 hh2 hf2 => ?_)
      · obtain rfl := List.mem_singleton.mp hp
        exact hend _ r h2 rfl hr hp2 hh2 hf2
      · obtain rfl := List.mem_singleton.mp hz
        obtain rfl := hS'.nil_inv
        obtain ⟨rfl, q, -⟩ := hnext _ L' h2 rfl rfl hL' hp2 hh2 hf2
        exact q
    · refine fseg_ok (J := fun _ => True) fs_nt109 rfl (fun k N c hk => by cases hk) (fun _ _ => trivial) (by omega) hg (nt_C hh) (nt_L s2 s3) trivial hh (fun p hp r h2 hr hp2 hh2 hf2 => ?_) (fun z hz L' st' h2 hL' hS' hp2 hh2 hf2 => ?_)
      · obtain rfl := List.mem_singleton.mp hp
        exact hend _ r h2 rfl hr hp2 hh2 hf2
      · obtain rfl := List.mem_singleton.mp hz
        obtain rfl := hS'.nil_inv
        obtain ⟨rfl, -, q⟩ := hnext _ L' h2 rfl rfl hL' hp2 hh2 hf2
        exact q
end NXT
