/-! ===== methods that write nothing leave the cells themselves ===== -/
def nwI (P : List pM) (S : List Nat) (e : pE) : Bool := match e_in e with
  | .putfield _ => false
  | .iastore => false
  | .aastore => false
  | .new _ => false
  | .newarray _ => false
  | .anewarray _ => false
  | .invokestatic _ => decide (¬ e_x e = 99999) && (match P[e_x e]? with
    | some _ => S.contains (e_x e)
    | none => true)
  | .invokevirtual _ => S.contains (e_x e)
  | .invokespecial _ => S.contains (e_x e)
  | _ => true
section NW
variable {P : List pM} {E : pX} {V : pV} {S : List Nat} {e : pE} {i i' : Nat} {L L' : pL} {st st' : List Value} {h h' : List pC} {dk dn : Nat}
theorem pnx_h (hs : pnx i L st h = some (i', L', st', h', dk, dn)) : h' = h ∧ dk = 0 ∧ dn = 0 := by
  unfold pnx at hs
  cases hs
  exact ⟨rfl, rfl, rfl⟩
theorem psto_h {o : Option pL} (hs : psto o i st h = some (i', L', st', h', dk, dn)) : h' = h ∧ dk = 0 ∧ dn = 0 := by
  unfold psto at hs
  split at hs
  · exact pnx_h hs
  · cases hs
theorem some_h {x : Nat} {l : pL} {s : List Value} (hs : some (x, l, s, h, 0, 0) = some (i', L', st', h', dk, dn)) : h' = h ∧ dk = 0 ∧ dn = 0 := by
  cases hs
  exact ⟨rfl, rfl, rfl⟩
theorem pm2_h {f : Int32 → Int32 → Int32} (hs : pm2 f i L st h = some (i', L', st', h', dk, dn)) : h' = h ∧ dk = 0 ∧ dn = 0 := by
  unfold pm2 at hs
  split at hs
  · split at hs
    · exact pnx_h hs
    · cases hs
  · cases hs
theorem pm1_h {f : Int32 → Int32} (hs : pm1 f i L st h = some (i', L', st', h', dk, dn)) : h' = h ∧ dk = 0 ∧ dn = 0 := by
  unfold pm1 at hs
  split at hs
  · split at hs
    · exact pnx_h hs
    · cases hs
  · cases hs
theorem pnats_h (h9 : ¬ e_x e = 99999) (hs : pnats e i L st h = some (i', L', st', h', dk, dn)) : h' = h ∧ dk = 0 ∧ dn = 0 := by
  unfold pnats at hs
  split at hs
  · exact pm2_h hs
  · split at hs
    · exact pm2_h hs
    · split at hs
      · exact pm1_h hs
      · rename_i n0 n1 n2
        exfalso
        unfold pocopy at hs
        split at hs
        · rw [if_neg (fun q => h9 q.1)] at hs
          cases hs
        · cases hs
theorem pstep_nw (hn : nwI P S e = true) (hs : pstep E e i L st h = some (i', L', st', h', dk, dn)) : h' = h ∧ dk = 0 ∧ dn = 0 := by
  unfold pstep at hs
  unfold nwI at hn
  split at hs
  all_goals first
    | (cases hs; done)
    | (rename_i hin; rw [hin] at hn)
  all_goals first
    | exact pnx_h hs
    | exact some_h hs
    | (unfold pldi at hs; split at hs <;> first | exact pnx_h hs | cases hs)
    | (unfold pldl at hs; split at hs <;> first | exact pnx_h hs | cases hs)
    | (unfold plda at hs; split at hs <;> first | exact pnx_h hs | cases hs)
    | (unfold psti at hs; split at hs <;> first | exact psto_h hs | cases hs)
    | (unfold psta at hs; split at hs <;> first | exact psto_h hs | cases hs)
    | (unfold pinc at hs; split at hs <;> first | exact psto_h hs | cases hs)
    | (unfold pbin at hs; split at hs <;> first | exact pnx_h hs | cases hs)
    | (unfold puni at hs; split at hs <;> first | exact pnx_h hs | cases hs)
    | (unfold plbin at hs; split at hs <;> first | exact pnx_h hs | cases hs)
    | (unfold pdiv at hs; split at hs <;> first | (split at hs <;> first | exact pnx_h hs | cases hs) | cases hs)
    | (unfold pdup at hs; split at hs <;> first | (split at hs <;> first | exact pnx_h hs | cases hs) | cases hs)
    | (unfold pdup2 at hs; split at hs <;> first | (split at hs <;> first | exact pnx_h hs | cases hs) | cases hs)
    | (unfold ppop at hs; split at hs <;> first | (split at hs <;> first | exact pnx_h hs | cases hs) | cases hs)
    | (unfold pif1 at hs; split at hs <;> first | exact some_h hs | cases hs)
    | (unfold pif2 at hs; split at hs <;> first | exact some_h hs | cases hs)
    | (unfold pifn at hs; split at hs <;> first | exact some_h hs | exact pnx_h hs | cases hs)
    | (unfold pifnn at hs; split at hs <;> first | exact some_h hs | exact pnx_h hs | cases hs)
    | (unfold pswi at hs; split at hs <;> first | exact some_h hs | cases hs)
    | (unfold pgetf at hs; split at hs <;> first | (split at hs <;> first | (split at hs <;> first | (split at hs <;> first | exact pnx_h hs | cases hs) | cases hs) | cases hs) | cases hs)
    | (unfold piald at hs; split at hs <;> first | (split at hs <;> first | (split at hs <;> first | exact pnx_h hs | cases hs) | cases hs) | cases hs)
    | (unfold paald at hs; split at hs <;> first | (split at hs <;> first | (split at hs <;> first | exact pnx_h hs | cases hs) | cases hs) | cases hs)
    | (unfold palen at hs; split at hs <;> first | (split at hs <;> first | exact pnx_h hs | cases hs) | cases hs)
    | (dsimp only at hn; rw [Bool.and_eq_true] at hn; exact pnats_h (of_decide_eq_true hn.1) hs)
    | (unfold poini at hs; split at hs <;> first | (split at hs <;> first | exact pnx_h hs | cases hs) | cases hs)
    | cases hn
    | cases hs
theorem pcall_nw {N : pM} {as rest : List Value} (hn : nwI P S e = true) (hc : pcall P e st h = some (N, as, rest)) : ∃ k ∈ S, P[k]? = some N := by
  unfold pcall at hc
  unfold nwI at hn
  split at hc
  · rename_i hin
    rw [hin] at hn
    dsimp only at hn
    split at hc
    · rename_i M hM
      split at hc
      · cases hc
        rw [hM, Bool.and_eq_true] at hn
        exact ⟨e_x e, List.contains_iff_mem.mp hn.2, hM⟩
      · cases hc
    · cases hc
  · rename_i hin
    rw [hin] at hn
    dsimp only at hn
    split at hc
    · rename_i M hM
      split at hc
      · split at hc
        · split at hc
          · cases hc
            exact ⟨e_x e, List.contains_iff_mem.mp hn, hM⟩
          · cases hc
        · cases hc
      · cases hc
    · cases hc
  · rename_i hin
    rw [hin] at hn
    dsimp only at hn
    split at hc
    · rename_i M hM
      split at hc
      · split at hc
        · cases hc
          exact ⟨e_x e, List.contains_iff_mem.mp hn, hM⟩
        · cases hc
      · cases hc
    · cases hc
  · cases hc
theorem nw_run (hS : ∀ k ∈ S, ∀ M, P[k]? = some M → (m_code M).all (nwI P S) = true) : ∀ (f d : Nat) (M : pM) (i : Nat) (L : pL) (st : List Value) (h : List pC) (r : Option Value) (h2 : List pC) (k n : Nat), (m_code M).all (nwI P S) = true → pexec P E V f d M i L st h = some (r, h2, k, n) → h2 = h ∧ k = 0 ∧ n = 0 := by
  intro f
  induction f with
  | zero =>
    intro d M i L st h r h2 k n hM hx
    cases hx
  | succ f ih =>
    intro d M i L st h r h2 k n hM hx
    cases d with
    | zero => cases hx
    | succ d =>
      rw [pexec] at hx
      cases he : (m_code M)[i]? with
      | none => rw [he] at hx; cases hx
      | some t =>
        rw [he] at hx
        dsimp only at hx
        have ht : nwI P S t = true := List.all_eq_true.mp hM t (List.mem_of_getElem? he)
        cases hpr : pret M t st with
        | some rr =>
          rw [hpr] at hx
          cases hx
          exact ⟨rfl, rfl, rfl⟩
        | none =>
          rw [hpr] at hx
          dsimp only at hx
          cases hpc : pcall P t st h with
          | some w =>
            obtain ⟨N, as, rest⟩ := w
            rw [hpc] at hx
            dsimp only at hx
            obtain ⟨q, hq, hN⟩ := pcall_nw ht hpc
            have hNc := hS q hq N hN
            cases hcode : m_code N with
            | nil =>
              rw [hcode] at hx
              dsimp only at hx
              split at hx
              · cases hv : V N as h with
                | none => rw [hv] at hx; cases hx
                | some r1 =>
                  rw [hv] at hx
                  exact ih _ _ _ _ _ _ _ _ _ _ hM hx
              · cases hx
            | cons u us =>
              rw [hcode] at hx
              dsimp only at hx
              split at hx
              · cases h1 : pexec P E V f d N 0 (pent (m_l N) as) [] h with
                | none => rw [h1] at hx; cases hx
                | some w =>
                  obtain ⟨r1, g1, k1, n1⟩ := w
                  rw [h1] at hx
                  obtain ⟨rfl, rfl, rfl⟩ := ih _ _ _ _ _ _ _ _ _ _ hNc h1
                  dsimp only at hx
                  cases h3 : pexec P E V f (d + 1) M (i + 1) L (r1.toList ++ rest) g1 with
                  | none => rw [h3] at hx; cases hx
                  | some w =>
                    obtain ⟨r2, g2, k2, n2⟩ := w
                    rw [h3] at hx
                    obtain ⟨rfl, rfl, rfl⟩ := ih _ _ _ _ _ _ _ _ _ _ hM h3
                    cases hx
                    exact ⟨rfl, rfl, rfl⟩
              · cases hx
          | none =>
            rw [hpc] at hx
            dsimp only at hx
            cases hps : pstep E t i L st h with
            | none => rw [hps] at hx; cases hx
            | some w =>
              obtain ⟨i1, L1, st1, g1, dk, dn⟩ := w
              rw [hps] at hx
              obtain ⟨rfl, rfl, rfl⟩ := pstep_nw ht hps
              dsimp only at hx
              cases h3 : pexec P E V f (d + 1) M i1 L1 st1 g1 with
              | none => rw [h3] at hx; cases hx
              | some w =>
                obtain ⟨r2, g2, k2, n2⟩ := w
                rw [h3] at hx
                obtain ⟨rfl, rfl, rfl⟩ := ih _ _ _ _ _ _ _ _ _ _ hM h3
                cases hx
                exact ⟨rfl, rfl, rfl⟩
end NW
def SAY : List Nat := [50, 51, 52, 53, 150, 157, 158]
set_option maxRecDepth 100000 in
theorem say_nw : ∀ k ∈ SAY, ∀ M, prog[k]? = some M → (m_code M).all (nwI prog SAY) = true := by
  have hb : SAY.all (fun k => match prog[k]? with
    | some M => (m_code M).all (nwI prog SAY)
    | none => true) = true := by decide +kernel
  intro k hk M hM
  have h1 := List.all_eq_true.mp hb k hk
  rw [hM] at h1
  exact h1
theorem say_run {E : pX} {k d : Nat} {N : pM} {as : List Value} {h h2 : List pC} {r : Option Value} {a b : Nat} (hk : k ∈ SAY) (hN : prog[k]? = some N) (hr : Run prog E pV1 d N as h (r, h2, a, b)) : h2 = h := by
  obtain ⟨-, -, f, hf⟩ := hr
  exact (nw_run say_nw f _ _ _ _ _ _ _ _ _ _ (say_nw k hk N hN) hf).1
/-- what a rubbing says, on both sides, one behind the other -/
def drS : pM := (m_y mX7_tell, m_b mX7_tell, 4, some .int, 0, 7, [(0, .aload_n 0, 0, 0, .null, []), (0, .iload_n 0, 3, 0, .null, []), (0, .invokevirtual 0, 50, 1, .null, []), (0, .aload_n 1, 1, 0, .null, []), (0, .iload_n 0, 2, 0, .null, []), (0, .iload_n 0, 3, 0, .null, []), (0, .invokevirtual 0, 158, 2, .null, []), (0, .if_icmp .eq 0, 10, 0, .null, []), (0, .iconst 0, 0, 0, .int 0, []), (0, .ireturn, 0, 0, .null, []), (0, .iconst 1, 0, 0, .int 1, []), (0, .ireturn, 0, 0, .null, [])])
def sk (k : Nat) : AV := (1, 1, 0, k)
def aS7 : AV := (6, 0, 0, 7)
def cSay : aC := [(aS7, cn 0, sk 3), (aS7, cn 1, sk 4), (aS7, cn 2, sk 5), (aS7, cn 3, sk 6), (rf5 111, (1, 6, 21, 1), sk 3), (rf5 111, (1, 6, 22, 1), sk 4), (rf5 111, (1, 6, 23, 1), sk 5), (rf5 111, (1, 6, 24, 1), sk 6)]
def gSay : aG := [.inl (77777, 77777), .inl (0, 8), .inl (0, 7), .inl (0, 5), .inl (0, 65535), .inl (1, 8), .inl (0, 1), .inr [39, 40, 41, 42, 43, 44, 45, 46, 47]]
def ecSay (S : aS) : Bool := match S.2.2.2.2 with
  | [y, y'] => decide (y = y') && det y && decide (y.1 ≤ 1)
  | _ => false
set_option maxRecDepth 100000 in
set_option maxHeartbeats 40000000 in
theorem ck_say : aex prog HT [] [] true tb0 (fun i' S => decide (i' = 7) && (ctr S.2.2.1 || ecSay S)) oxN 180 false 110 9998 drS 0 gSay cSay [(0, sk 2, sk 5, cn 0)] [aS7, rf5 110, sk 1, sk 2] [] [] [] = true := by decide +kernel
section SAYS
variable {E : pX} {h : List pC}
theorem rub_c (hh : HI HT h) : ∀ k : Nat, k < 9 → ∀ f : Nat, f < 4 → ct h (39 + k) f = some (.int (ri h (39 + k) f)) ∧ (f = 2 → 1 ≤ (ri h (39 + k) 2).toInt ∧ (ri h (39 + k) 2).toInt ≤ 8) := by
  intro k hk f hf
  have hb : (List.range 9).all (fun k => (List.range 4).all (fun f => decide (elT HT 6 (39 + k) f f = some (.inl (if f = 2 then (1, 8) else (-2147483648, 2147483647)))))) = true := by decide +kernel
  have h1 := of_decide_eq_true (List.all_eq_true.mp (List.all_eq_true.mp hb k (List.mem_range.mpr hk)) f (List.mem_range.mpr hf))
  obtain ⟨c1, c2⟩ := ri_ty hh h1
  refine ⟨c1, fun e => ?_⟩
  subst e
  exact c2
def rubB (f : Nat) : Int × Int := match f with
  | 0 => (0, 5)
  | 1 => (0, 65535)
  | 2 => (0, 8)
  | _ => (0, 1)
theorem rub_r (hh : HI HT h) : ∀ k : Nat, k < 9 → ∀ f : Nat, f < 4 → ct h 111 (21 + 6 * k + f) = some (.int (ri h 111 (21 + 6 * k + f))) ∧ (rubB f).1 ≤ (ri h 111 (21 + 6 * k + f)).toInt ∧ (ri h 111 (21 + 6 * k + f)).toInt ≤ (rubB f).2 := by
  intro k hk f hf
  have hb : (List.range 9).all (fun k => (List.range 4).all (fun f => decide (elT HT 0 111 (21 + 6 * k + f) (21 + 6 * k + f) = some (.inl (rubB f))))) = true := by decide +kernel
  have h1 := of_decide_eq_true (List.all_eq_true.mp (List.all_eq_true.mp hb k (List.mem_range.mpr hk)) f (List.mem_range.mpr hf))
  have h2 : elT HT 0 111 ((21 + 6 * k + f : Nat) : Int) ((21 + 6 * k + f : Nat) : Int) = some (.inl (rubB f)) := by
    push_cast
    exact h1
  exact ri_ty hh h2
/-- of one rubbing: kind, raw, size, turned are alike -/
def RubK (h : List pC) (k : Nat) : Prop := ∀ f : Nat, f < 4 → ri h (39 + k) f = ri h 111 (21 + 6 * k + f)
theorem say_both {d k : Nat} {p : Int32} (hd : 109 ≤ d) (hh : HI HT h) (hj : JT h) (hk : k < 9) (hr : RubK h k) (p0 : 0 ≤ p.toInt) (p1 : p.toInt < (ri h (39 + k) 2).toInt) : ∃ v : Int32, Run prog E pV1 d mX4_sayAt [.ref (39 + k), .int p] h (some (.int v), h, 0, 0) ∧ Run prog E pV1 d mX8_saysAt [.ref 110, .int (nI k), .int p] h (some (.int v), h, 0, 0) := by
  have c := rub_c hh k hk
  have r := rub_r hh k hk
  have s8 := (c 2 (by decide)).2 rfl
  have hkI : (nI k).toInt = k := nI_toInt (by omega)
  have g : Gl prog E pV1 (fun r h' => r = some (.int 1)) (d + 1) drS 0 [some (.ref (39 + k)), some (.ref 110), some (.int (nI k)), some (.int p)] [] h [] := by
    refine hop (σ0 := fun t => match t with | 0 => 77777 | 1 => (k : Int) | 2 => p.toInt | 3 => (ri h (39 + k) 0).toInt | 4 => (ri h (39 + k) 1).toInt | 5 => (ri h (39 + k) 2).toInt | 6 => (ri h (39 + k) 3).toInt | _ => ((39 + k : Nat) : Int)) ck_say no_kc (by decide) hj (by omega) (by decide) ⟨⟨Nat.le_refl _, agr.rf _ _⟩, fun m e hm => ?_, ?_, ?_, LG.cons (lG.of rfl (Or.inr ⟨rfl, by show 39 + k = (((39 + k : Nat) : Int)).toNat; omega, by decide⟩)) (LG.cons (lGr 110) (LG.cons (lGi (by decide) (by show (nI k).toInt = 1 * (k : Int) + 0; omega)) (LG.cons (lGi (by decide) (by show p.toInt = 1 * p.toInt + 0; omega)) LGn))), trivial, hh, Fr.rf _ _⟩ (fun σ S L' st' h1 hec g => ?_)
    · match m, hm with
      | 0, hm => cases hm; exact ⟨Int.le_refl 77777, Int.le_refl 77777⟩
      | 1, hm => cases hm; exact ⟨by show (0 : Int) ≤ (k : Int); omega, by show (k : Int) ≤ 8; omega⟩
      | 2, hm => cases hm; exact ⟨p0, by show p.toInt ≤ 7; omega⟩
      | 3, hm => cases hm; have := (r 0 (by decide)).2; rw [← hr 0 (by decide)] at this; exact this
      | 4, hm => cases hm; have := (r 1 (by decide)).2; rw [← hr 1 (by decide)] at this; exact this
      | 5, hm => cases hm; exact s8
      | 6, hm => cases hm; have := (r 3 (by decide)).2; rw [← hr 3 (by decide)] at this; exact this
      | 7, hm => cases hm; exact ⟨39 + k, by simp only [List.mem_cons, List.not_mem_nil, or_false]; omega, rfl⟩
      | m + 8, hm => simp [gSay] at hm
    · have one : ∀ (σ : Nat → Int) (f : Nat) (hf : f < 4) (m : Nat), m < 8 → σ 7 = ((39 + k : Nat) : Int) → σ m = (ri h (39 + k) f).toInt → ckE 8 σ h (aS7, cn (f : Int), sk m) := fun σ f hf m hm h7 hs => ⟨39 + k, f, _, Or.inr ⟨rfl, by show 39 + k = (σ 7).toNat; rw [h7]; omega, (show aS7.2.2.2 < 8 by decide)⟩, cnZ _, (c f hf).1, Nat.le_refl 1, zG.mk (by decide) (by rw [hs]; omega) hm⟩
      have two : ∀ (σ : Nat → Int) (f : Nat) (hf : f < 4) (m : Nat), m < 8 → σ 1 = (k : Int) → σ m = (ri h (39 + k) f).toInt → ckE 8 σ h (rf5 111, (1, 6, 21 + (f : Int), 1), sk m) := fun σ f hf m hm h1 hs => ⟨111, 21 + 6 * k + f, _, Or.inl ⟨rfl, rfl⟩, zG.mk (by decide) (by rw [h1]; push_cast; omega) (by decide), (r f hf).1, Nat.le_refl 1, zG.mk (by decide) (by rw [← hr f hf, hs]; omega) hm⟩
      exact cok.cs (one _ 0 (by decide) 3 (by decide) rfl rfl) (cok.cs (one _ 1 (by decide) 4 (by decide) rfl rfl) (cok.cs (one _ 2 (by decide) 5 (by decide) rfl rfl) (cok.cs (one _ 3 (by decide) 6 (by decide) rfl rfl) (cok.cs (two _ 0 (by decide) 3 (by decide) rfl rfl) (cok.cs (two _ 1 (by decide) 4 (by decide) rfl rfl) (cok.cs (two _ 2 (by decide) 5 (by decide) rfl rfl) (cok.cs (two _ 3 (by decide) 6 (by decide) rfl rfl) cok.nil)))))))
    · intro f hf
      obtain rfl := List.mem_singleton.mp hf
      exact ⟨p.toInt, (ri h (39 + k) 2).toInt, zG.mk (by decide) (by show p.toInt = 1 * p.toInt + 0; omega) (by decide), zG.mk (by decide) (by show (ri h (39 + k) 2).toInt = 1 * (ri h (39 + k) 2).toInt + 0; omega) (by decide), p1⟩
    · unfold ecSay at hec
      have hs1 := g.2.2.2.2.2.1
      split at hec
      · rename_i y y' hst
        rw [hst] at hs1
        rw [Bool.and_eq_true, Bool.and_eq_true] at hec
        obtain ⟨⟨e2, e3⟩, e4⟩ := hec
        obtain rfl := of_decide_eq_true e2
        have e4 := of_decide_eq_true e4
        obtain ⟨w1, t1, rfl, v1, hs2⟩ := hs1.cons_inv
        obtain ⟨w2, t2, rfl, v2, hs3⟩ := hs2.cons_inv
        obtain rfl := hs3.nil_inv
        obtain ⟨u1, rfl, y1⟩ := v1.int e4
        obtain ⟨u2, rfl, y2⟩ := v2.int e4
        obtain rfl : u1 = u2 := Int32.toInt_inj.mp (det_ok e3 y1 y2)
        exact ⟨some (.int 1), h1, RA.if2T (x := 10) rfl (decide_eq_true rfl) (RA.steps (i' := 11) (L' := L') (st' := [.int 1]) (h' := h1) 1 rfl (RA.ret rfl rfl)), rfl⟩
      · cases hec
  obtain ⟨r, h2, hra, rfl⟩ := g
  have s1 := RA.steps_inv (i' := 2) (L' := [some (.ref (39 + k)), some (.ref 110), some (.int (nI k)), some (.int p)]) (st' := [.int p, .ref (39 + k)]) (h' := h) 2 rfl hra
  obtain ⟨r1, h1, q1, s2, -⟩ := RA.callv_inv (rest := []) rfl (N := mX4_sayAt) rfl (List.cons_ne_nil _ _) rfl s1
  rw [List.append_nil] at s2
  obtain rfl := say_run (k := 50) (by decide) rfl q1
  generalize hQ : r1.toList = Q at s2
  have s3 := RA.steps_inv (i' := 6) (L' := [some (.ref (39 + k)), some (.ref 110), some (.int (nI k)), some (.int p)]) (st' := .int p :: .int (nI k) :: .ref 110 :: Q) (h' := h1) 3 rfl s2
  obtain ⟨r2, h3, q2, s4, -⟩ := RA.callv_inv (rest := Q) rfl (N := mX8_saysAt) rfl (List.cons_ne_nil _ _) rfl s3
  obtain rfl := say_run (k := 158) (by decide) rfl q2
  obtain ⟨a, b, rest, e, s5⟩ := RA.if2_inv rfl s4
  obtain ⟨e1, e2, rfl⟩ : r1 = some (.int a) ∧ r2 = some (.int b) ∧ rest = [] := by
    cases r1 with
    | none =>
      subst hQ
      cases r2 with
      | none => cases e
      | some w => cases e
    | some v =>
      subst hQ
      cases r2 with
      | none => cases e
      | some w => cases e; exact ⟨rfl, rfl, rfl⟩
  subst e1
  subst e2
  by_cases hab : a = b
  · subst hab
    exact ⟨a, q1, q2⟩
  · rw [show pc2 .eq a b = false from decide_eq_false hab] at s5
    have s6 := RA.steps_inv (i' := 9) (L' := [some (.ref (39 + k)), some (.ref 110), some (.int (nI k)), some (.int p)]) (st' := [.int 0]) (h' := h3) 1 rfl s5
    have s7 := RA.ret_inv rfl rfl s6
    have e3 := Option.some.inj (Prod.mk.inj s7).1
    exact absurd e3 (by decide)
end SAYS
/-! ===== one rubbing, as both reach it ===== -/
section ONE
variable {E : pX} {h : List pC}
theorem rubs_at (hh : HI HT h) : ∃ x : Nat × Nat × (Nat → Option Nat), h[36]? = some (.inr (.inl x)) ∧ x.2.1 = 9 ∧ ∀ k : Nat, k < 9 → x.2.2 k = some (39 + k) := by
  obtain ⟨c, hc, hy⟩ := hh.2 36 (.inr (.inl (4, 9, fun i => ([39, 40, 41, 42, 43, 44, 45, 46, 47] : List Nat)[i]?))) rfl
  rcases c with x | x | x
  · exact hy.elim
  · obtain ⟨q1, q2, q3⟩ : x.1 = 4 ∧ x.2.1 = 9 ∧ ∀ i : Nat, i < 9 → x.2.2 i = ([39, 40, 41, 42, 43, 44, 45, 46, 47] : List Nat)[i]? := hy
    refine ⟨x, hc, q2, fun k hk => ?_⟩
    rw [q3 k hk]
    match k, hk with
    | 0, _ => rfl
    | 1, _ => rfl
    | 2, _ => rfl
    | 3, _ => rfl
    | 4, _ => rfl
    | 5, _ => rfl
    | 6, _ => rfl
    | 7, _ => rfl
    | 8, _ => rfl
  · exact hy.elim
theorem w_obj (hh : HI HT h) : ∃ fs : List Value, pobj h 34 = some (6, fs) ∧ fs[5]? = some (.int (ri h 34 5)) ∧ fs[1]? = some (.ref 35) ∧ fs[2]? = some (.ref 36) := by
  obtain ⟨fs, ho, hF⟩ := hi_obj hh (a := 34) rfl
  refine ⟨fs, ho, ?_, hF.ref (k := 1) rfl, hF.ref (k := 2) rfl⟩
  have := (ri_ty (k := 8) (a := 34) (i := 5) (p := (0, 9)) hh rfl).1
  unfold ct at this
  rw [pobj_at ho] at this
  exact this
theorem rub_obj (hh : HI HT h) {k : Nat} (hk : k < 9) : ∃ fs : List Value, pobj h (39 + k) = some (4, fs) ∧ ∀ f : Nat, f < 4 → fs[f]? = some (.int (ri h (39 + k) f)) := by
  have hT : ∃ xs, HT[39 + k]? = some (.inr (.inr (4, xs))) := by
    match k, hk with
    | 0, _ => exact ⟨_, rfl⟩
    | 1, _ => exact ⟨_, rfl⟩
    | 2, _ => exact ⟨_, rfl⟩
    | 3, _ => exact ⟨_, rfl⟩
    | 4, _ => exact ⟨_, rfl⟩
    | 5, _ => exact ⟨_, rfl⟩
    | 6, _ => exact ⟨_, rfl⟩
    | 7, _ => exact ⟨_, rfl⟩
    | 8, _ => exact ⟨_, rfl⟩
  obtain ⟨xs, hT⟩ := hT
  obtain ⟨fs, ho, -⟩ := hi_obj hh hT
  refine ⟨fs, ho, fun f hf => ?_⟩
  have := (rub_c hh k hk f hf).1
  unfold ct at this
  rw [pobj_at ho] at this
  exact this
theorem one_x {d k : Nat} (hh : HI HT h) (hk : k < 9) (hm : (k : Int) < (ri h 34 5).toInt) : Run prog E pV1 (d + 1) mX6_one [.ref 34, .int (nI k)] h (some (.ref (39 + k)), h, 0, 0) := by
  obtain ⟨fs, ho, hm5, -, h2⟩ := w_obj hh
  obtain ⟨x, hc, hx9, hx⟩ := rubs_at hh
  have k0 : (0 : Int32) ≤ nI k := (nI_cl (by omega)).1
  have kc : (nI k).toNatClampNeg < x.2.1 := by rw [(nI_cl (by omega)).2, hx9]; exact hk
  have kw : x.2.2 (nI k).toNatClampNeg = some (39 + k) := by rw [(nI_cl (by omega)).2]; exact hx k hk
  have hkI : (nI k).toInt = k := nI_toInt (by omega)
  have km : nI k < ri h 34 5 := Int32.lt_iff_toInt_lt.mpr (by omega)
  have k9 : nI k < nI 9 := nI_lt hk (by decide)
  refine ⟨Nat.le_of_ble_eq_true rfl, ⟨_, _, rfl⟩, ?_⟩
  show RA prog E pV1 (d + 1) mX6_one 0 [some (.ref 34), some (.int (nI k))] [] h (some (.ref (39 + k)), h, 0, 0)
  refine RA.steps (i' := 1) (L' := [some (.ref 34), some (.int (nI k))]) (st' := [.int (nI k)]) (h' := h) 1 rfl ?_
  refine RA.if1F rfl (decide_eq_false (Int32.not_lt.mpr k0)) ?_
  refine RA.steps (i' := 4) (L' := [some (.ref 34), some (.int (nI k))]) (st' := [.ref 34, .int (nI k)]) (h' := h) 2 rfl ?_
  refine RA.getf rfl ho rfl hm5 ?_
  refine RA.if2F rfl (decide_eq_false (Int32.not_le.mpr km)) ?_
  refine RA.steps (i' := 8) (L' := [some (.ref 34), some (.int (nI k))]) (st' := [.ref 34, .int (nI k)]) (h' := h) 2 rfl ?_
  refine RA.getf rfl ho rfl h2 ?_
  refine RA.alenR rfl hc hx9 ?_
  refine RA.if2F rfl (decide_eq_false (Int32.not_le.mpr k9)) ?_
  refine RA.steps (i' := 12) (L' := [some (.ref 34), some (.int (nI k))]) (st' := [.ref 34]) (h' := h) 1 rfl ?_
  refine RA.getf rfl ho rfl h2 ?_
  refine RA.steps (i' := 14) (L' := [some (.ref 34), some (.int (nI k))]) (st' := [.int (nI k), .ref 36]) (h' := h) 1 rfl ?_
  refine RA.aald rfl hc ⟨k0, kc⟩ kw ?_
  refine RA.steps (i' := 17) (L' := [some (.ref 34), some (.int (nI k))]) (st' := [.ref (39 + k)]) (h' := h) 1 rfl ?_
  exact RA.ret rfl rfl
theorem isr_x {d k : Nat} (hh : HI HT h) (hk : k < 9) (hm : (k : Int) < (ri h 111 0).toInt) : Run prog E pV1 (d + 2) mX8_isRubbing [.ref 110, .int (nI k)] h (some (.int 1), h, 0, 0) := by
  obtain ⟨fs, ho, g0, -⟩ := m_ob hh
  obtain ⟨f, p1, u1, -⟩ := hi_int hh HT111
  have e0 : f 0 = ri h 111 0 := (u1 0 (by decide)).symm
  have b := (ri_ty (k := 0) (a := 111) (i := 0) (p := (0, 9)) hh rfl).2
  have hkI : (nI k).toInt = k := nI_toInt (by omega)
  have s1 : (ri h 111 0 - 1).toInt = (ri h 111 0).toInt - 1 := by
    rw [Int32.toInt_sub, show (1 : Int32).toInt = 1 by decide]
    exact bm32 (by unfold mI; omega) (by unfold MI; omega)
  refine ⟨Nat.le_of_ble_eq_true rfl, ⟨_, _, rfl⟩, ?_⟩
  show RA prog E pV1 (d + 2) mX8_isRubbing 0 [some (.ref 110), some (.int (nI k))] [] h (some (.int 1), h, 0, 0)
  refine RA.steps (i' := 4) (L' := [some (.ref 110), some (.int (nI k))]) (st' := [.ref 110, .long (Int32.toInt64 0), .long (nI k).toInt64]) (h' := h) 4 rfl ?_
  refine RA.getf rfl ho rfl g0 ?_
  refine RA.steps 1 rfl ?_
  refine RA.iald rfl p1 ⟨by decide, Nat.le_of_ble_eq_true rfl⟩ e0 ?_
  refine RA.steps (i' := 10) (L' := [some (.ref 110), some (.int (nI k))]) (st' := [.long (ri h 111 0 - 1).toInt64, .long (Int32.toInt64 0), .long (nI k).toInt64]) (h' := h) 3 rfl ?_
  refine RA.call0 (N := mX8_isIn) (as := [.long (nI k).toInt64, .long (Int32.toInt64 0), .long (ri h 111 0 - 1).toInt64]) (rest := []) rfl rfl rfl (isIn_t ⟨Int32.le_iff_toInt_le.mpr (by rw [hkI]; show (0 : Int) ≤ k; omega), Int32.le_iff_toInt_le.mpr (by omega)⟩) ?_
  exact RA.ret rfl rfl
theorem of_x {d k f : Nat} (hh : HI HT h) (hk : k < 9) (hf : f < 6) : Run prog E pV1 (d + 1) mX8_of [.ref 110, .int (nI k), .int (nI f)] h (some (.int (ri h 111 (21 + 6 * k + f))), h, 0, 0) := by
  obtain ⟨fs, ho, g0, -⟩ := m_ob hh
  obtain ⟨g, p1, u1, -⟩ := hi_int hh HT111
  refine ⟨Nat.le_of_ble_eq_true rfl, ⟨_, _, rfl⟩, ?_⟩
  show RA prog E pV1 (d + 1) mX8_of 0 [some (.ref 110), some (.int (nI k)), some (.int (nI f))] [] h (some (.int (ri h 111 (21 + 6 * k + f))), h, 0, 0)
  have e : 21 + 6 * nI k + nI f = nI (21 + 6 * k + f) := by
    have e1 : (6 : Int32) * nI k = nI (6 * k) := by
      match k, hk with
      | 0, _ => rfl
      | 1, _ => rfl
      | 2, _ => rfl
      | 3, _ => rfl
      | 4, _ => rfl
      | 5, _ => rfl
      | 6, _ => rfl
      | 7, _ => rfl
      | 8, _ => rfl
    rw [e1, show (21 : Int32) = nI 21 from rfl, nI_add, nI_add]
  refine RA.steps 1 rfl ?_
  refine RA.getf rfl ho rfl g0 ?_
  refine RA.steps (i' := 9) (L' := [some (.ref 110), some (.int (nI k)), some (.int (nI f))]) (st' := [.int (21 + 6 * nI k + nI f), .ref 111]) (h' := h) 7 rfl ?_
  rw [e]
  obtain ⟨c1, c2⟩ := nI_cl (k := 21 + 6 * k + f) (by omega)
  refine RA.iald rfl p1 ⟨c1, by rw [c2]; show 21 + 6 * k + f < 3075; omega⟩ (show g (nI (21 + 6 * k + f)).toNatClampNeg = ri h 111 (21 + 6 * k + f) by rw [c2]; exact (u1 _ (by omega)).symm) ?_
  exact RA.ret rfl rfl
theorem says_k {k : Nat} (x2 : Int32) (hh : HI HT h) (hj : JT h) (hk : k < 9) (hm : (k : Int) < (ri h 34 5).toInt) (hq : ri h 34 5 = ri h 111 0) (hr : RubK h k) : ∃ v : Int32, Run prog E pV1 120 mX7_says [.ref 0, .int (nI k), .int x2] h (some (.int v), h, 0, 0) ∧ Run prog E pV1 120 mX8_says [.ref 110, .int (nI k), .int x2] h (some (.int v), h, 0, 0) := by
  obtain ⟨fs0, ho0, hF0⟩ := hi_obj hh (a := 0) rfl
  obtain ⟨fs34, ho34, -⟩ := w_obj hh
  obtain ⟨fsr, hor, hfr⟩ := rub_obj hh hk
  have hsz := hfr 2 (by decide)
  obtain ⟨o8, ho8, hc8⟩ := mobj hh
  have s8 := (rub_c hh k hk 2 (by decide)).2 rfl
  have sz : ri h (39 + k) 2 = ri h 111 (21 + 6 * k + 2) := hr 2 (by decide)
  have hm2 : (k : Int) < (ri h 111 0).toInt := by rw [← hq]; exact hm
  have s1 : (ri h (39 + k) 2 - 1).toInt = (ri h (39 + k) 2).toInt - 1 := by
    rw [Int32.toInt_sub, show (1 : Int32).toInt = 1 by decide]
    exact bm32 (by unfold mI; omega) (by unfold MI; omega)
  by_cases c : 0 ≤ x2.toInt ∧ x2.toInt < (ri h (39 + k) 2).toInt
  · obtain ⟨v, sv1, sv2⟩ := say_both (E := E) (d := 119) (by decide) hh hj hk hr c.1 c.2
    have hin : (0 : Int32) ≤ x2 ∧ x2 ≤ ri h (39 + k) 2 - 1 := ⟨Int32.le_iff_toInt_le.mpr c.1, Int32.le_iff_toInt_le.mpr (by omega)⟩
    have hin2 : (0 : Int32) ≤ x2 ∧ x2 ≤ ri h 111 (21 + 6 * k + 2) - 1 := by rw [← sz]; exact hin
    refine ⟨v, ⟨Nat.le_of_ble_eq_true rfl, ⟨_, _, rfl⟩, ?_⟩, ⟨Nat.le_of_ble_eq_true rfl, ⟨_, _, rfl⟩, ?_⟩⟩
    · show RA prog E pV1 120 mX7_says 0 [some (.ref 0), some (.int (nI k)), some (.int x2), none] [] h (some (.int v), h, 0, 0)
      refine RA.steps (i' := 1) (L' := [some (.ref 0), some (.int (nI k)), some (.int x2), none]) (st' := [.ref 0]) (h' := h) 1 rfl ?_
      refine RA.getf rfl ho0 rfl (hF0.ref (k := 1) rfl) ?_
      refine RA.steps (i' := 3) (L' := [some (.ref 0), some (.int (nI k)), some (.int x2), none]) (st' := [.int (nI k), .ref 34]) (h' := h) 1 rfl ?_
      refine RA.call0 (N := mX6_one) (as := [.ref 34, .int (nI k)]) (rest := []) rfl rfl (pcallV rfl rfl ho34 rfl rfl (Nat.le_of_ble_eq_true rfl)) (one_x (d := 118) hh hk hm) ?_
      refine RA.steps (i' := 10) (L' := [some (.ref 0), some (.int (nI k)), some (.int x2), some (.ref (39 + k))]) (st' := [.ref (39 + k), .int 0, .int x2]) (h' := h) 6 rfl ?_
      refine RA.getf rfl hor rfl hsz ?_
      refine RA.steps (i' := 13) (L' := [some (.ref 0), some (.int (nI k)), some (.int x2), some (.ref (39 + k))]) (st' := [.int ((ri h (39 + k) 2) - 1), .int 0, .int x2]) (h' := h) 2 rfl ?_
      refine RA.call0 (N := mX7_within) (as := [.int x2, .int 0, .int ((ri h (39 + k) 2) - 1)]) (rest := []) rfl rfl rfl (within_t hin) ?_
      refine RA.if1F rfl rfl ?_
      refine RA.steps (i' := 17) (L' := [some (.ref 0), some (.int (nI k)), some (.int x2), some (.ref (39 + k))]) (st' := [.int x2, .ref (39 + k)]) (h' := h) 2 rfl ?_
      refine RA.call0 (N := mX4_sayAt) (as := [.ref (39 + k), .int x2]) (rest := []) rfl rfl (pcallV rfl rfl hor rfl rfl (Nat.le_of_ble_eq_true rfl)) sv1 ?_
      refine RA.steps (i' := 20) (L' := [some (.ref 0), some (.int (nI k)), some (.int x2), some (.ref (39 + k))]) (st' := [.int v]) (h' := h) 1 rfl ?_
      exact RA.ret rfl rfl
    · show RA prog E pV1 120 mX8_says 0 [some (.ref 110), some (.int (nI k)), some (.int x2)] [] h (some (.int v), h, 0, 0)
      refine RA.steps (i' := 2) (L' := [some (.ref 110), some (.int (nI k)), some (.int x2)]) (st' := [.int (nI k), .ref 110]) (h' := h) 2 rfl ?_
      refine RA.call0 (N := mX8_isRubbing) (as := [.ref 110, .int (nI k)]) (rest := []) rfl rfl (pcallV rfl rfl ho8 rfl hc8 (Nat.le_of_ble_eq_true rfl)) (isr_x (d := 117) hh hk hm2) ?_
      refine RA.if1F rfl rfl ?_
      refine RA.steps (i' := 10) (L' := [some (.ref 110), some (.int (nI k)), some (.int x2)]) (st' := [.int 2, .int (nI k), .ref 110, .long (Int32.toInt64 0), .long x2.toInt64]) (h' := h) 6 rfl ?_
      refine RA.call0 (N := mX8_of) (as := [.ref 110, .int (nI k), .int 2]) (rest := [.long (Int32.toInt64 0), .long x2.toInt64]) rfl rfl (pcallV rfl rfl ho8 rfl hc8 (Nat.le_of_ble_eq_true rfl)) (of_x (d := 118) (f := 2) hh hk (by decide)) ?_
      refine RA.steps (i' := 14) (L' := [some (.ref 110), some (.int (nI k)), some (.int x2)]) (st' := [.long ((ri h 111 (21 + 6 * k + 2)) - 1).toInt64, .long (Int32.toInt64 0), .long x2.toInt64]) (h' := h) 3 rfl ?_
      refine RA.call0 (N := mX8_isIn) (as := [.long x2.toInt64, .long (Int32.toInt64 0), .long ((ri h 111 (21 + 6 * k + 2)) - 1).toInt64]) (rest := []) rfl rfl rfl (isIn_t hin2) ?_
      refine RA.if1F rfl rfl ?_
      refine RA.steps (i' := 19) (L' := [some (.ref 110), some (.int (nI k)), some (.int x2)]) (st' := [.int x2, .int (nI k), .ref 110]) (h' := h) 3 rfl ?_
      refine RA.call0 (N := mX8_saysAt) (as := [.ref 110, .int (nI k), .int x2]) (rest := []) rfl rfl (pcallV rfl rfl ho8 rfl hc8 (Nat.le_of_ble_eq_true rfl)) sv2 ?_
      refine RA.steps (i' := 22) (L' := [some (.ref 110), some (.int (nI k)), some (.int x2)]) (st' := [.int v]) (h' := h) 1 rfl ?_
      exact RA.ret rfl rfl
  · have hno : ¬ ((0 : Int32) ≤ x2 ∧ x2 ≤ ri h (39 + k) 2 - 1) := fun q => c ⟨Int32.le_iff_toInt_le.mp q.1, by have := Int32.le_iff_toInt_le.mp q.2; omega⟩
    have hno2 : ¬ ((0 : Int32) ≤ x2 ∧ x2 ≤ ri h 111 (21 + 6 * k + 2) - 1) := by rw [← sz]; exact hno
    refine ⟨-1000000001, ⟨Nat.le_of_ble_eq_true rfl, ⟨_, _, rfl⟩, ?_⟩, ⟨Nat.le_of_ble_eq_true rfl, ⟨_, _, rfl⟩, ?_⟩⟩
    · show RA prog E pV1 120 mX7_says 0 [some (.ref 0), some (.int (nI k)), some (.int x2), none] [] h (some (.int (-1000000001)), h, 0, 0)
      refine RA.steps (i' := 1) (L' := [some (.ref 0), some (.int (nI k)), some (.int x2), none]) (st' := [.ref 0]) (h' := h) 1 rfl ?_
      refine RA.getf rfl ho0 rfl (hF0.ref (k := 1) rfl) ?_
      refine RA.steps (i' := 3) (L' := [some (.ref 0), some (.int (nI k)), some (.int x2), none]) (st' := [.int (nI k), .ref 34]) (h' := h) 1 rfl ?_
      refine RA.call0 (N := mX6_one) (as := [.ref 34, .int (nI k)]) (rest := []) rfl rfl (pcallV rfl rfl ho34 rfl rfl (Nat.le_of_ble_eq_true rfl)) (one_x (d := 118) hh hk hm) ?_
      refine RA.steps (i' := 10) (L' := [some (.ref 0), some (.int (nI k)), some (.int x2), some (.ref (39 + k))]) (st' := [.ref (39 + k), .int 0, .int x2]) (h' := h) 6 rfl ?_
      refine RA.getf rfl hor rfl hsz ?_
      refine RA.steps (i' := 13) (L' := [some (.ref 0), some (.int (nI k)), some (.int x2), some (.ref (39 + k))]) (st' := [.int ((ri h (39 + k) 2) - 1), .int 0, .int x2]) (h' := h) 2 rfl ?_
      refine RA.call0 (N := mX7_within) (as := [.int x2, .int 0, .int ((ri h (39 + k) 2) - 1)]) (rest := []) rfl rfl rfl (within_f hno) ?_
      refine RA.if1T rfl rfl ?_
      refine RA.steps (i' := 20) (L' := [some (.ref 0), some (.int (nI k)), some (.int x2), some (.ref (39 + k))]) (st' := [.int (-1000000001)]) (h' := h) 1 rfl ?_
      exact RA.ret rfl rfl
    · show RA prog E pV1 120 mX8_says 0 [some (.ref 110), some (.int (nI k)), some (.int x2)] [] h (some (.int (-1000000001)), h, 0, 0)
      refine RA.steps (i' := 2) (L' := [some (.ref 110), some (.int (nI k)), some (.int x2)]) (st' := [.int (nI k), .ref 110]) (h' := h) 2 rfl ?_
      refine RA.call0 (N := mX8_isRubbing) (as := [.ref 110, .int (nI k)]) (rest := []) rfl rfl (pcallV rfl rfl ho8 rfl hc8 (Nat.le_of_ble_eq_true rfl)) (isr_x (d := 117) hh hk hm2) ?_
      refine RA.if1F rfl rfl ?_
      refine RA.steps (i' := 10) (L' := [some (.ref 110), some (.int (nI k)), some (.int x2)]) (st' := [.int 2, .int (nI k), .ref 110, .long (Int32.toInt64 0), .long x2.toInt64]) (h' := h) 6 rfl ?_
      refine RA.call0 (N := mX8_of) (as := [.ref 110, .int (nI k), .int 2]) (rest := [.long (Int32.toInt64 0), .long x2.toInt64]) rfl rfl (pcallV rfl rfl ho8 rfl hc8 (Nat.le_of_ble_eq_true rfl)) (of_x (d := 118) (f := 2) hh hk (by decide)) ?_
      refine RA.steps (i' := 14) (L' := [some (.ref 110), some (.int (nI k)), some (.int x2)]) (st' := [.long ((ri h 111 (21 + 6 * k + 2)) - 1).toInt64, .long (Int32.toInt64 0), .long x2.toInt64]) (h' := h) 3 rfl ?_
      refine RA.call0 (N := mX8_isIn) (as := [.long x2.toInt64, .long (Int32.toInt64 0), .long ((ri h 111 (21 + 6 * k + 2)) - 1).toInt64]) (rest := []) rfl rfl rfl (isIn_f hno2) ?_
      refine RA.if1T rfl rfl ?_
      refine RA.steps (i' := 22) (L' := [some (.ref 110), some (.int (nI k)), some (.int x2)]) (st' := [.int (-1000000001)]) (h' := h) 1 rfl ?_
      exact RA.ret rfl rfl
end ONE
