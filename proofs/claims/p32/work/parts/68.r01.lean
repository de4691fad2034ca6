/-! ===== rules that the texts by hand share ===== -/
section XRA
variable {E : pX} {V : pV} {d i : Nat} {M : pM} {L : pL} {h : List pC} {res : pR} {rest : List Value}
theorem RA.aald {a pc x y w : Nat} {v : Value} {j : Int32} {ts : List Nat} {o : Nat × Nat × (Nat → Option Nat)} (he : (m_code M)[i]? = some (pc, .aaload, x, y, v, ts)) (hc : h[a]? = some (.inr (.inl o))) (hj : 0 ≤ j ∧ j.toNatClampNeg < o.2.1) (hw : o.2.2 j.toNatClampNeg = some w) (k : RA prog E V (d + 1) M (i + 1) L (.ref w :: rest) h res) : RA prog E V (d + 1) M i L (.int j :: .ref a :: rest) h res := by
  have ho : pref h a = some o := by unfold pref; rw [hc]
  refine RA.step0 he rfl rfl ?_ k
  show (match pref h a with
    | some x => if 0 ≤ j ∧ j.toNatClampNeg < x.2.1 then pnx i L (va_rf (x.2.2 j.toNatClampNeg) :: rest) h else none
    | none => none) = _
  rw [ho]
  dsimp only
  rw [if_pos hj, hw]
  rfl
theorem RA.alenR {a pc x y n : Nat} {v : Value} {ts : List Nat} {o : Nat × Nat × (Nat → Option Nat)} (he : (m_code M)[i]? = some (pc, .arraylength, x, y, v, ts)) (hc : h[a]? = some (.inr (.inl o))) (hn : o.2.1 = n) (k : RA prog E V (d + 1) M (i + 1) L (.int (nI n) :: rest) h res) : RA prog E V (d + 1) M i L (.ref a :: rest) h res := by
  subst hn
  refine RA.step0 he rfl rfl ?_ k
  show (match h[a]? with
    | some (.inl x) => pnx i L (.int (Int32.ofNat x.1) :: rest) h
    | some (.inr (.inl x)) => pnx i L (.int (Int32.ofNat x.2.1) :: rest) h
    | _ => none) = _
  rw [hc]
  rfl
theorem RA.alenI {a pc x y n : Nat} {v : Value} {ts : List Nat} {f : Nat → Int32} (he : (m_code M)[i]? = some (pc, .arraylength, x, y, v, ts)) (ho : pint h a = some (n, f)) (k : RA prog E V (d + 1) M (i + 1) L (.int (nI n) :: rest) h res) : RA prog E V (d + 1) M i L (.ref a :: rest) h res := by
  have hc := pint_at ho
  refine RA.step0 he rfl rfl ?_ k
  show (match h[a]? with
    | some (.inl x) => pnx i L (.int (Int32.ofNat x.1) :: rest) h
    | some (.inr (.inl x)) => pnx i L (.int (Int32.ofNat x.2.1) :: rest) h
    | _ => none) = _
  rw [hc]
  rfl
theorem RA.acpy {nn pc y a0 a1 : Nat} {v : Value} {ts : List Nat} {n sp dp : Int32} {x0 x1 : Nat × (Nat → Int32)} (he : (m_code M)[i]? = some (pc, .invokestatic nn, 99999, y, v, ts)) (hP : pcall prog (pc, .invokestatic nn, 99999, y, v, ts) (.int n :: .int dp :: .ref a1 :: .int sp :: .ref a0 :: rest) h = none) (h0 : pint h a0 = some x0) (h1 : pint h a1 = some x1) (hr : pcs rest ≤ 8) (hb : 0 ≤ sp ∧ 0 ≤ dp ∧ 0 ≤ n ∧ sp.toNatClampNeg + n.toNatClampNeg ≤ x0.1 ∧ dp.toNatClampNeg + n.toNatClampNeg ≤ x1.1) (k : RA prog E V (d + 1) M (i + 1) L rest (h.set a1 (.inl (x1.1, va_cpy x0.2 x1.2 sp.toNatClampNeg dp.toNatClampNeg n.toNatClampNeg))) res) : RA prog E V (d + 1) M i L (.int n :: .int dp :: .ref a1 :: .int sp :: .ref a0 :: rest) h res := by
  refine RA.step0 he rfl hP ?_ k
  show (if (99999 : Nat) = 99999 ∧ pcs rest ≤ 8 then (match pint h a0, pint h a1 with
    | some x, some y => if 0 ≤ sp ∧ 0 ≤ dp ∧ 0 ≤ n ∧ sp.toNatClampNeg + n.toNatClampNeg ≤ x.1 ∧ dp.toNatClampNeg + n.toNatClampNeg ≤ y.1 then pnx i L rest (h.set a1 (.inl (y.1, va_cpy x.2 y.2 sp.toNatClampNeg dp.toNatClampNeg n.toNatClampNeg))) else none
    | _, _ => none) else none) = _
  rw [if_pos ⟨rfl, hr⟩, h0, h1]
  dsimp only
  rw [if_pos hb]
  rfl
theorem Run.det {P : List pM} {N : pM} {as : List Value} {r1 r2 : pR} (a : Run P E V d N as h r1) (b : Run P E V d N as h r2) : r1 = r2 := by
  obtain ⟨-, -, f, hf⟩ := a
  obtain ⟨-, -, g, hg⟩ := b
  have e1 := pexec_le (Nat.le_max_left f g) hf
  have e2 := pexec_le (Nat.le_max_right f g) hg
  rw [e1] at e2
  exact Option.some.inj e2
theorem nI_cl {k : Nat} (hk : k < 100000) : 0 ≤ nI k ∧ (nI k).toNatClampNeg = k := nI_lt31 k hk
theorem nIsub {a b : Nat} (hb : b ≤ a) (ha : a < 100000) : nI a - nI b = nI (a - b) := Int32.toInt_inj.mp (by
  rw [Int32.toInt_sub, nI_toInt (by omega), nI_toInt (by omega), nI_toInt (by omega), bm32 (by unfold mI; omega) (by unfold MI; omega)]
  omega)
theorem nIof {x : Int32} (h0 : 0 ≤ x.toInt) (h1 : x.toInt < 100000) : ∃ k : Nat, x = nI k ∧ (k : Int) = x.toInt := ⟨x.toInt.toNat, Int32.toInt_inj.mp (by rw [nI_toInt (by omega)]; omega), by omega⟩
theorem nI1 : nI 1 = 1 := by decide +kernel
theorem ri_setI {a n j : Nat} {f g : Nat → Int32} (hp : pint h a = some (n, f)) (hj : j < n) : ri (h.set a (.inl (n, g))) a j = g j := by
  unfold ri
  rw [ct_ri (pint_set (pint_lt hp)) hj]
theorem ri_setN {a b j : Nat} {c : pC} (hab : ¬ a = b) : ri (h.set a c) b j = ri h b j := by
  unfold ri ct
  rw [List.getElem?_set_ne hab]
end XRA
/-! ===== words and signs: what stands where ===== -/
section LEX
abbrev bL (b : Int32) : Prop := (97 : Int32) ≤ b ∧ b ≤ 122
abbrev bD (b : Int32) : Prop := (48 : Int32) ≤ b ∧ b ≤ 57
/-- what stands at a place: 0 nothing more, 1 a letter, 2 a digit, 3 a sign -/
def kd (g : Nat → Int32) (n p : Nat) : Nat := if p < n then (if bL (g p) then 1 else if bD (g p) then 2 else 3) else 0
theorem kd_0 {g : Nat → Int32} {n p : Nat} (c : ¬ p < n) : kd g n p = 0 := by
  unfold kd
  rw [if_neg c]
theorem kd_1 {g : Nat → Int32} {n p : Nat} (c : p < n) (cl : bL (g p)) : kd g n p = 1 := by
  unfold kd
  rw [if_pos c, if_pos cl]
theorem kd_2 {g : Nat → Int32} {n p : Nat} (c : p < n) (cl : ¬ bL (g p)) (cd : bD (g p)) : kd g n p = 2 := by
  unfold kd
  rw [if_pos c, if_neg cl, if_pos cd]
theorem kd_3 {g : Nat → Int32} {n p : Nat} (c : p < n) (cl : ¬ bL (g p)) (cd : ¬ bD (g p)) : kd g n p = 3 := by
  unfold kd
  rw [if_pos c, if_neg cl, if_neg cd]
theorem kd_cases (g : Nat → Int32) (n p : Nat) : (¬ p < n ∧ kd g n p = 0) ∨ (p < n ∧ bL (g p) ∧ kd g n p = 1) ∨ (p < n ∧ ¬ bL (g p) ∧ bD (g p) ∧ kd g n p = 2) ∨ (p < n ∧ ¬ bL (g p) ∧ ¬ bD (g p) ∧ kd g n p = 3) := by
  by_cases c : p < n
  · by_cases cl : bL (g p)
    · exact Or.inr (Or.inl ⟨c, cl, kd_1 c cl⟩)
    · by_cases cd : bD (g p)
      · exact Or.inr (Or.inr (Or.inl ⟨c, cl, cd, kd_2 c cl cd⟩))
      · exact Or.inr (Or.inr (Or.inr ⟨c, cl, cd, kd_3 c cl cd⟩))
  · exact Or.inl ⟨c, kd_0 c⟩
def skp (g : Nat → Int32) (n : Nat) : Nat → Nat → Nat
  | 0, p => p
  | m + 1, p => if p < n ∧ g p = 32 then skp g n m (p + 1) else p
theorem skp_s (g : Nat → Int32) (n m p : Nat) : skp g n (m + 1) p = if p < n ∧ g p = 32 then skp g n m (p + 1) else p := rfl
theorem skp_le (g : Nat → Int32) (n : Nat) : ∀ m p : Nat, p + m = n → p ≤ skp g n m p ∧ skp g n m p ≤ n
  | 0, p, hp => ⟨Nat.le_refl p, by show p ≤ n; omega⟩
  | m + 1, p, hp => by
    rw [skp_s]
    have ih := skp_le g n m (p + 1) (by omega)
    by_cases c : p < n ∧ g p = 32
    · rw [if_pos c]
      omega
    · rw [if_neg c]
      omega
def rnk (g : Nat → Int32) (n k : Nat) : Nat → Nat → Nat
  | 0, p => p
  | m + 1, p => if kd g n p = k then rnk g n k m (p + 1) else p
theorem rnk_s (g : Nat → Int32) (n k m p : Nat) : rnk g n k (m + 1) p = if kd g n p = k then rnk g n k m (p + 1) else p := rfl
theorem rnk_le (g : Nat → Int32) (n k : Nat) : ∀ m p : Nat, p + m = n → p ≤ rnk g n k m p ∧ rnk g n k m p ≤ n
  | 0, p, hp => ⟨Nat.le_refl p, by show p ≤ n; omega⟩
  | m + 1, p, hp => by
    rw [rnk_s]
    have ih := rnk_le g n k m (p + 1) (by omega)
    by_cases c : kd g n p = k
    · rw [if_pos c]
      omega
    · rw [if_neg c]
      omega
/-- where the word, number or sign ends that begins at b -/
def wEnd (g : Nat → Int32) (n b : Nat) : Nat := if kd g n b = 0 then b else if kd g n b = 3 then b + 1 else rnk g n (kd g n b) (n - b) b
theorem wEnd_0 {g : Nat → Int32} {n b : Nat} (c : kd g n b = 0) : wEnd g n b = b := by
  unfold wEnd
  rw [if_pos c]
theorem wEnd_3 {g : Nat → Int32} {n b : Nat} (c : kd g n b = 3) : wEnd g n b = b + 1 := by
  unfold wEnd
  rw [if_neg (by omega), if_pos c]
theorem wEnd_k {g : Nat → Int32} {n b k : Nat} (c : kd g n b = k) (h0 : k ≠ 0) (h3 : k ≠ 3) : wEnd g n b = rnk g n k (n - b) b := by
  unfold wEnd
  rw [c, if_neg h0, if_neg h3]
theorem wEnd_le {g : Nat → Int32} {n b : Nat} (hb : b ≤ n) : b ≤ wEnd g n b ∧ wEnd g n b ≤ n ∧ (kd g n b ≠ 0 → b < wEnd g n b) := by
  rcases kd_cases g n b with ⟨c, e⟩ | ⟨c, -, e⟩ | ⟨c, -, -, e⟩ | ⟨c, -, -, e⟩
  · rw [wEnd_0 e]
    exact ⟨Nat.le_refl b, hb, fun q => absurd e q⟩
  · obtain ⟨m, hm⟩ : ∃ m, n - b = m + 1 := ⟨n - b - 1, by omega⟩
    have r := rnk_le g n 1 m (b + 1) (by omega)
    rw [wEnd_k e (by decide) (by decide), hm, rnk_s, if_pos e]
    exact ⟨by omega, r.2, fun _ => by omega⟩
  · obtain ⟨m, hm⟩ : ∃ m, n - b = m + 1 := ⟨n - b - 1, by omega⟩
    have r := rnk_le g n 2 m (b + 1) (by omega)
    rw [wEnd_k e (by decide) (by decide), hm, rnk_s, if_pos e]
    exact ⟨by omega, r.2, fun _ => by omega⟩
  · rw [wEnd_3 e]
    exact ⟨by omega, by omega, fun _ => by omega⟩
/-- the reference's name for it -/
def tkc (k : Nat) (x1 : Int32) (len : Nat) : Int32 := if k = 0 then 0 else if k = 1 then (if x1 = 0 then 1 else 4) else if k = 2 then (if x1 = 0 ∧ len ≤ 4 then 2 else 4) else 3
theorem tkc_0 (x1 : Int32) (len : Nat) : tkc 0 x1 len = 0 := by
  unfold tkc
  rw [if_pos rfl]
theorem tkc_1 (x1 : Int32) (len : Nat) : tkc 1 x1 len = if x1 = 0 then 1 else 4 := by
  unfold tkc
  rw [if_neg (by decide), if_pos rfl]
theorem tkc_2 (x1 : Int32) (len : Nat) : tkc 2 x1 len = if x1 = 0 ∧ len ≤ 4 then 2 else 4 := by
  unfold tkc
  rw [if_neg (by decide), if_neg (by decide), if_pos rfl]
theorem tkc_3 (x1 : Int32) (len : Nat) : tkc 3 x1 len = 3 := by
  unfold tkc
  rw [if_neg (by decide), if_neg (by decide), if_neg (by decide)]
end LEX
/-! ===== objects that are written over; runs whose end is not known yet ===== -/
section GXX
variable {E : pX} {Φ : Option Value → List pC → Prop} {d i i2 : Nat} {M : pM} {L L2 : pL} {st st2 rest : List Value} {h0 h h2 : List pC}
theorem fset {gs : List Value} {i : Nat} {u v : Value} (hl : gs[i]? = some u) : (gs.set i v)[i]? = some v := List.getElem?_set_self (List.getElem?_eq_some_iff.mp hl).1
theorem fsn {gs : List Value} {i j : Nat} {v : Value} (hij : ¬ i = j) : (gs.set i v)[j]? = gs[j]? := List.getElem?_set_ne hij
def GX (E : pX) (Φ : Option Value → List pC → Prop) (d : Nat) (M : pM) (i : Nat) (L : pL) (st : List Value) (h : List pC) : Prop := ∃ (r : Option Value) (h' : List pC), RA prog E pV1 d M i L st h (r, h', 0, 0) ∧ Φ r h'
theorem GX.lift (f : ∀ res, RA prog E pV1 d M i2 L2 st2 h2 res → RA prog E pV1 d M i L st h res) (k : GX E Φ d M i2 L2 st2 h2) : GX E Φ d M i L st h := by
  obtain ⟨r, h', q, w⟩ := k
  exact ⟨r, h', f _ q, w⟩
theorem GX.ret {t : pE} {r : Option Value} (he : (m_code M)[i]? = some t) (hr : pret M t st = some r) (w : Φ r h) : GX E Φ (d + 1) M i L st h := ⟨r, h, RA.ret he hr, w⟩
/-- the reference's object alone is another -/
def NM (h0 h : List pC) (gs : List Value) : Prop := pobj h 110 = some (8, gs) ∧ ∀ b : Nat, b ≠ 110 → h[b]? = h0[b]?
theorem NM.pi {gs : List Value} {b : Nat} {x : Nat × (Nat → Int32)} (H : NM h0 h gs) (hb : b ≠ 110) (hp : pint h0 b = some x) : pint h b = some x := by
  unfold pint at hp ⊢
  rw [H.2 b hb]
  exact hp
theorem GX.putN {n pc y : Nat} {v w : Value} {ts : List Nat} {gs : List Value} (he : (m_code M)[i]? = some (pc, .putfield n, 8, y, v, ts)) (H : NM h0 h gs) (hf : pfit (ptyp 8 y) w = true) (k : ∀ h', NM h0 h' (gs.set y w) → GX E Φ (d + 1) M (i + 1) L rest h') : GX E Φ (d + 1) M i L (w :: .ref 110 :: rest) h := GX.lift (fun _ q => RA.putf he H.1 rfl hf q) (k _ ⟨pobj_set (pobj_lt H.1), fun b hb => by rw [List.getElem?_set_ne (Ne.symm hb)]; exact H.2 b hb⟩)
theorem nI_p0 {n : Nat} (h0 : 0 < n) (hn : n < 2 ^ 31) : (0 : Int32) < nI n := by
  have q := nI_lt h0 hn
  rw [nI_0] at q
  exact q
end GXX

/-! ===== nextToken of the reference, exactly ===== -/
section NTX
variable {E : pX} {Φ : Option Value → List pC → Prop} {d : Nat} {h0 h : List pC} {f g : Nat → Int32}
def NF (gs : List Value) (n b q : Nat) (t l : Int32) : Prop := gs[14]? = some (.ref 124) ∧ gs[15]? = some (.int (nI n)) ∧ gs[16]? = some (.int (nI b)) ∧ gs[17]? = some (.int (nI q)) ∧ gs[18]? = some (.int t) ∧ (∃ v : Int32, gs[19]? = some (.int v)) ∧ gs[20]? = some (.int l)

theorem NF.p16 {gs : List Value} {n b q : Nat} {t l : Int32} (b2 : Nat) (F : NF gs n b q t l) : NF (gs.set 16 (.int (nI b2))) n b2 q t l := by
  obtain ⟨f14, f15, f16, f17, f18, ⟨v19, f19⟩, f20⟩ := F
  exact ⟨((fsn (by decide)).trans f14), ((fsn (by decide)).trans f15), (fset f16), ((fsn (by decide)).trans f17), ((fsn (by decide)).trans f18), ⟨v19, ((fsn (by decide)).trans f19)⟩, ((fsn (by decide)).trans f20)⟩
theorem NF.p17 {gs : List Value} {n b q : Nat} {t l : Int32} (q2 : Nat) (F : NF gs n b q t l) : NF (gs.set 17 (.int (nI q2))) n b q2 t l := by
  obtain ⟨f14, f15, f16, f17, f18, ⟨v19, f19⟩, f20⟩ := F
  exact ⟨((fsn (by decide)).trans f14), ((fsn (by decide)).trans f15), ((fsn (by decide)).trans f16), (fset f17), ((fsn (by decide)).trans f18), ⟨v19, ((fsn (by decide)).trans f19)⟩, ((fsn (by decide)).trans f20)⟩
theorem NF.p18 {gs : List Value} {n b q : Nat} {t l : Int32} (t2 : Int32) (F : NF gs n b q t l) : NF (gs.set 18 (.int t2)) n b q t2 l := by
  obtain ⟨f14, f15, f16, f17, f18, ⟨v19, f19⟩, f20⟩ := F
  exact ⟨((fsn (by decide)).trans f14), ((fsn (by decide)).trans f15), ((fsn (by decide)).trans f16), ((fsn (by decide)).trans f17), (fset f18), ⟨v19, ((fsn (by decide)).trans f19)⟩, ((fsn (by decide)).trans f20)⟩
theorem NF.p19 {gs : List Value} {n b q : Nat} {t l : Int32} (v2 : Int32) (F : NF gs n b q t l) : NF (gs.set 19 (.int v2)) n b q t l := by
  obtain ⟨f14, f15, f16, f17, f18, ⟨v19, f19⟩, f20⟩ := F
  exact ⟨((fsn (by decide)).trans f14), ((fsn (by decide)).trans f15), ((fsn (by decide)).trans f16), ((fsn (by decide)).trans f17), ((fsn (by decide)).trans f18), ⟨v2, (fset f19)⟩, ((fsn (by decide)).trans f20)⟩
theorem NF.p20 {gs : List Value} {n b q : Nat} {t l : Int32} (l2 : Int32) (F : NF gs n b q t l) : NF (gs.set 20 (.int l2)) n b q t l2 := by
  obtain ⟨f14, f15, f16, f17, f18, ⟨v19, f19⟩, f20⟩ := F
  exact ⟨((fsn (by decide)).trans f14), ((fsn (by decide)).trans f15), ((fsn (by decide)).trans f16), ((fsn (by decide)).trans f17), ((fsn (by decide)).trans f18), ⟨v19, ((fsn (by decide)).trans f19)⟩, (fset f20)⟩
theorem isLe_x {n i : Nat} {gs : List Value} (H : NM h0 h gs) (f14 : gs[14]? = some (.ref 124)) (f15 : gs[15]? = some (.int (nI n))) (pt : pint h0 124 = some (96, f)) (fg : ∀ j : Nat, j < 96 → f j = g j) (hn : n ≤ 96) (hi : i ≤ 96) : Run prog E pV1 (d + 2) mX8_isLetter [.ref 110, .int (nI i)] h (some (.int (if i < n ∧ bL (g i) then 1 else 0)), h, 0, 0) := by
  refine ⟨Nat.le_of_ble_eq_true rfl, ⟨_, _, rfl⟩, ?_⟩
  show RA prog E pV1 (d + 2) mX8_isLetter 0 [some (.ref 110), some (.int (nI i))] [] h (some (.int (if i < n ∧ bL (g i) then 1 else 0)), h, 0, 0)
  by_cases c : i < n
  · by_cases c2 : bL (g i)
    · rw [if_pos ⟨c, c2⟩]
      refine RA.steps (i' := 2) (L' := [some (.ref 110), some (.int (nI i))]) (st' := [.ref 110, .int (nI i)]) (h' := h) 2 rfl ?_
      refine RA.getf rfl H.1 rfl f15 ?_
      refine RA.if2F rfl (decide_eq_false (Int32.not_le.mpr (nI_lt (show i < n by omega) (by omega)))) ?_
      refine RA.steps (i' := 5) (L' := [some (.ref 110), some (.int (nI i))]) (st' := [.ref 110]) (h' := h) 1 rfl ?_
      refine RA.getf rfl H.1 rfl f14 ?_
      refine RA.steps (i' := 7) (L' := [some (.ref 110), some (.int (nI i))]) (st' := [.int (nI i), .ref 124]) (h' := h) 1 rfl ?_
      refine RA.iald (w := (g i)) rfl (H.pi (by decide) pt) ⟨(nI_cl (by omega)).1, by rw [(nI_cl (by omega)).2]; show i < 96; omega⟩ (by rw [(nI_cl (by omega)).2]; exact fg _ (by omega)) ?_
      refine RA.steps (i' := 11) (L' := [some (.ref 110), some (.int (nI i))]) (st' := [.long (Int32.toInt64 122), .long (Int32.toInt64 97), .long (g i).toInt64]) (h' := h) 3 rfl ?_
      refine RA.call0 (N := mX8_isIn) (as := [.long (g i).toInt64, .long (Int32.toInt64 97), .long (Int32.toInt64 122)]) (rest := []) rfl rfl rfl (isIn_t c2) ?_
      refine RA.if1F rfl rfl ?_
      refine RA.steps (i' := 16) (L' := [some (.ref 110), some (.int (nI i))]) (st' := [.int 1]) (h' := h) 2 rfl ?_
      exact RA.ret rfl rfl
    · rw [if_neg (fun q => c2 q.2)]
      refine RA.steps (i' := 2) (L' := [some (.ref 110), some (.int (nI i))]) (st' := [.ref 110, .int (nI i)]) (h' := h) 2 rfl ?_
      refine RA.getf rfl H.1 rfl f15 ?_
      refine RA.if2F rfl (decide_eq_false (Int32.not_le.mpr (nI_lt (show i < n by omega) (by omega)))) ?_
      refine RA.steps (i' := 5) (L' := [some (.ref 110), some (.int (nI i))]) (st' := [.ref 110]) (h' := h) 1 rfl ?_
      refine RA.getf rfl H.1 rfl f14 ?_
      refine RA.steps (i' := 7) (L' := [some (.ref 110), some (.int (nI i))]) (st' := [.int (nI i), .ref 124]) (h' := h) 1 rfl ?_
      refine RA.iald (w := (g i)) rfl (H.pi (by decide) pt) ⟨(nI_cl (by omega)).1, by rw [(nI_cl (by omega)).2]; show i < 96; omega⟩ (by rw [(nI_cl (by omega)).2]; exact fg _ (by omega)) ?_
      refine RA.steps (i' := 11) (L' := [some (.ref 110), some (.int (nI i))]) (st' := [.long (Int32.toInt64 122), .long (Int32.toInt64 97), .long (g i).toInt64]) (h' := h) 3 rfl ?_
      refine RA.call0 (N := mX8_isIn) (as := [.long (g i).toInt64, .long (Int32.toInt64 97), .long (Int32.toInt64 122)]) (rest := []) rfl rfl rfl (isIn_f c2) ?_
      refine RA.if1T rfl rfl ?_
      refine RA.steps (i' := 16) (L' := [some (.ref 110), some (.int (nI i))]) (st' := [.int 0]) (h' := h) 1 rfl ?_
      exact RA.ret rfl rfl
  · rw [if_neg (fun q => c q.1)]
    refine RA.steps (i' := 2) (L' := [some (.ref 110), some (.int (nI i))]) (st' := [.ref 110, .int (nI i)]) (h' := h) 2 rfl ?_
    refine RA.getf rfl H.1 rfl f15 ?_
    refine RA.if2T rfl (decide_eq_true (nI_le (show n ≤ i by omega) (by omega))) ?_
    refine RA.steps (i' := 16) (L' := [some (.ref 110), some (.int (nI i))]) (st' := [.int 0]) (h' := h) 1 rfl ?_
    exact RA.ret rfl rfl
theorem isDi_x {n i : Nat} {gs : List Value} (H : NM h0 h gs) (f14 : gs[14]? = some (.ref 124)) (f15 : gs[15]? = some (.int (nI n))) (pt : pint h0 124 = some (96, f)) (fg : ∀ j : Nat, j < 96 → f j = g j) (hn : n ≤ 96) (hi : i ≤ 96) : Run prog E pV1 (d + 2) mX8_isDigit [.ref 110, .int (nI i)] h (some (.int (if i < n ∧ bD (g i) then 1 else 0)), h, 0, 0) := by
  refine ⟨Nat.le_of_ble_eq_true rfl, ⟨_, _, rfl⟩, ?_⟩
  show RA prog E pV1 (d + 2) mX8_isDigit 0 [some (.ref 110), some (.int (nI i))] [] h (some (.int (if i < n ∧ bD (g i) then 1 else 0)), h, 0, 0)
  by_cases c : i < n
  · by_cases c2 : bD (g i)
    · rw [if_pos ⟨c, c2⟩]
      refine RA.steps (i' := 2) (L' := [some (.ref 110), some (.int (nI i))]) (st' := [.ref 110, .int (nI i)]) (h' := h) 2 rfl ?_
      refine RA.getf rfl H.1 rfl f15 ?_
      refine RA.if2F rfl (decide_eq_false (Int32.not_le.mpr (nI_lt (show i < n by omega) (by omega)))) ?_
      refine RA.steps (i' := 5) (L' := [some (.ref 110), some (.int (nI i))]) (st' := [.ref 110]) (h' := h) 1 rfl ?_
      refine RA.getf rfl H.1 rfl f14 ?_
      refine RA.steps (i' := 7) (L' := [some (.ref 110), some (.int (nI i))]) (st' := [.int (nI i), .ref 124]) (h' := h) 1 rfl ?_
      refine RA.iald (w := (g i)) rfl (H.pi (by decide) pt) ⟨(nI_cl (by omega)).1, by rw [(nI_cl (by omega)).2]; show i < 96; omega⟩ (by rw [(nI_cl (by omega)).2]; exact fg _ (by omega)) ?_
      refine RA.steps (i' := 11) (L' := [some (.ref 110), some (.int (nI i))]) (st' := [.long (Int32.toInt64 57), .long (Int32.toInt64 48), .long (g i).toInt64]) (h' := h) 3 rfl ?_
      refine RA.call0 (N := mX8_isIn) (as := [.long (g i).toInt64, .long (Int32.toInt64 48), .long (Int32.toInt64 57)]) (rest := []) rfl rfl rfl (isIn_t c2) ?_
      refine RA.if1F rfl rfl ?_
      refine RA.steps (i' := 16) (L' := [some (.ref 110), some (.int (nI i))]) (st' := [.int 1]) (h' := h) 2 rfl ?_
      exact RA.ret rfl rfl
    · rw [if_neg (fun q => c2 q.2)]
      refine RA.steps (i' := 2) (L' := [some (.ref 110), some (.int (nI i))]) (st' := [.ref 110, .int (nI i)]) (h' := h) 2 rfl ?_
      refine RA.getf rfl H.1 rfl f15 ?_
      refine RA.if2F rfl (decide_eq_false (Int32.not_le.mpr (nI_lt (show i < n by omega) (by omega)))) ?_
      refine RA.steps (i' := 5) (L' := [some (.ref 110), some (.int (nI i))]) (st' := [.ref 110]) (h' := h) 1 rfl ?_
      refine RA.getf rfl H.1 rfl f14 ?_
      refine RA.steps (i' := 7) (L' := [some (.ref 110), some (.int (nI i))]) (st' := [.int (nI i), .ref 124]) (h' := h) 1 rfl ?_
      refine RA.iald (w := (g i)) rfl (H.pi (by decide) pt) ⟨(nI_cl (by omega)).1, by rw [(nI_cl (by omega)).2]; show i < 96; omega⟩ (by rw [(nI_cl (by omega)).2]; exact fg _ (by omega)) ?_
      refine RA.steps (i' := 11) (L' := [some (.ref 110), some (.int (nI i))]) (st' := [.long (Int32.toInt64 57), .long (Int32.toInt64 48), .long (g i).toInt64]) (h' := h) 3 rfl ?_
      refine RA.call0 (N := mX8_isIn) (as := [.long (g i).toInt64, .long (Int32.toInt64 48), .long (Int32.toInt64 57)]) (rest := []) rfl rfl rfl (isIn_f c2) ?_
      refine RA.if1T rfl rfl ?_
      refine RA.steps (i' := 16) (L' := [some (.ref 110), some (.int (nI i))]) (st' := [.int 0]) (h' := h) 1 rfl ?_
      exact RA.ret rfl rfl
  · rw [if_neg (fun q => c q.1)]
    refine RA.steps (i' := 2) (L' := [some (.ref 110), some (.int (nI i))]) (st' := [.ref 110, .int (nI i)]) (h' := h) 2 rfl ?_
    refine RA.getf rfl H.1 rfl f15 ?_
    refine RA.if2T rfl (decide_eq_true (nI_le (show n ≤ i by omega) (by omega))) ?_
    refine RA.steps (i' := 16) (L' := [some (.ref 110), some (.int (nI i))]) (st' := [.int 0]) (h' := h) 1 rfl ?_
    exact RA.ret rfl rfl
theorem nt_s1 {n b0 p : Nat} {t l : Int32} {gs : List Value} (H : NM h0 h gs) (F : NF gs n b0 p t l) (hp : p ≤ 96) (k : GX E Φ (d + 8) mX8_nextToken 18 [some (.ref 110), some (.int (if 0 < p ∧ (t = 1 ∨ t = 2) then (1 : Int32) else 0)), some (.int (nI p))] [] h) : GX E Φ (d + 8) mX8_nextToken 0 [some (.ref 110), none, none] [] h := by
  have ⟨f14, f15, f16, f17, f18, ⟨v19, f19⟩, f20⟩ := F
  by_cases c0 : p = 0
  · rw [show (if 0 < p ∧ (t = 1 ∨ t = 2) then (1 : Int32) else 0) = 0 from if_neg (fun z => absurd z.1 (by omega))] at k
    refine GX.lift (fun _ q_ => RA.steps (i' := 1) (L' := [some (.ref 110), none, none]) (st' := [.ref 110]) (h' := h) 1 rfl q_) ?_
    refine GX.lift (fun _ q_ => RA.getf rfl H.1 rfl f17 q_) ?_
    refine GX.lift (fun _ q_ => RA.if1T rfl (decide_eq_true (show nI p ≤ 0 by rw [c0]; decide +kernel)) q_) ?_
    refine GX.lift (fun _ q_ => RA.steps (i' := 16) (L' := [some (.ref 110), some (.int 0), none]) (st' := [.ref 110]) (h' := h) 3 rfl q_) ?_
    refine GX.lift (fun _ q_ => RA.getf rfl H.1 rfl f17 q_) ?_
    refine GX.lift (fun _ q_ => RA.steps (i' := 18) (L' := [some (.ref 110), some (.int 0), some (.int (nI p))]) (st' := []) (h' := h) 1 rfl q_) ?_
    exact k
  by_cases c1 : t = 1
  · rw [show (if 0 < p ∧ (t = 1 ∨ t = 2) then (1 : Int32) else 0) = 1 from if_pos ⟨by omega, Or.inl c1⟩] at k
    refine GX.lift (fun _ q_ => RA.steps (i' := 1) (L' := [some (.ref 110), none, none]) (st' := [.ref 110]) (h' := h) 1 rfl q_) ?_
    refine GX.lift (fun _ q_ => RA.getf rfl H.1 rfl f17 q_) ?_
    refine GX.lift (fun _ q_ => RA.if1F rfl (decide_eq_false (Int32.not_le.mpr (nI_p0 (by omega) (by omega)))) q_) ?_
    refine GX.lift (fun _ q_ => RA.steps (i' := 4) (L' := [some (.ref 110), none, none]) (st' := [.ref 110]) (h' := h) 1 rfl q_) ?_
    refine GX.lift (fun _ q_ => RA.getf rfl H.1 rfl f18 q_) ?_
    refine GX.lift (fun _ q_ => RA.steps (i' := 6) (L' := [some (.ref 110), none, none]) (st' := [.int 1, .int t]) (h' := h) 1 rfl q_) ?_
    refine GX.lift (fun _ q_ => RA.if2T rfl (decide_eq_true c1) q_) ?_
    refine GX.lift (fun _ q_ => RA.steps (i' := 16) (L' := [some (.ref 110), some (.int 1), none]) (st' := [.ref 110]) (h' := h) 4 rfl q_) ?_
    refine GX.lift (fun _ q_ => RA.getf rfl H.1 rfl f17 q_) ?_
    refine GX.lift (fun _ q_ => RA.steps (i' := 18) (L' := [some (.ref 110), some (.int 1), some (.int (nI p))]) (st' := []) (h' := h) 1 rfl q_) ?_
    exact k
  by_cases c2 : t = 2
  · rw [show (if 0 < p ∧ (t = 1 ∨ t = 2) then (1 : Int32) else 0) = 1 from if_pos ⟨by omega, Or.inr c2⟩] at k
    refine GX.lift (fun _ q_ => RA.steps (i' := 1) (L' := [some (.ref 110), none, none]) (st' := [.ref 110]) (h' := h) 1 rfl q_) ?_
    refine GX.lift (fun _ q_ => RA.getf rfl H.1 rfl f17 q_) ?_
    refine GX.lift (fun _ q_ => RA.if1F rfl (decide_eq_false (Int32.not_le.mpr (nI_p0 (by omega) (by omega)))) q_) ?_
    refine GX.lift (fun _ q_ => RA.steps (i' := 4) (L' := [some (.ref 110), none, none]) (st' := [.ref 110]) (h' := h) 1 rfl q_) ?_
    refine GX.lift (fun _ q_ => RA.getf rfl H.1 rfl f18 q_) ?_
    refine GX.lift (fun _ q_ => RA.steps (i' := 6) (L' := [some (.ref 110), none, none]) (st' := [.int 1, .int t]) (h' := h) 1 rfl q_) ?_
    refine GX.lift (fun _ q_ => RA.if2F rfl (decide_eq_false c1) q_) ?_
    refine GX.lift (fun _ q_ => RA.steps (i' := 8) (L' := [some (.ref 110), none, none]) (st' := [.ref 110]) (h' := h) 1 rfl q_) ?_
    refine GX.lift (fun _ q_ => RA.getf rfl H.1 rfl f18 q_) ?_
    refine GX.lift (fun _ q_ => RA.steps (i' := 10) (L' := [some (.ref 110), none, none]) (st' := [.int 2, .int t]) (h' := h) 1 rfl q_) ?_
    refine GX.lift (fun _ q_ => RA.if2F rfl (decide_eq_false (fun z => z c2)) q_) ?_
    refine GX.lift (fun _ q_ => RA.steps (i' := 16) (L' := [some (.ref 110), some (.int 1), none]) (st' := [.ref 110]) (h' := h) 4 rfl q_) ?_
    refine GX.lift (fun _ q_ => RA.getf rfl H.1 rfl f17 q_) ?_
    refine GX.lift (fun _ q_ => RA.steps (i' := 18) (L' := [some (.ref 110), some (.int 1), some (.int (nI p))]) (st' := []) (h' := h) 1 rfl q_) ?_
    exact k
  · rw [show (if 0 < p ∧ (t = 1 ∨ t = 2) then (1 : Int32) else 0) = 0 from if_neg (fun z => z.2.elim c1 c2)] at k
    refine GX.lift (fun _ q_ => RA.steps (i' := 1) (L' := [some (.ref 110), none, none]) (st' := [.ref 110]) (h' := h) 1 rfl q_) ?_
    refine GX.lift (fun _ q_ => RA.getf rfl H.1 rfl f17 q_) ?_
    refine GX.lift (fun _ q_ => RA.if1F rfl (decide_eq_false (Int32.not_le.mpr (nI_p0 (by omega) (by omega)))) q_) ?_
    refine GX.lift (fun _ q_ => RA.steps (i' := 4) (L' := [some (.ref 110), none, none]) (st' := [.ref 110]) (h' := h) 1 rfl q_) ?_
    refine GX.lift (fun _ q_ => RA.getf rfl H.1 rfl f18 q_) ?_
    refine GX.lift (fun _ q_ => RA.steps (i' := 6) (L' := [some (.ref 110), none, none]) (st' := [.int 1, .int t]) (h' := h) 1 rfl q_) ?_
    refine GX.lift (fun _ q_ => RA.if2F rfl (decide_eq_false c1) q_) ?_
    refine GX.lift (fun _ q_ => RA.steps (i' := 8) (L' := [some (.ref 110), none, none]) (st' := [.ref 110]) (h' := h) 1 rfl q_) ?_
    refine GX.lift (fun _ q_ => RA.getf rfl H.1 rfl f18 q_) ?_
    refine GX.lift (fun _ q_ => RA.steps (i' := 10) (L' := [some (.ref 110), none, none]) (st' := [.int 2, .int t]) (h' := h) 1 rfl q_) ?_
    refine GX.lift (fun _ q_ => RA.if2T rfl (decide_eq_true c2) q_) ?_
    refine GX.lift (fun _ q_ => RA.steps (i' := 16) (L' := [some (.ref 110), some (.int 0), none]) (st' := [.ref 110]) (h' := h) 3 rfl q_) ?_
    refine GX.lift (fun _ q_ => RA.getf rfl H.1 rfl f17 q_) ?_
    refine GX.lift (fun _ q_ => RA.steps (i' := 18) (L' := [some (.ref 110), some (.int 0), some (.int (nI p))]) (st' := []) (h' := h) 1 rfl q_) ?_
    exact k
theorem nt_s2 {n b0 : Nat} {t l : Int32} {x1 x2 : Option Value} (pt : pint h0 124 = some (96, f)) (fg : ∀ j : Nat, j < 96 → f j = g j) (hn : n ≤ 96) : ∀ (m q : Nat) (h : List pC) (gs : List Value), NM h0 h gs → NF gs n b0 q t l → q + m = n → (∀ (h' : List pC) (gs' : List Value), NM h0 h' gs' → NF gs' n b0 (skp g n m q) t l → GX E Φ (d + 8) mX8_nextToken 37 [some (.ref 110), x1, x2] [] h') → GX E Φ (d + 8) mX8_nextToken 18 [some (.ref 110), x1, x2] [] h := by
  intro m
  induction m with
  | zero =>
    intro q h gs H F hq K
    have ⟨f14, f15, f16, f17, f18, ⟨v19, f19⟩, f20⟩ := F
    refine GX.lift (fun _ q_ => RA.steps (i' := 19) (L' := [some (.ref 110), x1, x2]) (st' := [.ref 110]) (h' := h) 1 rfl q_) ?_
    refine GX.lift (fun _ q_ => RA.getf rfl H.1 rfl f17 q_) ?_
    refine GX.lift (fun _ q_ => RA.steps (i' := 21) (L' := [some (.ref 110), x1, x2]) (st' := [.ref 110, .int (nI q)]) (h' := h) 1 rfl q_) ?_
    refine GX.lift (fun _ q_ => RA.getf rfl H.1 rfl f15 q_) ?_
    refine GX.lift (fun _ q_ => RA.if2T rfl (decide_eq_true (nI_le (show n ≤ q by omega) (by omega))) q_) ?_
    exact K _ _ H F
  | succ m ih =>
    intro q h gs H F hq K
    have ⟨f14, f15, f16, f17, f18, ⟨v19, f19⟩, f20⟩ := F
    refine GX.lift (fun _ q_ => RA.steps (i' := 19) (L' := [some (.ref 110), x1, x2]) (st' := [.ref 110]) (h' := h) 1 rfl q_) ?_
    refine GX.lift (fun _ q_ => RA.getf rfl H.1 rfl f17 q_) ?_
    refine GX.lift (fun _ q_ => RA.steps (i' := 21) (L' := [some (.ref 110), x1, x2]) (st' := [.ref 110, .int (nI q)]) (h' := h) 1 rfl q_) ?_
    refine GX.lift (fun _ q_ => RA.getf rfl H.1 rfl f15 q_) ?_
    refine GX.lift (fun _ q_ => RA.if2F rfl (decide_eq_false (Int32.not_le.mpr (nI_lt (show q < n by omega) (by omega)))) q_) ?_
    refine GX.lift (fun _ q_ => RA.steps (i' := 24) (L' := [some (.ref 110), x1, x2]) (st' := [.ref 110]) (h' := h) 1 rfl q_) ?_
    refine GX.lift (fun _ q_ => RA.getf rfl H.1 rfl f14 q_) ?_
    refine GX.lift (fun _ q_ => RA.steps (i' := 26) (L' := [some (.ref 110), x1, x2]) (st' := [.ref 110, .ref 124]) (h' := h) 1 rfl q_) ?_
    refine GX.lift (fun _ q_ => RA.getf rfl H.1 rfl f17 q_) ?_
    refine GX.lift (fun _ q_ => RA.iald (w := (g q)) rfl (H.pi (by decide) pt) ⟨(nI_cl (by omega)).1, by rw [(nI_cl (by omega)).2]; show q < 96; omega⟩ (by rw [(nI_cl (by omega)).2]; exact fg _ (by omega)) q_) ?_
    refine GX.lift (fun _ q_ => RA.steps (i' := 29) (L' := [some (.ref 110), x1, x2]) (st' := [.int 32, .int (g q)]) (h' := h) 1 rfl q_) ?_
    by_cases c : g q = 32
    · rw [skp_s, if_pos ⟨by omega, c⟩] at K
      refine GX.lift (fun _ q_ => RA.if2F rfl (decide_eq_false (fun z => z c)) q_) ?_
      refine GX.lift (fun _ q_ => RA.steps (i' := 32) (L' := [some (.ref 110), x1, x2]) (st' := [.ref 110, .ref 110]) (h' := h) 2 rfl q_) ?_
      refine GX.lift (fun _ q_ => RA.getf rfl H.1 rfl f17 q_) ?_
      refine GX.lift (fun _ q_ => RA.steps (i' := 35) (L' := [some (.ref 110), x1, x2]) (st' := [.int ((nI q) + 1), .ref 110]) (h' := h) 2 rfl q_) ?_
      rw [(nI_1 q)]
      refine GX.putN rfl H rfl (fun h_1 H_1 => ?_)
      refine GX.lift (fun _ q_ => RA.steps (i' := 18) (L' := [some (.ref 110), x1, x2]) (st' := []) (h' := h_1) 1 rfl q_) ?_
      exact ih (q + 1) _ _ H_1 (F.p17 (q + 1)) (by omega) K
    · rw [skp_s, if_neg (fun z => c z.2)] at K
      refine GX.lift (fun _ q_ => RA.if2T rfl (decide_eq_true c) q_) ?_
      exact K _ _ H F
theorem nt_s3 {n b0 p q : Nat} {t l x0 : Int32} {gs : List Value} (H : NM h0 h gs) (F : NF gs n b0 q t l) (hp : p ≤ 96) (hq : q ≤ 96) (K : ∀ (h' : List pC) (gs' : List Value), NM h0 h' gs' → NF gs' n q q t l → GX E Φ (d + 8) mX8_nextToken 51 [some (.ref 110), some (.int (if x0 = 0 then (0 : Int32) else if p = q then 1 else 0)), some (.int (nI p))] [] h') : GX E Φ (d + 8) mX8_nextToken 37 [some (.ref 110), some (.int x0), some (.int (nI p))] [] h := by
  have ⟨f14, f15, f16, f17, f18, ⟨v19, f19⟩, f20⟩ := F
  by_cases cw : x0 = 0
  · rw [if_pos cw] at K
    refine GX.lift (fun _ q_ => RA.steps (i' := 38) (L' := [some (.ref 110), some (.int x0), some (.int (nI p))]) (st' := [.int x0]) (h' := h) 1 rfl q_) ?_
    refine GX.lift (fun _ q_ => RA.if1T rfl (decide_eq_true cw) q_) ?_
    refine GX.lift (fun _ q_ => RA.steps (i' := 49) (L' := [some (.ref 110), some (.int 0), some (.int (nI p))]) (st' := [.ref 110, .ref 110]) (h' := h) 4 rfl q_) ?_
    refine GX.lift (fun _ q_ => RA.getf rfl H.1 rfl f17 q_) ?_
    refine GX.putN rfl H rfl (fun h_1 H_1 => ?_)
    exact K _ _ H_1 (F.p16 q)
  · rw [if_neg cw] at K
    by_cases cp : p = q
    · rw [if_pos cp] at K
      refine GX.lift (fun _ q_ => RA.steps (i' := 38) (L' := [some (.ref 110), some (.int x0), some (.int (nI p))]) (st' := [.int x0]) (h' := h) 1 rfl q_) ?_
      refine GX.lift (fun _ q_ => RA.if1F rfl (decide_eq_false cw) q_) ?_
      refine GX.lift (fun _ q_ => RA.steps (i' := 41) (L' := [some (.ref 110), some (.int x0), some (.int (nI p))]) (st' := [.ref 110, .int (nI p)]) (h' := h) 2 rfl q_) ?_
      refine GX.lift (fun _ q_ => RA.getf rfl H.1 rfl f17 q_) ?_
      refine GX.lift (fun _ q_ => RA.if2F rfl (decide_eq_false (fun z => z (by rw [cp]))) q_) ?_
      refine GX.lift (fun _ q_ => RA.steps (i' := 49) (L' := [some (.ref 110), some (.int 1), some (.int (nI p))]) (st' := [.ref 110, .ref 110]) (h' := h) 5 rfl q_) ?_
      refine GX.lift (fun _ q_ => RA.getf rfl H.1 rfl f17 q_) ?_
      refine GX.putN rfl H rfl (fun h_1 H_1 => ?_)
      exact K _ _ H_1 (F.p16 q)
    · rw [if_neg cp] at K
      refine GX.lift (fun _ q_ => RA.steps (i' := 38) (L' := [some (.ref 110), some (.int x0), some (.int (nI p))]) (st' := [.int x0]) (h' := h) 1 rfl q_) ?_
      refine GX.lift (fun _ q_ => RA.if1F rfl (decide_eq_false cw) q_) ?_
      refine GX.lift (fun _ q_ => RA.steps (i' := 41) (L' := [some (.ref 110), some (.int x0), some (.int (nI p))]) (st' := [.ref 110, .int (nI p)]) (h' := h) 2 rfl q_) ?_
      refine GX.lift (fun _ q_ => RA.getf rfl H.1 rfl f17 q_) ?_
      refine GX.lift (fun _ q_ => RA.if2T rfl (decide_eq_true (fun z => cp ((nI_eq (by omega) (by omega)).mp z))) q_) ?_
      refine GX.lift (fun _ q_ => RA.steps (i' := 49) (L' := [some (.ref 110), some (.int 0), some (.int (nI p))]) (st' := [.ref 110, .ref 110]) (h' := h) 4 rfl q_) ?_
      refine GX.lift (fun _ q_ => RA.getf rfl H.1 rfl f17 q_) ?_
      refine GX.putN rfl H rfl (fun h_1 H_1 => ?_)
      exact K _ _ H_1 (F.p16 q)
theorem nt_l {n b0 : Nat} {t l : Int32} {x1 x2 : Option Value} (pt : pint h0 124 = some (96, f)) (fg : ∀ j : Nat, j < 96 → f j = g j) (hn : n ≤ 96) : ∀ (m q : Nat) (h : List pC) (gs : List Value), NM h0 h gs → NF gs n b0 q t l → q + m = n → (∀ (h' : List pC) (gs' : List Value), NM h0 h' gs' → NF gs' n b0 (rnk g n 1 m q) t l → GX E Φ (d + 8) mX8_nextToken 77 [some (.ref 110), x1, x2] [] h') → GX E Φ (d + 8) mX8_nextToken 65 [some (.ref 110), x1, x2] [] h := by
  intro m
  induction m with
  | zero =>
    intro q h gs H F hq K
    have ⟨f14, f15, f16, f17, f18, ⟨v19, f19⟩, f20⟩ := F
    have r := isLe_x (E := E) (d := d + 5) H f14 f15 pt fg hn (show q ≤ 96 by omega)
    rw [if_neg (fun z => absurd z.1 (by omega))] at r
    refine GX.lift (fun _ q_ => RA.steps (i' := 67) (L' := [some (.ref 110), x1, x2]) (st' := [.ref 110, .ref 110]) (h' := h) 2 rfl q_) ?_
    refine GX.lift (fun _ q_ => RA.getf rfl H.1 rfl f17 q_) ?_
    refine GX.lift (fun _ q_ => RA.call0 (N := mX8_isLetter) (as := [.ref 110, .int (nI q)]) (rest := []) rfl rfl (pcallV rfl rfl H.1 rfl rfl (Nat.le_of_ble_eq_true rfl)) r q_) ?_
    refine GX.lift (fun _ q_ => RA.if1T rfl rfl q_) ?_
    exact K _ _ H F
  | succ m ih =>
    intro q h gs H F hq K
    have ⟨f14, f15, f16, f17, f18, ⟨v19, f19⟩, f20⟩ := F
    have r := isLe_x (E := E) (d := d + 5) H f14 f15 pt fg hn (show q ≤ 96 by omega)
    by_cases c : bL (g q)
    · rw [if_pos ⟨by omega, c⟩] at r
      rw [rnk_s, if_pos (kd_1 (by omega) c)] at K
      refine GX.lift (fun _ q_ => RA.steps (i' := 67) (L' := [some (.ref 110), x1, x2]) (st' := [.ref 110, .ref 110]) (h' := h) 2 rfl q_) ?_
      refine GX.lift (fun _ q_ => RA.getf rfl H.1 rfl f17 q_) ?_
      refine GX.lift (fun _ q_ => RA.call0 (N := mX8_isLetter) (as := [.ref 110, .int (nI q)]) (rest := []) rfl rfl (pcallV rfl rfl H.1 rfl rfl (Nat.le_of_ble_eq_true rfl)) r q_) ?_
      refine GX.lift (fun _ q_ => RA.if1F rfl rfl q_) ?_
      refine GX.lift (fun _ q_ => RA.steps (i' := 72) (L' := [some (.ref 110), x1, x2]) (st' := [.ref 110, .ref 110]) (h' := h) 2 rfl q_) ?_
      refine GX.lift (fun _ q_ => RA.getf rfl H.1 rfl f17 q_) ?_
      refine GX.lift (fun _ q_ => RA.steps (i' := 75) (L' := [some (.ref 110), x1, x2]) (st' := [.int ((nI q) + 1), .ref 110]) (h' := h) 2 rfl q_) ?_
      rw [(nI_1 q)]
      refine GX.putN rfl H rfl (fun h_1 H_1 => ?_)
      refine GX.lift (fun _ q_ => RA.steps (i' := 65) (L' := [some (.ref 110), x1, x2]) (st' := []) (h' := h_1) 1 rfl q_) ?_
      exact ih (q + 1) _ _ H_1 (F.p17 (q + 1)) (by omega) K
    · rw [if_neg (fun z => c z.2)] at r
      rw [rnk_s, if_neg (fun z => by rcases kd_cases g n q with ⟨_, e⟩ | ⟨_, cl, e⟩ | ⟨_, cl, cd, e⟩ | ⟨_, cl, cd, e⟩ <;> first | omega | exact absurd cl c)] at K
      refine GX.lift (fun _ q_ => RA.steps (i' := 67) (L' := [some (.ref 110), x1, x2]) (st' := [.ref 110, .ref 110]) (h' := h) 2 rfl q_) ?_
      refine GX.lift (fun _ q_ => RA.getf rfl H.1 rfl f17 q_) ?_
      refine GX.lift (fun _ q_ => RA.call0 (N := mX8_isLetter) (as := [.ref 110, .int (nI q)]) (rest := []) rfl rfl (pcallV rfl rfl H.1 rfl rfl (Nat.le_of_ble_eq_true rfl)) r q_) ?_
      refine GX.lift (fun _ q_ => RA.if1T rfl rfl q_) ?_
      exact K _ _ H F
theorem nt_d {n b0 : Nat} {t l : Int32} {x1 x2 : Option Value} (pt : pint h0 124 = some (96, f)) (fg : ∀ j : Nat, j < 96 → f j = g j) (hn : n ≤ 96) : ∀ (m q : Nat) (h : List pC) (gs : List Value), NM h0 h gs → NF gs n b0 q t l → q + m = n → b0 ≤ q ∧ b0 ≤ 96 → (∀ (h' : List pC) (gs' : List Value), NM h0 h' gs' → NF gs' n b0 (rnk g n 2 m q) t l → GX E Φ (d + 8) mX8_nextToken 145 [some (.ref 110), x1, x2] [] h') → GX E Φ (d + 8) mX8_nextToken 109 [some (.ref 110), x1, x2] [] h := by
  intro m
  induction m with
  | zero =>
    intro q h gs H F hq hb K
    have ⟨f14, f15, f16, f17, f18, ⟨v19, f19⟩, f20⟩ := F
    have r := isDi_x (E := E) (d := d + 5) H f14 f15 pt fg hn (show q ≤ 96 by omega)
    rw [if_neg (fun z => absurd z.1 (by omega))] at r
    refine GX.lift (fun _ q_ => RA.steps (i' := 111) (L' := [some (.ref 110), x1, x2]) (st' := [.ref 110, .ref 110]) (h' := h) 2 rfl q_) ?_
    refine GX.lift (fun _ q_ => RA.getf rfl H.1 rfl f17 q_) ?_
    refine GX.lift (fun _ q_ => RA.call0 (N := mX8_isDigit) (as := [.ref 110, .int (nI q)]) (rest := []) rfl rfl (pcallV rfl rfl H.1 rfl rfl (Nat.le_of_ble_eq_true rfl)) r q_) ?_
    refine GX.lift (fun _ q_ => RA.if1T rfl rfl q_) ?_
    exact K _ _ H F
  | succ m ih =>
    intro q h gs H F hq hb K
    have ⟨f14, f15, f16, f17, f18, ⟨v19, f19⟩, f20⟩ := F
    have r := isDi_x (E := E) (d := d + 5) H f14 f15 pt fg hn (show q ≤ 96 by omega)
    by_cases c : bD (g q)
    · rw [if_pos ⟨by omega, c⟩] at r
      have ck : kd g n q = 2 := kd_2 (by omega) (fun z => absurd (Int32.le_iff_toInt_le.mp z.1) (by have y := Int32.le_iff_toInt_le.mp c.2; rw [show (57 : Int32).toInt = 57 by decide] at y; rw [show (97 : Int32).toInt = 97 by decide]; omega)) c
      rw [rnk_s, if_pos ck] at K
      refine GX.lift (fun _ q_ => RA.steps (i' := 111) (L' := [some (.ref 110), x1, x2]) (st' := [.ref 110, .ref 110]) (h' := h) 2 rfl q_) ?_
      refine GX.lift (fun _ q_ => RA.getf rfl H.1 rfl f17 q_) ?_
      refine GX.lift (fun _ q_ => RA.call0 (N := mX8_isDigit) (as := [.ref 110, .int (nI q)]) (rest := []) rfl rfl (pcallV rfl rfl H.1 rfl rfl (Nat.le_of_ble_eq_true rfl)) r q_) ?_
      refine GX.lift (fun _ q_ => RA.if1F rfl rfl q_) ?_
      refine GX.lift (fun _ q_ => RA.steps (i' := 116) (L' := [some (.ref 110), x1, x2]) (st' := [.ref 110, .ref 110]) (h' := h) 2 rfl q_) ?_
      refine GX.lift (fun _ q_ => RA.getf rfl H.1 rfl f17 q_) ?_
      refine GX.lift (fun _ q_ => RA.steps (i' := 118) (L' := [some (.ref 110), x1, x2]) (st' := [.ref 110, .int (nI q), .ref 110]) (h' := h) 1 rfl q_) ?_
      refine GX.lift (fun _ q_ => RA.getf rfl H.1 rfl f16 q_) ?_
      refine GX.lift (fun _ q_ => RA.steps (i' := 120) (L' := [some (.ref 110), x1, x2]) (st' := [.int ((nI q) - (nI b0)), .ref 110]) (h' := h) 1 rfl q_) ?_
      rw [(nIsub hb.1 (by omega))]
      refine GX.lift (fun _ q_ => RA.steps (i' := 121) (L' := [some (.ref 110), x1, x2]) (st' := [.int 4, .int (nI (q - b0)), .ref 110]) (h' := h) 1 rfl q_) ?_
      by_cases c4 : 4 ≤ q - b0
      · refine GX.lift (fun _ q_ => RA.if2T rfl (decide_eq_true (show nI 4 ≤ nI (q - b0) from nI_le c4 (by omega))) q_) ?_
        refine GX.lift (fun _ q_ => RA.steps (i' := 136) (L' := [some (.ref 110), x1, x2]) (st' := [.ref 110, .ref 110]) (h' := h) 1 rfl q_) ?_
        refine GX.lift (fun _ q_ => RA.getf rfl H.1 rfl f19 q_) ?_
        refine GX.putN rfl H rfl (fun h_1 H_1 => ?_)
        refine GX.lift (fun _ q_ => RA.steps (i' := 140) (L' := [some (.ref 110), x1, x2]) (st' := [.ref 110, .ref 110]) (h' := h_1) 2 rfl q_) ?_
        refine GX.lift (fun _ q_ => RA.getf rfl H_1.1 rfl ((fsn (by decide)).trans f17) q_) ?_
        refine GX.lift (fun _ q_ => RA.steps (i' := 143) (L' := [some (.ref 110), x1, x2]) (st' := [.int ((nI q) + 1), .ref 110]) (h' := h_1) 2 rfl q_) ?_
        rw [(nI_1 q)]
        refine GX.putN rfl H_1 rfl (fun h_2 H_2 => ?_)
        refine GX.lift (fun _ q_ => RA.steps (i' := 109) (L' := [some (.ref 110), x1, x2]) (st' := []) (h' := h_2) 1 rfl q_) ?_
        exact ih (q + 1) _ _ H_2 ((F.p19 _).p17 (q + 1)) (by omega) ⟨by omega, by omega⟩ K
      · refine GX.lift (fun _ q_ => RA.if2F rfl (decide_eq_false (Int32.not_le.mpr (show nI (q - b0) < nI 4 from nI_lt (by omega) (by decide)))) q_) ?_
        refine GX.lift (fun _ q_ => RA.steps (i' := 124) (L' := [some (.ref 110), x1, x2]) (st' := [.ref 110, .int 10, .ref 110]) (h' := h) 2 rfl q_) ?_
        refine GX.lift (fun _ q_ => RA.getf rfl H.1 rfl f19 q_) ?_
        refine GX.lift (fun _ q_ => RA.steps (i' := 127) (L' := [some (.ref 110), x1, x2]) (st' := [.ref 110, .int (10 * v19), .ref 110]) (h' := h) 2 rfl q_) ?_
        refine GX.lift (fun _ q_ => RA.getf rfl H.1 rfl f14 q_) ?_
        refine GX.lift (fun _ q_ => RA.steps (i' := 129) (L' := [some (.ref 110), x1, x2]) (st' := [.ref 110, .ref 124, .int (10 * v19), .ref 110]) (h' := h) 1 rfl q_) ?_
        refine GX.lift (fun _ q_ => RA.getf rfl H.1 rfl f17 q_) ?_
        refine GX.lift (fun _ q_ => RA.iald (w := (g q)) rfl (H.pi (by decide) pt) ⟨(nI_cl (by omega)).1, by rw [(nI_cl (by omega)).2]; show q < 96; omega⟩ (by rw [(nI_cl (by omega)).2]; exact fg _ (by omega)) q_) ?_
        refine GX.lift (fun _ q_ => RA.steps (i' := 137) (L' := [some (.ref 110), x1, x2]) (st' := [.int (((10 * v19) + (g q)) - 48), .ref 110]) (h' := h) 4 rfl q_) ?_
        refine GX.putN rfl H rfl (fun h_1 H_1 => ?_)
        refine GX.lift (fun _ q_ => RA.steps (i' := 140) (L' := [some (.ref 110), x1, x2]) (st' := [.ref 110, .ref 110]) (h' := h_1) 2 rfl q_) ?_
        refine GX.lift (fun _ q_ => RA.getf rfl H_1.1 rfl ((fsn (by decide)).trans f17) q_) ?_
        refine GX.lift (fun _ q_ => RA.steps (i' := 143) (L' := [some (.ref 110), x1, x2]) (st' := [.int ((nI q) + 1), .ref 110]) (h' := h_1) 2 rfl q_) ?_
        rw [(nI_1 q)]
        refine GX.putN rfl H_1 rfl (fun h_2 H_2 => ?_)
        refine GX.lift (fun _ q_ => RA.steps (i' := 109) (L' := [some (.ref 110), x1, x2]) (st' := []) (h' := h_2) 1 rfl q_) ?_
        exact ih (q + 1) _ _ H_2 ((F.p19 _).p17 (q + 1)) (by omega) ⟨by omega, by omega⟩ K
    · rw [if_neg (fun z => c z.2)] at r
      rw [rnk_s, if_neg (fun z => by rcases kd_cases g n q with ⟨_, e⟩ | ⟨_, cl, e⟩ | ⟨_, cl, cd, e⟩ | ⟨_, cl, cd, e⟩ <;> first | omega | exact absurd cd c)] at K
      refine GX.lift (fun _ q_ => RA.steps (i' := 111) (L' := [some (.ref 110), x1, x2]) (st' := [.ref 110, .ref 110]) (h' := h) 2 rfl q_) ?_
      refine GX.lift (fun _ q_ => RA.getf rfl H.1 rfl f17 q_) ?_
      refine GX.lift (fun _ q_ => RA.call0 (N := mX8_isDigit) (as := [.ref 110, .int (nI q)]) (rest := []) rfl rfl (pcallV rfl rfl H.1 rfl rfl (Nat.le_of_ble_eq_true rfl)) r q_) ?_
      refine GX.lift (fun _ q_ => RA.if1T rfl rfl q_) ?_
      exact K _ _ H F
def NR (g : Nat → Int32) (n b : Nat) (x1 : Int32) (gs : List Value) : Prop := gs[16]? = some (.int (nI b)) ∧ gs[17]? = some (.int (nI (wEnd g n b))) ∧ gs[18]? = some (.int (tkc (kd g n b) x1 (wEnd g n b - b))) ∧ (kd g n b = 1 → gs[20]? = some (.int (if wEnd g n b - b = 1 then g b else 0))) ∧ (kd g n b = 3 → gs[20]? = some (.int (g b)))
theorem NF.nr {gs : List Value} {n b e : Nat} {t l x1 : Int32} (F : NF gs n b e t l) (he : wEnd g n b = e) (ht : tkc (kd g n b) x1 (e - b) = t) (h1 : kd g n b = 1 → l = if e - b = 1 then g b else 0) (h3 : kd g n b = 3 → l = g b) : NR g n b x1 gs := by
  obtain ⟨-, -, f16, f17, f18, -, f20⟩ := F
  subst he
  subst ht
  exact ⟨f16, f17, f18, fun q => by rw [← h1 q]; exact f20, fun q => by rw [← h3 q]; exact f20⟩
theorem nt_s4 {n b : Nat} {t l x1 : Int32} {x2 : Option Value} {gs : List Value} (pt : pint h0 124 = some (96, f)) (fg : ∀ j : Nat, j < 96 → f j = g j) (hn : n ≤ 96) (hb : b ≤ n) (H : NM h0 h gs) (F : NF gs n b b t l) (K : ∀ (h' : List pC) (gs' : List Value), NM h0 h' gs' → NR g n b x1 gs' → Φ none h') : GX E Φ (d + 8) mX8_nextToken 51 [some (.ref 110), some (.int x1), x2] [] h := by
  have ⟨f14, f15, f16, f17, f18, ⟨v19, f19⟩, f20⟩ := F
  rcases kd_cases g n b with ⟨c, ek⟩ | ⟨c, cl, ek⟩ | ⟨c, cl, cd, ek⟩ | ⟨c, cl, cd, ek⟩
  · refine GX.lift (fun _ q_ => RA.steps (i' := 52) (L' := [some (.ref 110), some (.int x1), x2]) (st' := [.ref 110]) (h' := h) 1 rfl q_) ?_
    refine GX.lift (fun _ q_ => RA.getf rfl H.1 rfl f16 q_) ?_
    refine GX.lift (fun _ q_ => RA.steps (i' := 54) (L' := [some (.ref 110), some (.int x1), x2]) (st' := [.ref 110, .int (nI b)]) (h' := h) 1 rfl q_) ?_
    refine GX.lift (fun _ q_ => RA.getf rfl H.1 rfl f15 q_) ?_
    refine GX.lift (fun _ q_ => RA.if2F rfl (decide_eq_false (fun z => z (by rw [show b = n by omega]))) q_) ?_
    refine GX.lift (fun _ q_ => RA.steps (i' := 58) (L' := [some (.ref 110), some (.int x1), x2]) (st' := [.int 0, .ref 110]) (h' := h) 2 rfl q_) ?_
    refine GX.putN rfl H rfl (fun h_1 H_1 => ?_)
    refine GX.lift (fun _ q_ => RA.steps (i' := 176) (L' := [some (.ref 110), some (.int x1), x2]) (st' := []) (h' := h_1) 1 rfl q_) ?_
    refine GX.ret rfl rfl ?_
    exact K _ _ H_1 ((F.p18 0).nr (wEnd_0 ek) (by rw [ek, tkc_0]) (fun z => by omega) (fun z => by omega))
  · have r := isLe_x (E := E) (d := d + 5) H f14 f15 pt fg hn (show b ≤ 96 by omega)
    rw [if_pos ⟨c, cl⟩] at r
    refine GX.lift (fun _ q_ => RA.steps (i' := 52) (L' := [some (.ref 110), some (.int x1), x2]) (st' := [.ref 110]) (h' := h) 1 rfl q_) ?_
    refine GX.lift (fun _ q_ => RA.getf rfl H.1 rfl f16 q_) ?_
    refine GX.lift (fun _ q_ => RA.steps (i' := 54) (L' := [some (.ref 110), some (.int x1), x2]) (st' := [.ref 110, .int (nI b)]) (h' := h) 1 rfl q_) ?_
    refine GX.lift (fun _ q_ => RA.getf rfl H.1 rfl f15 q_) ?_
    refine GX.lift (fun _ q_ => RA.if2T rfl (decide_eq_true (fun z => absurd ((nI_eq (by omega) (by omega)).mp z) (by omega))) q_) ?_
    refine GX.lift (fun _ q_ => RA.steps (i' := 62) (L' := [some (.ref 110), some (.int x1), x2]) (st' := [.ref 110, .ref 110]) (h' := h) 2 rfl q_) ?_
    refine GX.lift (fun _ q_ => RA.getf rfl H.1 rfl f16 q_) ?_
    refine GX.lift (fun _ q_ => RA.call0 (N := mX8_isLetter) (as := [.ref 110, .int (nI b)]) (rest := []) rfl rfl (pcallV rfl rfl H.1 rfl rfl (Nat.le_of_ble_eq_true rfl)) r q_) ?_
    refine GX.lift (fun _ q_ => RA.if1F rfl rfl q_) ?_
    refine nt_l pt fg hn (n - b) b _ _ H F (by omega) (fun h' gs' H' F' => ?_)
    have ⟨f14, f15, f16, f17, f18, ⟨v19, f19⟩, f20⟩ := F'
    have ee := wEnd_k ek (by decide) (by decide)
    have el := wEnd_le (g := g) (n := n) (b := b) (by omega)
    generalize rnk g n 1 (n - b) b = e at *
    rw [ee] at el
    by_cases cx : x1 = 0
    · refine GX.lift (fun _ q_ => RA.steps (i' := 79) (L' := [some (.ref 110), some (.int x1), x2]) (st' := [.int x1, .ref 110]) (h' := h') 2 rfl q_) ?_
      refine GX.lift (fun _ q_ => RA.if1T rfl (decide_eq_true cx) q_) ?_
      refine GX.lift (fun _ q_ => RA.steps (i' := 83) (L' := [some (.ref 110), some (.int x1), x2]) (st' := [.int 1, .ref 110]) (h' := h') 1 rfl q_) ?_
      refine GX.putN rfl H' rfl (fun h'_1 H'_1 => ?_)
      refine GX.lift (fun _ q_ => RA.steps (i' := 86) (L' := [some (.ref 110), some (.int x1), x2]) (st' := [.ref 110, .ref 110]) (h' := h'_1) 2 rfl q_) ?_
      refine GX.lift (fun _ q_ => RA.getf rfl H'_1.1 rfl ((fsn (by decide)).trans f17) q_) ?_
      refine GX.lift (fun _ q_ => RA.steps (i' := 88) (L' := [some (.ref 110), some (.int x1), x2]) (st' := [.ref 110, .int (nI e), .ref 110]) (h' := h'_1) 1 rfl q_) ?_
      refine GX.lift (fun _ q_ => RA.getf rfl H'_1.1 rfl ((fsn (by decide)).trans f16) q_) ?_
      refine GX.lift (fun _ q_ => RA.steps (i' := 90) (L' := [some (.ref 110), some (.int x1), x2]) (st' := [.int ((nI e) - (nI b)), .ref 110]) (h' := h'_1) 1 rfl q_) ?_
      rw [(nIsub el.1 (by omega))]
      refine GX.lift (fun _ q_ => RA.steps (i' := 91) (L' := [some (.ref 110), some (.int x1), x2]) (st' := [.int 1, .int (nI (e - b)), .ref 110]) (h' := h'_1) 1 rfl q_) ?_
      by_cases c1 : e - b = 1
      · refine GX.lift (fun _ q_ => RA.if2F rfl (decide_eq_false (fun z => z (by rw [c1]; exact nI1))) q_) ?_
        refine GX.lift (fun _ q_ => RA.steps (i' := 93) (L' := [some (.ref 110), some (.int x1), x2]) (st' := [.ref 110, .ref 110]) (h' := h'_1) 1 rfl q_) ?_
        refine GX.lift (fun _ q_ => RA.getf rfl H'_1.1 rfl ((fsn (by decide)).trans f14) q_) ?_
        refine GX.lift (fun _ q_ => RA.steps (i' := 95) (L' := [some (.ref 110), some (.int x1), x2]) (st' := [.ref 110, .ref 124, .ref 110]) (h' := h'_1) 1 rfl q_) ?_
        refine GX.lift (fun _ q_ => RA.getf rfl H'_1.1 rfl ((fsn (by decide)).trans f16) q_) ?_
        refine GX.lift (fun _ q_ => RA.iald (w := (g b)) rfl (H'_1.pi (by decide) pt) ⟨(nI_cl (by omega)).1, by rw [(nI_cl (by omega)).2]; show b < 96; omega⟩ (by rw [(nI_cl (by omega)).2]; exact fg _ (by omega)) q_) ?_
        refine GX.lift (fun _ q_ => RA.steps (i' := 99) (L' := [some (.ref 110), some (.int x1), x2]) (st' := [.int (g b), .ref 110]) (h' := h'_1) 1 rfl q_) ?_
        refine GX.putN rfl H'_1 rfl (fun h'_2 H'_2 => ?_)
        refine GX.lift (fun _ q_ => RA.steps (i' := 176) (L' := [some (.ref 110), some (.int x1), x2]) (st' := []) (h' := h'_2) 1 rfl q_) ?_
        refine GX.ret rfl rfl ?_
        exact K _ _ H'_2 (((F'.p18 1).p20 (g b)).nr ee (by rw [ek, tkc_1, if_pos cx]) (fun _ => by rw [if_pos c1]) (fun z => by omega))
      · refine GX.lift (fun _ q_ => RA.if2T rfl (decide_eq_true (fun z => c1 ((nI_eq (by omega) (by decide)).mp (z.trans nI1.symm)))) q_) ?_
        refine GX.lift (fun _ q_ => RA.steps (i' := 99) (L' := [some (.ref 110), some (.int x1), x2]) (st' := [.int 0, .ref 110]) (h' := h'_1) 1 rfl q_) ?_
        refine GX.putN rfl H'_1 rfl (fun h'_2 H'_2 => ?_)
        refine GX.lift (fun _ q_ => RA.steps (i' := 176) (L' := [some (.ref 110), some (.int x1), x2]) (st' := []) (h' := h'_2) 1 rfl q_) ?_
        refine GX.ret rfl rfl ?_
        exact K _ _ H'_2 (((F'.p18 1).p20 0).nr ee (by rw [ek, tkc_1, if_pos cx]) (fun _ => by rw [if_neg c1]) (fun z => by omega))
    · refine GX.lift (fun _ q_ => RA.steps (i' := 79) (L' := [some (.ref 110), some (.int x1), x2]) (st' := [.int x1, .ref 110]) (h' := h') 2 rfl q_) ?_
      refine GX.lift (fun _ q_ => RA.if1F rfl (decide_eq_false cx) q_) ?_
      refine GX.lift (fun _ q_ => RA.steps (i' := 83) (L' := [some (.ref 110), some (.int x1), x2]) (st' := [.int 4, .ref 110]) (h' := h') 2 rfl q_) ?_
      refine GX.putN rfl H' rfl (fun h'_1 H'_1 => ?_)
      refine GX.lift (fun _ q_ => RA.steps (i' := 86) (L' := [some (.ref 110), some (.int x1), x2]) (st' := [.ref 110, .ref 110]) (h' := h'_1) 2 rfl q_) ?_
      refine GX.lift (fun _ q_ => RA.getf rfl H'_1.1 rfl ((fsn (by decide)).trans f17) q_) ?_
      refine GX.lift (fun _ q_ => RA.steps (i' := 88) (L' := [some (.ref 110), some (.int x1), x2]) (st' := [.ref 110, .int (nI e), .ref 110]) (h' := h'_1) 1 rfl q_) ?_
      refine GX.lift (fun _ q_ => RA.getf rfl H'_1.1 rfl ((fsn (by decide)).trans f16) q_) ?_
      refine GX.lift (fun _ q_ => RA.steps (i' := 90) (L' := [some (.ref 110), some (.int x1), x2]) (st' := [.int ((nI e) - (nI b)), .ref 110]) (h' := h'_1) 1 rfl q_) ?_
      rw [(nIsub el.1 (by omega))]
      refine GX.lift (fun _ q_ => RA.steps (i' := 91) (L' := [some (.ref 110), some (.int x1), x2]) (st' := [.int 1, .int (nI (e - b)), .ref 110]) (h' := h'_1) 1 rfl q_) ?_
      by_cases c1 : e - b = 1
      · refine GX.lift (fun _ q_ => RA.if2F rfl (decide_eq_false (fun z => z (by rw [c1]; exact nI1))) q_) ?_
        refine GX.lift (fun _ q_ => RA.steps (i' := 93) (L' := [some (.ref 110), some (.int x1), x2]) (st' := [.ref 110, .ref 110]) (h' := h'_1) 1 rfl q_) ?_
        refine GX.lift (fun _ q_ => RA.getf rfl H'_1.1 rfl ((fsn (by decide)).trans f14) q_) ?_
        refine GX.lift (fun _ q_ => RA.steps (i' := 95) (L' := [some (.ref 110), some (.int x1), x2]) (st' := [.ref 110, .ref 124, .ref 110]) (h' := h'_1) 1 rfl q_) ?_
        refine GX.lift (fun _ q_ => RA.getf rfl H'_1.1 rfl ((fsn (by decide)).trans f16) q_) ?_
        refine GX.lift (fun _ q_ => RA.iald (w := (g b)) rfl (H'_1.pi (by decide) pt) ⟨(nI_cl (by omega)).1, by rw [(nI_cl (by omega)).2]; show b < 96; omega⟩ (by rw [(nI_cl (by omega)).2]; exact fg _ (by omega)) q_) ?_
        refine GX.lift (fun _ q_ => RA.steps (i' := 99) (L' := [some (.ref 110), some (.int x1), x2]) (st' := [.int (g b), .ref 110]) (h' := h'_1) 1 rfl q_) ?_
        refine GX.putN rfl H'_1 rfl (fun h'_2 H'_2 => ?_)
        refine GX.lift (fun _ q_ => RA.steps (i' := 176) (L' := [some (.ref 110), some (.int x1), x2]) (st' := []) (h' := h'_2) 1 rfl q_) ?_
        refine GX.ret rfl rfl ?_
        exact K _ _ H'_2 (((F'.p18 4).p20 (g b)).nr ee (by rw [ek, tkc_1, if_neg cx]) (fun _ => by rw [if_pos c1]) (fun z => by omega))
      · refine GX.lift (fun _ q_ => RA.if2T rfl (decide_eq_true (fun z => c1 ((nI_eq (by omega) (by decide)).mp (z.trans nI1.symm)))) q_) ?_
        refine GX.lift (fun _ q_ => RA.steps (i' := 99) (L' := [some (.ref 110), some (.int x1), x2]) (st' := [.int 0, .ref 110]) (h' := h'_1) 1 rfl q_) ?_
        refine GX.putN rfl H'_1 rfl (fun h'_2 H'_2 => ?_)
        refine GX.lift (fun _ q_ => RA.steps (i' := 176) (L' := [some (.ref 110), some (.int x1), x2]) (st' := []) (h' := h'_2) 1 rfl q_) ?_
        refine GX.ret rfl rfl ?_
        exact K _ _ H'_2 (((F'.p18 4).p20 0).nr ee (by rw [ek, tkc_1, if_neg cx]) (fun _ => by rw [if_neg c1]) (fun z => by omega))
  · have r := isLe_x (E := E) (d := d + 5) H f14 f15 pt fg hn (show b ≤ 96 by omega)
    rw [if_neg (fun z => cl z.2)] at r
    have r2 := isDi_x (E := E) (d := d + 5) H f14 f15 pt fg hn (show b ≤ 96 by omega)
    rw [if_pos ⟨c, cd⟩] at r2
    refine GX.lift (fun _ q_ => RA.steps (i' := 52) (L' := [some (.ref 110), some (.int x1), x2]) (st' := [.ref 110]) (h' := h) 1 rfl q_) ?_
    refine GX.lift (fun _ q_ => RA.getf rfl H.1 rfl f16 q_) ?_
    refine GX.lift (fun _ q_ => RA.steps (i' := 54) (L' := [some (.ref 110), some (.int x1), x2]) (st' := [.ref 110, .int (nI b)]) (h' := h) 1 rfl q_) ?_
    refine GX.lift (fun _ q_ => RA.getf rfl H.1 rfl f15 q_) ?_
    refine GX.lift (fun _ q_ => RA.if2T rfl (decide_eq_true (fun z => absurd ((nI_eq (by omega) (by omega)).mp z) (by omega))) q_) ?_
    refine GX.lift (fun _ q_ => RA.steps (i' := 62) (L' := [some (.ref 110), some (.int x1), x2]) (st' := [.ref 110, .ref 110]) (h' := h) 2 rfl q_) ?_
    refine GX.lift (fun _ q_ => RA.getf rfl H.1 rfl f16 q_) ?_
    refine GX.lift (fun _ q_ => RA.call0 (N := mX8_isLetter) (as := [.ref 110, .int (nI b)]) (rest := []) rfl rfl (pcallV rfl rfl H.1 rfl rfl (Nat.le_of_ble_eq_true rfl)) r q_) ?_
    refine GX.lift (fun _ q_ => RA.if1T rfl rfl q_) ?_
    refine GX.lift (fun _ q_ => RA.steps (i' := 103) (L' := [some (.ref 110), some (.int x1), x2]) (st' := [.ref 110, .ref 110]) (h' := h) 2 rfl q_) ?_
    refine GX.lift (fun _ q_ => RA.getf rfl H.1 rfl f16 q_) ?_
    refine GX.lift (fun _ q_ => RA.call0 (N := mX8_isDigit) (as := [.ref 110, .int (nI b)]) (rest := []) rfl rfl (pcallV rfl rfl H.1 rfl rfl (Nat.le_of_ble_eq_true rfl)) r2 q_) ?_
    refine GX.lift (fun _ q_ => RA.if1F rfl rfl q_) ?_
    refine GX.lift (fun _ q_ => RA.steps (i' := 108) (L' := [some (.ref 110), some (.int x1), x2]) (st' := [.int 0, .ref 110]) (h' := h) 2 rfl q_) ?_
    refine GX.putN rfl H rfl (fun h_1 H_1 => ?_)
    refine nt_d pt fg hn (n - b) b _ _ H_1 (F.p19 0) (by omega) ⟨Nat.le_refl b, by omega⟩ (fun h' gs' H' F' => ?_)
    have ⟨f14, f15, f16, f17, f18, ⟨v19, f19⟩, f20⟩ := F'
    have ee := wEnd_k ek (by decide) (by decide)
    have el := wEnd_le (g := g) (n := n) (b := b) (by omega)
    generalize rnk g n 2 (n - b) b = e at *
    rw [ee] at el
    by_cases cx : x1 = 0
    · refine GX.lift (fun _ q_ => RA.steps (i' := 147) (L' := [some (.ref 110), some (.int x1), x2]) (st' := [.int x1, .ref 110]) (h' := h') 2 rfl q_) ?_
      refine GX.lift (fun _ q_ => RA.if1F rfl (decide_eq_false (fun z => z cx)) q_) ?_
      refine GX.lift (fun _ q_ => RA.steps (i' := 149) (L' := [some (.ref 110), some (.int x1), x2]) (st' := [.ref 110, .ref 110]) (h' := h') 1 rfl q_) ?_
      refine GX.lift (fun _ q_ => RA.getf rfl H'.1 rfl f17 q_) ?_
      refine GX.lift (fun _ q_ => RA.steps (i' := 151) (L' := [some (.ref 110), some (.int x1), x2]) (st' := [.ref 110, .int (nI e), .ref 110]) (h' := h') 1 rfl q_) ?_
      refine GX.lift (fun _ q_ => RA.getf rfl H'.1 rfl f16 q_) ?_
      refine GX.lift (fun _ q_ => RA.steps (i' := 153) (L' := [some (.ref 110), some (.int x1), x2]) (st' := [.int ((nI e) - (nI b)), .ref 110]) (h' := h') 1 rfl q_) ?_
      rw [(nIsub el.1 (by omega))]
      refine GX.lift (fun _ q_ => RA.steps (i' := 154) (L' := [some (.ref 110), some (.int x1), x2]) (st' := [.int 4, .int (nI (e - b)), .ref 110]) (h' := h') 1 rfl q_) ?_
      by_cases c4 : e - b ≤ 4
      · refine GX.lift (fun _ q_ => RA.if2T rfl (decide_eq_true (show nI (e - b) ≤ nI 4 from nI_le c4 (by decide))) q_) ?_
        refine GX.lift (fun _ q_ => RA.steps (i' := 158) (L' := [some (.ref 110), some (.int x1), x2]) (st' := [.int 2, .ref 110]) (h' := h') 1 rfl q_) ?_
        refine GX.putN rfl H' rfl (fun h'_1 H'_1 => ?_)
        refine GX.lift (fun _ q_ => RA.steps (i' := 176) (L' := [some (.ref 110), some (.int x1), x2]) (st' := []) (h' := h'_1) 1 rfl q_) ?_
        refine GX.ret rfl rfl ?_
        exact K _ _ H'_1 ((F'.p18 2).nr ee (by rw [ek, tkc_2, if_pos ⟨cx, c4⟩]) (fun z => by omega) (fun z => by omega))
      · refine GX.lift (fun _ q_ => RA.if2F rfl (decide_eq_false (Int32.not_le.mpr (show nI 4 < nI (e - b) from nI_lt (by omega) (by omega)))) q_) ?_
        refine GX.lift (fun _ q_ => RA.steps (i' := 158) (L' := [some (.ref 110), some (.int x1), x2]) (st' := [.int 4, .ref 110]) (h' := h') 2 rfl q_) ?_
        refine GX.putN rfl H' rfl (fun h'_1 H'_1 => ?_)
        refine GX.lift (fun _ q_ => RA.steps (i' := 176) (L' := [some (.ref 110), some (.int x1), x2]) (st' := []) (h' := h'_1) 1 rfl q_) ?_
        refine GX.ret rfl rfl ?_
        exact K _ _ H'_1 ((F'.p18 4).nr ee (by rw [ek, tkc_2, if_neg (fun z => c4 z.2)]) (fun z => by omega) (fun z => by omega))
    · refine GX.lift (fun _ q_ => RA.steps (i' := 147) (L' := [some (.ref 110), some (.int x1), x2]) (st' := [.int x1, .ref 110]) (h' := h') 2 rfl q_) ?_
      refine GX.lift (fun _ q_ => RA.if1T rfl (decide_eq_true cx) q_) ?_
      refine GX.lift (fun _ q_ => RA.steps (i' := 158) (L' := [some (.ref 110), some (.int x1), x2]) (st' := [.int 4, .ref 110]) (h' := h') 2 rfl q_) ?_
      refine GX.putN rfl H' rfl (fun h'_1 H'_1 => ?_)
      refine GX.lift (fun _ q_ => RA.steps (i' := 176) (L' := [some (.ref 110), some (.int x1), x2]) (st' := []) (h' := h'_1) 1 rfl q_) ?_
      refine GX.ret rfl rfl ?_
      exact K _ _ H'_1 ((F'.p18 4).nr ee (by rw [ek, tkc_2, if_neg (fun z => cx z.1)]) (fun z => by omega) (fun z => by omega))
  · have r := isLe_x (E := E) (d := d + 5) H f14 f15 pt fg hn (show b ≤ 96 by omega)
    rw [if_neg (fun z => cl z.2)] at r
    have r2 := isDi_x (E := E) (d := d + 5) H f14 f15 pt fg hn (show b ≤ 96 by omega)
    rw [if_neg (fun z => cd z.2)] at r2
    refine GX.lift (fun _ q_ => RA.steps (i' := 52) (L' := [some (.ref 110), some (.int x1), x2]) (st' := [.ref 110]) (h' := h) 1 rfl q_) ?_
    refine GX.lift (fun _ q_ => RA.getf rfl H.1 rfl f16 q_) ?_
    refine GX.lift (fun _ q_ => RA.steps (i' := 54) (L' := [some (.ref 110), some (.int x1), x2]) (st' := [.ref 110, .int (nI b)]) (h' := h) 1 rfl q_) ?_
    refine GX.lift (fun _ q_ => RA.getf rfl H.1 rfl f15 q_) ?_
    refine GX.lift (fun _ q_ => RA.if2T rfl (decide_eq_true (fun z => absurd ((nI_eq (by omega) (by omega)).mp z) (by omega))) q_) ?_
    refine GX.lift (fun _ q_ => RA.steps (i' := 62) (L' := [some (.ref 110), some (.int x1), x2]) (st' := [.ref 110, .ref 110]) (h' := h) 2 rfl q_) ?_
    refine GX.lift (fun _ q_ => RA.getf rfl H.1 rfl f16 q_) ?_
    refine GX.lift (fun _ q_ => RA.call0 (N := mX8_isLetter) (as := [.ref 110, .int (nI b)]) (rest := []) rfl rfl (pcallV rfl rfl H.1 rfl rfl (Nat.le_of_ble_eq_true rfl)) r q_) ?_
    refine GX.lift (fun _ q_ => RA.if1T rfl rfl q_) ?_
    refine GX.lift (fun _ q_ => RA.steps (i' := 103) (L' := [some (.ref 110), some (.int x1), x2]) (st' := [.ref 110, .ref 110]) (h' := h) 2 rfl q_) ?_
    refine GX.lift (fun _ q_ => RA.getf rfl H.1 rfl f16 q_) ?_
    refine GX.lift (fun _ q_ => RA.call0 (N := mX8_isDigit) (as := [.ref 110, .int (nI b)]) (rest := []) rfl rfl (pcallV rfl rfl H.1 rfl rfl (Nat.le_of_ble_eq_true rfl)) r2 q_) ?_
    refine GX.lift (fun _ q_ => RA.if1T rfl rfl q_) ?_
    refine GX.lift (fun _ q_ => RA.steps (i' := 162) (L' := [some (.ref 110), some (.int x1), x2]) (st' := [.int 3, .ref 110]) (h' := h) 2 rfl q_) ?_
    refine GX.putN rfl H rfl (fun h_1 H_1 => ?_)
    refine GX.lift (fun _ q_ => RA.steps (i' := 165) (L' := [some (.ref 110), some (.int x1), x2]) (st' := [.ref 110, .ref 110]) (h' := h_1) 2 rfl q_) ?_
    refine GX.lift (fun _ q_ => RA.getf rfl H_1.1 rfl ((fsn (by decide)).trans f14) q_) ?_
    refine GX.lift (fun _ q_ => RA.steps (i' := 167) (L' := [some (.ref 110), some (.int x1), x2]) (st' := [.ref 110, .ref 124, .ref 110]) (h' := h_1) 1 rfl q_) ?_
    refine GX.lift (fun _ q_ => RA.getf rfl H_1.1 rfl ((fsn (by decide)).trans f16) q_) ?_
    refine GX.lift (fun _ q_ => RA.iald (w := (g b)) rfl (H_1.pi (by decide) pt) ⟨(nI_cl (by omega)).1, by rw [(nI_cl (by omega)).2]; show b < 96; omega⟩ (by rw [(nI_cl (by omega)).2]; exact fg _ (by omega)) q_) ?_
    refine GX.putN rfl H_1 rfl (fun h_2 H_2 => ?_)
    refine GX.lift (fun _ q_ => RA.steps (i' := 172) (L' := [some (.ref 110), some (.int x1), x2]) (st' := [.ref 110, .ref 110]) (h' := h_2) 2 rfl q_) ?_
    refine GX.lift (fun _ q_ => RA.getf rfl H_2.1 rfl ((fsn (by decide)).trans ((fsn (by decide)).trans f17)) q_) ?_
    refine GX.lift (fun _ q_ => RA.steps (i' := 175) (L' := [some (.ref 110), some (.int x1), x2]) (st' := [.int ((nI b) + 1), .ref 110]) (h' := h_2) 2 rfl q_) ?_
    rw [(nI_1 b)]
    refine GX.putN rfl H_2 rfl (fun h_3 H_3 => ?_)
    refine GX.ret rfl rfl ?_
    exact K _ _ H_3 ((((F.p18 3).p20 (g b)).p17 (b + 1)).nr (wEnd_3 ek) (by rw [ek, tkc_3]) (fun z => by omega) (fun _ => rfl))
/-- was the token before it a word or a number that it stands right behind -/
def tgt (p b : Nat) (t : Int32) : Int32 := if (if 0 < p ∧ (t = 1 ∨ t = 2) then (1 : Int32) else 0) = 0 then (0 : Int32) else if p = b then 1 else 0
theorem nt_v {n b0 p : Nat} {t l : Int32} {gs : List Value} (pt : pint h 124 = some (96, f)) (fg : ∀ j : Nat, j < 96 → f j = g j) (hn : n ≤ 96) (hp : p ≤ n) (ho : pobj h 110 = some (8, gs)) (F : NF gs n b0 p t l) : ∃ (h' : List pC) (gs' : List Value), Run prog E pV1 (d + 8) mX8_nextToken [.ref 110] h (none, h', 0, 0) ∧ NM h h' gs' ∧ NR g n (skp g n (n - p) p) (tgt p (skp g n (n - p) p) t) gs' := by
  have sl := skp_le g n (n - p) p (by omega)
  have key : GX E (fun r h' => r = none ∧ ∃ gs' : List Value, NM h h' gs' ∧ NR g n (skp g n (n - p) p) (tgt p (skp g n (n - p) p) t) gs') (d + 8) mX8_nextToken 0 [some (.ref 110), none, none] [] h := by
    refine nt_s1 (h0 := h) ⟨ho, fun _ _ => rfl⟩ F (by omega) ?_
    refine nt_s2 (h0 := h) pt fg hn (n - p) p _ _ ⟨ho, fun _ _ => rfl⟩ F (by omega) (fun h1 g1 H1 F1 => ?_)
    refine nt_s3 H1 F1 (by omega) (by omega) (fun h2 g2 H2 F2 => ?_)
    exact nt_s4 pt fg hn sl.2 H2 F2 (fun h3 g3 H3 r3 => ⟨rfl, g3, H3, r3⟩)
  obtain ⟨r, h', q, rfl, gs', H', r'⟩ := key
  exact ⟨h', gs', ⟨Nat.le_of_ble_eq_true rfl, ⟨_, _, rfl⟩, q⟩, H', r'⟩
end NTX
