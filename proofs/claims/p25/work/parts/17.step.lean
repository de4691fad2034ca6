/-! ===== one instruction that is no call and no return ===== -/
abbrev aO : Type := List (Nat × aS)
def gS (n0 : Nat) (σ0 : Nat → Int) (T : List aT) (W : aW) (h0 : List pC) (σ : Nat → Int) (S : aS) (L : pL) (st : List Value) (h : List pC) : Prop :=
  (n0 ≤ S.1.length ∧ agr n0 σ0 σ) ∧ gok σ S.1 ∧ cok S.1.length σ h S.2.1 ∧ fok S.1.length σ S.2.2.1 ∧ LG S.1.length σ L S.2.2.2.1 ∧ SG S.1.length σ st S.2.2.2.2 ∧ HI T h ∧ Fr W h0 h
/-- some of the states behind it holds of what the machine does -/
def Nx (n0 : Nat) (σ0 : Nat → Int) (T : List aT) (W : aW) (h0 : List pC) (E : pX) (t : pE) (i : Nat) (L : pL) (st : List Value) (h : List pC) (σ : Nat → Int) (m : Nat) (outs : aO) : Prop :=
  ∃ (i' : Nat) (S' : aS) (σ' : Nat → Int) (L' : pL) (st' : List Value) (h' : List pC), (i', S') ∈ outs ∧ agr m σ σ' ∧ m ≤ S'.1.length ∧ pstep E t i L st h = some (i', L', st', h', 0, 0) ∧ gS n0 σ0 T W h0 σ' S' L' st' h'
def avV (v : Value) : Option AV := match v with
  | .int a => some (cn a.toInt)
  | .long a => some (2, a.toInt, a.toInt, 0)
  | .null => some (4, 0, 0, 0)
  | _ => none
def aps (i : Nat) (Γ : aG) (C : aC) (Δ : aD) (A : aL) (s : List AV) : Option aO := some [(i + 1, Γ, C, Δ, A, s)]
def a_k (e : pE) (i : Nat) (Γ : aG) (C : aC) (Δ : aD) (A : aL) (s : List AV) : Option aO := match avV (e_v e) with
  | some x => aps i Γ C Δ A (x :: s)
  | none => none
def a_ld (b : AV → Bool) (e : pE) (i : Nat) (Γ : aG) (C : aC) (Δ : aD) (A : aL) (s : List AV) : Option aO := match A[e_x e]? with
  | some x => if b x = true then aps i Γ C Δ A (x :: s) else none
  | none => none
def isI (x : AV) : Bool := decide (x.1 ≤ 1)
def isL (x : AV) : Bool := decide (x.1 = 2 ∨ x.1 = 3)
def isR (x : AV) : Bool := decide (x.1 = 4 ∨ x.1 = 5 ∨ x.1 = 6)
def isP (x : AV) : Bool := decide (x.1 = 5 ∨ x.1 = 6)
def a_st (b : AV → Bool) (e : pE) (i : Nat) (Γ : aG) (C : aC) (Δ : aD) (A : aL) (s : List AV) : Option aO := match s with
  | x :: r => if b x = true then (match aset A (e_x e) x with
    | some A' => aps i Γ C Δ A' r
    | none => none) else none
  | _ => none
def a_inc (ff : Bool) (k : Int) (e : pE) (i : Nat) (Γ : aG) (C : aC) (Δ : aD) (A : aL) (s : List AV) : Option aO := match A[e_x e]? with
  | some x => if isI x = true ∧ -40000 ≤ k ∧ k ≤ 40000 then (match aset A (e_x e) (aopS ff Γ Δ 0 x (cn k)).2.2 with
    | some A' => aps i (aopS ff Γ Δ 0 x (cn k)).1 C (aopS ff Γ Δ 0 x (cn k)).2.1 A' s
    | none => none) else none
  | none => none
/-- two bits, worked out for the first time: one way for each -/
def frk (Γ : aG) (Δ : aD) (c : Nat) (x y : AV) : Bool := mkd Γ && decide (c = 3) && decide (aop 3 Γ x y = (0, 0, 3, 0)) && (cse Γ Δ c x y).isNone
def a_bin (ff : Bool) (c : Nat) (i : Nat) (Γ : aG) (C : aC) (Δ : aD) (A : aL) (s : List AV) : Option aO := match s with
  | y :: x :: r => if isI x = true ∧ isI y = true then (if frk Γ Δ c x y = true then some (([0, 1, 2, 3] : List Int).map (fun j => (i + 1, Γ, C, (13, x, y, cn j) :: Δ, A, cn j :: r))) else aps i (aopS ff Γ Δ c x y).1 C (aopS ff Γ Δ c x y).2.1 A ((aopS ff Γ Δ c x y).2.2 :: r)) else none
  | _ => none
def a_div (ff : Bool) (c : Nat) (i : Nat) (Γ : aG) (C : aC) (Δ : aD) (A : aL) (s : List AV) : Option aO := match s with
  | y :: x :: r => if isI x = true ∧ isI y = true ∧ nz Γ y = true then aps i (aopS ff Γ Δ c x y).1 C (aopS ff Γ Δ c x y).2.1 A ((aopS ff Γ Δ c x y).2.2 :: r) else none
  | _ => none
def a_neg (ff : Bool) (i : Nat) (Γ : aG) (C : aC) (Δ : aD) (A : aL) (s : List AV) : Option aO := match s with
  | x :: r => if isI x = true then aps i (aopS ff Γ Δ 1 (cn 0) x).1 C (aopS ff Γ Δ 1 (cn 0) x).2.1 A ((aopS ff Γ Δ 1 (cn 0) x).2.2 :: r) else none
  | _ => none
def a_un (ff : Bool) (c : Nat) (i : Nat) (Γ : aG) (C : aC) (Δ : aD) (A : aL) (s : List AV) : Option aO := match s with
  | x :: r => if isI x = true then aps i (aopS ff Γ Δ c x (cn 0)).1 C (aopS ff Γ Δ c x (cn 0)).2.1 A ((aopS ff Γ Δ c x (cn 0)).2.2 :: r) else none
  | _ => none
def a_i2l (i : Nat) (Γ : aG) (C : aC) (Δ : aD) (A : aL) (s : List AV) : Option aO := match s with
  | x :: r => if isI x = true then aps i Γ C Δ A ((x.1 + 2, x.2.1, x.2.2.1, x.2.2.2) :: r) else none
  | _ => none
def a_ladd (i : Nat) (Γ : aG) (C : aC) (Δ : aD) (A : aL) (s : List AV) : Option aO := match s with
  | y :: x :: r => if isL x = true ∧ isL y = true then (match ivl Γ x, ivl Γ y with
    | some p, some q => if -9000000000000 ≤ p.1 + q.1 ∧ p.2 + q.2 ≤ 9000000000000 then aps i Γ C Δ A ((2, p.1 + q.1, p.2 + q.2, 0) :: r) else none
    | _, _ => none) else none
  | _ => none
/-- which of the two is at most the other, where that is known -/
def lcn (Γ : aG) (x y : AV) : Option AV := if mkd Γ = true then (match ivl Γ x, ivl Γ y with
  | some p, some q => if q.2 = p.1 ∧ q.1 < p.2 then some (0, 0, 1, 0) else if p.2 = q.1 ∧ p.1 < q.2 then some (0, -1, 0, 0) else none
  | _, _ => none) else none
def a_lcmp (ff : Bool) (i : Nat) (Γ : aG) (C : aC) (Δ : aD) (A : aL) (s : List AV) : Option aO := match s with
  | y :: x :: r => if isL x = true ∧ isL y = true then (match lcn Γ x y with
    | some w => aps i Γ C Δ A (w :: r)
    | none => some ((rfr Γ 0 x y).map (fun G => (i + 1, G, C, fadd ff Δ 0 x y, A, cn (-1) :: r)) ++ ((rfr Γ 4 x y).map (fun G => (i + 1, G, C, fadd ff Δ 4 x y, A, cn 0 :: r)) ++ (rfr Γ 2 x y).map (fun G => (i + 1, G, C, fadd ff Δ 2 x y, A, cn 1 :: r))))) else none
  | _ => none
def a_dup (i : Nat) (Γ : aG) (C : aC) (Δ : aD) (A : aL) (s : List AV) : Option aO := match s with
  | x :: r => if isL x = false then aps i Γ C Δ A (x :: x :: r) else none
  | _ => none
def a_dup2 (i : Nat) (Γ : aG) (C : aC) (Δ : aD) (A : aL) (s : List AV) : Option aO := match s with
  | x :: y :: r => if isL x = false ∧ isL y = false then aps i Γ C Δ A (x :: y :: x :: y :: r) else none
  | _ => none
def a_pop (i : Nat) (Γ : aG) (C : aC) (Δ : aD) (A : aL) (s : List AV) : Option aO := match s with
  | x :: r => if isL x = false then aps i Γ C Δ A r else none
  | _ => none
def inq (r1 r2 : Nat) : Bool := match r1 with
  | 0 => decide (r2 = 2 ∨ r2 = 3 ∨ r2 = 4)
  | 1 => decide (r2 = 2)
  | 2 => decide (r2 = 0 ∨ r2 = 1 ∨ r2 = 4)
  | 3 => decide (r2 = 0)
  | 4 => decide (r2 = 0 ∨ r2 = 2 ∨ r2 = 5)
  | 5 => decide (r2 = 4)
  | _ => false
def cnv (r : Nat) : Nat := match r with
  | 0 => 2
  | 1 => 3
  | 2 => 0
  | 3 => 1
  | _ => r
/-- what is known already rules it out -/
def contra (Δ : aD) (r : Nat) (x y : AV) : Bool := det x && det y && Δ.any (fun f => decide (f.1 < 6) && ((decide (f.2.1 = x) && decide (f.2.2.1 = y) && inq r f.1) || (decide (f.2.1 = y) && decide (f.2.2.1 = x) && inq (cnv r) f.1)))
theorem inq_ok {r1 r2 : Nat} {a b : Int} (hi : inq r1 r2 = true) (h1 : rel r1 a b) (h2 : rel r2 a b) : False := by
  unfold inq at hi
  split at hi
  · have hi := of_decide_eq_true hi
    have h1 : a < b := h1
    rcases hi with rfl | rfl | rfl
    · exact absurd (show b < a from h2) (by omega)
    · exact absurd (show b ≤ a from h2) (by omega)
    · exact absurd (show a = b from h2) (by omega)
  · have hi := of_decide_eq_true hi
    subst hi
    exact absurd (show b < a from h2) (by have h1 : a ≤ b := h1; omega)
  · have hi := of_decide_eq_true hi
    have h1 : b < a := h1
    rcases hi with rfl | rfl | rfl
    · exact absurd (show a < b from h2) (by omega)
    · exact absurd (show a ≤ b from h2) (by omega)
    · exact absurd (show a = b from h2) (by omega)
  · have hi := of_decide_eq_true hi
    subst hi
    exact absurd (show a < b from h2) (by have h1 : b ≤ a := h1; omega)
  · have hi := of_decide_eq_true hi
    have h1 : a = b := h1
    rcases hi with rfl | rfl | rfl
    · exact absurd (show a < b from h2) (by omega)
    · exact absurd (show b < a from h2) (by omega)
    · exact (show ¬ a = b from h2) h1
  · have hi := of_decide_eq_true hi
    subst hi
    exact (show ¬ a = b from h1) h2
  · cases hi
theorem cnv_ok {r : Nat} {a b : Int} (hr : r < 6) (h : rel r a b) : rel (cnv r) b a := by
  have : r = 0 ∨ r = 1 ∨ r = 2 ∨ r = 3 ∨ r = 4 ∨ r = 5 := by omega
  rcases this with rfl | rfl | rfl | rfl | rfl | rfl
  · exact h
  · exact h
  · exact h
  · exact h
  · exact (show a = b from h).symm
  · exact fun e => (show ¬ a = b from h) e.symm
theorem contra_ok {n : Nat} {σ : Nat → Int} {Δ : aD} {r : Nat} {x y : AV} {a b : Int} (hr6 : r < 6) (hf : fok n σ Δ) (hx : zG n σ a x) (hy : zG n σ b y) (hr : rel r a b) : contra Δ r x y = false := by
  cases hc : contra Δ r x y with
  | false => rfl
  | true =>
    exfalso
    unfold contra at hc
    rw [Bool.and_eq_true, Bool.and_eq_true] at hc
    obtain ⟨⟨d1, d2⟩, hc⟩ := hc
    obtain ⟨f, hfm, hq⟩ := List.any_eq_true.mp hc
    have hfc := hf f hfm
    rw [Bool.and_eq_true] at hq
    have h6 := of_decide_eq_true hq.1
    have hq := hq.2
    unfold fcG at hfc
    rw [if_pos (by omega)] at hfc
    obtain ⟨u, v, e1, e2, e3⟩ := hfc
    rw [Bool.or_eq_true] at hq
    rcases hq with hq | hq
    · rw [Bool.and_eq_true, Bool.and_eq_true] at hq
      obtain ⟨⟨q1, q2⟩, q3⟩ := hq
      rw [of_decide_eq_true q1] at e1
      rw [of_decide_eq_true q2] at e2
      rw [det_ok d1 e1 hx, det_ok d2 e2 hy] at e3
      exact inq_ok q3 hr e3
    · rw [Bool.and_eq_true, Bool.and_eq_true] at hq
      obtain ⟨⟨q1, q2⟩, q3⟩ := hq
      rw [of_decide_eq_true q1] at e1
      rw [of_decide_eq_true q2] at e2
      rw [det_ok d2 e1 hy, det_ok d1 e2 hx] at e3
      exact inq_ok q3 (cnv_ok hr6 hr) e3
def a_if (ff : Bool) (k : ClassFile.Cond) (t i : Nat) (x y : AV) (Γ : aG) (C : aC) (Δ : aD) (A : aL) (r : List AV) : Option aO :=
  some ((if contra Δ (ccd k).1 x y = true then [] else (rfr Γ (ccd k).1 x y).map (fun G => (t, G, C, fadd ff Δ (ccd k).1 x y, A, r))) ++ (if contra Δ (ccd k).2 x y = true then [] else (rfr Γ (ccd k).2 x y).map (fun G => (i + 1, G, C, fadd ff Δ (ccd k).2 x y, A, r))))
def a_if1 (ff : Bool) (k : ClassFile.Cond) (e : pE) (i : Nat) (Γ : aG) (C : aC) (Δ : aD) (A : aL) (s : List AV) : Option aO := match s with
  | x :: r => if isI x = true then a_if ff k (e_x e) i x (cn 0) Γ C Δ A r else none
  | _ => none
def a_if2 (ff : Bool) (k : ClassFile.Cond) (e : pE) (i : Nat) (Γ : aG) (C : aC) (Δ : aD) (A : aL) (s : List AV) : Option aO := match s with
  | y :: x :: r => if isI x = true ∧ isI y = true then a_if ff k (e_x e) i x y Γ C Δ A r else none
  | _ => none
def a_ifn (b : Bool) (e : pE) (i : Nat) (Γ : aG) (C : aC) (Δ : aD) (A : aL) (s : List AV) : Option aO := match s with
  | x :: r => if x.1 = 4 then some [(cond b (e_x e) (i + 1), Γ, C, Δ, A, r)] else if isP x = true then some [(cond b (i + 1) (e_x e), Γ, C, Δ, A, r)] else none
  | _ => none
def a_sw (ff : Bool) (e : pE) (Γ : aG) (C : aC) (Δ : aD) (A : aL) (s : List AV) : Option aO := match s with
  | x :: r => if isI x = true then some ((pkeys e).flatMap (fun k => (rfr Γ 4 x (cn k.1)).map (fun G => (k.2, G, C, fadd ff Δ 4 x (cn k.1), A, r))) ++ (swd x (pkeys e) Γ).map (fun G => (e_x e, G, C, fsw ff x (pkeys e) Δ, A, r))) else none
  | _ => none
def a_gf (T : List aT) (e : pE) (i : Nat) (Γ : aG) (C : aC) (Δ : aD) (A : aL) (s : List AV) : Option aO := match s with
  | x :: r => if isP x = true then (match ard T Γ C (2 + e_x e) x (cn (e_y e)) with
    | some q => aps i q.1 q.2.1 Δ A (q.2.2 :: r)
    | none => none) else none
  | _ => none
def afit (ty : FieldType) (Γ : aG) (x : AV) : Bool := match ty with
  | .int => true
  | .boolean => (match ivl Γ x with
    | some p => decide (0 ≤ p.1) && decide (p.2 ≤ 1)
    | none => false)
  | _ => false
def a_pf (T : List aT) (W : aW) (e : pE) (i : Nat) (Γ : aG) (C : aC) (Δ : aD) (A : aL) (s : List AV) : Option aO := match s with
  | x :: y :: r => if isI x = true ∧ isP y = true ∧ afit (ptyp (e_x e) (e_y e)) Γ x = true then (match awr T W Γ C (2 + e_x e) y (cn (e_y e)) x with
    | some C' => aps i Γ C' Δ A r
    | none => none) else none
  | _ => none
def ipos (Γ : aG) (x : AV) : Bool := match ivl Γ x with
  | some p => decide (0 ≤ p.1)
  | none => false
def a_ald (T : List aT) (k : Nat) (i : Nat) (Γ : aG) (C : aC) (Δ : aD) (A : aL) (s : List AV) : Option aO := match s with
  | x :: y :: r => if isI x = true ∧ isP y = true ∧ ipos Γ x = true then (match ard T Γ C k y x with
    | some q => aps i q.1 q.2.1 Δ A (q.2.2 :: r)
    | none => none) else none
  | _ => none
def a_ast (T : List aT) (W : aW) (i : Nat) (Γ : aG) (C : aC) (Δ : aD) (A : aL) (s : List AV) : Option aO := match s with
  | v :: x :: y :: r => if isI v = true ∧ isI x = true ∧ isP y = true ∧ ipos Γ x = true then (match awr T W Γ C 0 y x v with
    | some C' => aps i Γ C' Δ A r
    | none => none) else none
  | _ => none
def lnT (T : List aT) (a : Nat) : Option Nat := match T[a]? with
  | some (.inl t) => some t.1
  | some (.inr (.inl t)) => some t.2.1
  | _ => none
def lnTs (T : List aT) (m : Nat) (as : List Nat) : Bool := as.all (fun a => decide (lnT T a = some m))
def a_len (T : List aT) (i : Nat) (Γ : aG) (C : aC) (Δ : aD) (A : aL) (s : List AV) : Option aO := match s with
  | x :: r => if isP x = true then (match adrs Γ x with
    | some (a :: as) => (match lnT T a with
      | some m => if lnTs T m (a :: as) = true ∧ m ≤ 100000 then aps i Γ C Δ A (cn (m : Int) :: r) else none
      | none => none)
    | _ => none) else none
  | _ => none
def astep (ff : Bool) (T : List aT) (W : aW) (e : pE) (i : Nat) (Γ : aG) (C : aC) (Δ : aD) (A : aL) (s : List AV) : Option aO := match e_in e with
  | .iconst _ => a_k e i Γ C Δ A s
  | .bipush _ => a_k e i Γ C Δ A s
  | .sipush _ => a_k e i Γ C Δ A s
  | .lconst _ => a_k e i Γ C Δ A s
  | .ldc _ => a_k e i Γ C Δ A s
  | .ldc_w _ => a_k e i Γ C Δ A s
  | .ldc2_w _ => a_k e i Γ C Δ A s
  | .aconst_null => aps i Γ C Δ A ((4, 0, 0, 0) :: s)
  | .iload _ => a_ld isI e i Γ C Δ A s
  | .iload_n _ => a_ld isI e i Γ C Δ A s
  | .lload _ => a_ld isL e i Γ C Δ A s
  | .lload_n _ => a_ld isL e i Γ C Δ A s
  | .aload _ => a_ld isR e i Γ C Δ A s
  | .aload_n _ => a_ld isR e i Γ C Δ A s
  | .istore _ => a_st isI e i Γ C Δ A s
  | .istore_n _ => a_st isI e i Γ C Δ A s
  | .astore _ => a_st isR e i Γ C Δ A s
  | .astore_n _ => a_st isR e i Γ C Δ A s
  | .iinc _ n => a_inc ff n e i Γ C Δ A s
  | .iadd => a_bin ff 0 i Γ C Δ A s
  | .isub => a_bin ff 1 i Γ C Δ A s
  | .imul => a_bin ff 2 i Γ C Δ A s
  | .iand => a_bin ff 3 i Γ C Δ A s
  | .ior => a_bin ff 4 i Γ C Δ A s
  | .ixor => a_bin ff 5 i Γ C Δ A s
  | .ishl => a_bin ff 6 i Γ C Δ A s
  | .ishr => a_bin ff 7 i Γ C Δ A s
  | .iushr => a_bin ff 8 i Γ C Δ A s
  | .idiv => a_div ff 10 i Γ C Δ A s
  | .irem => a_div ff 9 i Γ C Δ A s
  | .ineg => a_neg ff i Γ C Δ A s
  | .i2l => a_i2l i Γ C Δ A s
  | .i2s => a_un ff 13 i Γ C Δ A s
  | .ladd => a_ladd i Γ C Δ A s
  | .lcmp => a_lcmp ff i Γ C Δ A s
  | .dup => a_dup i Γ C Δ A s
  | .dup2 => a_dup2 i Γ C Δ A s
  | .pop => a_pop i Γ C Δ A s
  | .goto _ => some [(e_x e, Γ, C, Δ, A, s)]
  | .ifCond k _ => a_if1 ff k e i Γ C Δ A s
  | .if_icmp k _ => a_if2 ff k e i Γ C Δ A s
  | .ifnull _ => a_ifn true e i Γ C Δ A s
  | .ifnonnull _ => a_ifn false e i Γ C Δ A s
  | .tableswitch _ _ _ _ => a_sw ff e Γ C Δ A s
  | .lookupswitch _ _ => a_sw ff e Γ C Δ A s
  | .getfield _ => a_gf T e i Γ C Δ A s
  | .putfield _ => a_pf T W e i Γ C Δ A s
  | .iaload => a_ald T 0 i Γ C Δ A s
  | .iastore => a_ast T W i Γ C Δ A s
  | .aaload => a_ald T 1 i Γ C Δ A s
  | .arraylength => a_len T i Γ C Δ A s
  | _ => none
theorem ccd_lt6 (k : ClassFile.Cond) : (ccd k).1 < 6 ∧ (ccd k).2 < 6 := by cases k <;> exact ⟨by decide, by decide⟩
section STP
variable {n0 : Nat} {σ0 : Nat → Int} {T : List aT} {W : aW} {h0 : List pC} {E : pX} {t : pE} {i : Nat} {L : pL} {st : List Value} {h : List pC} {σ : Nat → Int} {Γ : aG} {C : aC} {Δ : aD} {A : aL} {s : List AV} {outs : aO} {ff : Bool}
theorem nx1 {L' : pL} {st' : List Value} {A' : aL} {s' : List AV} {i' : Nat} (g : gS n0 σ0 T W h0 σ (Γ, C, Δ, A, s) L st h) (hp : pstep E t i L st h = some (i', L', st', h, 0, 0)) (hL : LG Γ.length σ L' A') (hs : SG Γ.length σ st' s') : Nx n0 σ0 T W h0 E t i L st h σ Γ.length [(i', Γ, C, Δ, A', s')] :=
  ⟨i', _, σ, L', st', h, List.mem_cons_self, agr.rf _ _, Nat.le_refl _, hp, g.1, g.2.1, g.2.2.1, g.2.2.2.1, hL, hs, g.2.2.2.2.2.2⟩
theorem nx2 {L' : pL} {st' : List Value} {A' : aL} {s' : List AV} {i' : Nat} {Γ' : aG} {Δ' : aD} {σ' : Nat → Int} (g : gS n0 σ0 T W h0 σ (Γ, C, Δ, A, s) L st h) (ha : agr Γ.length σ σ') (hn : Γ.length ≤ Γ'.length) (hg : gok σ' Γ') (hf : fok Γ'.length σ' Δ') (hp : pstep E t i L st h = some (i', L', st', h, 0, 0)) (hL : LG Γ'.length σ' L' A') (hs : SG Γ'.length σ' st' s') (hm : (i', Γ', C, Δ', A', s') ∈ outs) : Nx n0 σ0 T W h0 E t i L st h σ Γ.length outs :=
  ⟨i', _, σ', L', st', h, hm, ha, hn, hp, ⟨Nat.le_trans g.1.1 hn, g.1.2.tr (ha.le g.1.1)⟩, hg, g.2.2.1.up hn ha, hf, hL, hs, g.2.2.2.2.2.2⟩
theorem nx_ref {L' : pL} {st' : List Value} {s' : List AV} {i' : Nat} {Γ' : aG} {Δ' : aD} (g : gS n0 σ0 T W h0 σ (Γ, C, Δ, A, s) L st h) (hn : Γ'.length = Γ.length) (hg : gok σ Γ') (hf : fok Γ.length σ Δ') (hp : pstep E t i L st h = some (i', L', st', h, 0, 0)) (hL : LG Γ.length σ L' A) (hs : SG Γ.length σ st' s') (hm : (i', Γ', C, Δ', A, s') ∈ outs) : Nx n0 σ0 T W h0 E t i L st h σ Γ.length outs :=
  nx2 g (agr.rf _ _) (by rw [hn]; exact Nat.le_refl _) hg (by rw [hn]; exact hf) hp (by rw [hn]; exact hL) (by rw [hn]; exact hs) hm
theorem isI_t {x : AV} (hb : isI x = true) : x.1 ≤ 1 := of_decide_eq_true hb
theorem isL_t {x : AV} (hb : isL x = true) : x.1 = 2 ∨ x.1 = 3 := of_decide_eq_true hb
theorem isP_t {x : AV} (hb : isP x = true) : x.1 = 5 ∨ x.1 = 6 := of_decide_eq_true hb
theorem isL_f {x : AV} {w : Value} {n : Nat} (hb : isL x = false) (hv : vG n σ w x) : w.category = 1 := by
  rw [acat_ok hv]
  unfold acat
  exact if_neg (of_decide_eq_false hb)
theorem avV_ok {v : Value} {x : AV} {n : Nat} (ha : avV v = some x) : vG n σ v x := by
  unfold avV at ha
  split at ha
  · cases ha
    exact ⟨Nat.zero_le _, cnZ _⟩
  · cases ha
    exact ⟨Or.inl rfl, zG.itv rfl (Int.le_refl _) (Int.le_refl _)⟩
  · cases ha
    rfl
  · cases ha
theorem k_ok (g : gS n0 σ0 T W h0 σ (Γ, C, Δ, A, s) L st h) (hp : pstep E t i L st h = pnx i L (e_v t :: st) h) (ha : a_k t i Γ C Δ A s = some outs) : Nx n0 σ0 T W h0 E t i L st h σ Γ.length outs := by
  unfold a_k at ha
  split at ha
  · rename_i x hx
    cases ha
    exact nx1 g hp g.2.2.2.2.1 ⟨avV_ok hx, g.2.2.2.2.2.1⟩
  · cases ha
theorem ldi_ok (g : gS n0 σ0 T W h0 σ (Γ, C, Δ, A, s) L st h) (hp : pstep E t i L st h = pldi t i L st h) (ha : a_ld isI t i Γ C Δ A s = some outs) : Nx n0 σ0 T W h0 E t i L st h σ Γ.length outs := by
  unfold a_ld at ha
  split at ha
  · rename_i x hx
    split at ha
    · rename_i hb
      cases ha
      have hb := isI_t hb
      obtain ⟨w, hw, hv⟩ := g.2.2.2.2.1.at hx (by omega)
      obtain ⟨v, rfl, hz⟩ := hv.int hb
      refine nx1 g (L' := L) (st' := .int v :: st) ?_ g.2.2.2.2.1 ⟨hv, g.2.2.2.2.2.1⟩
      rw [hp]
      unfold pldi
      rw [hw]
      rfl
    · cases ha
  · cases ha
theorem ldl_ok (g : gS n0 σ0 T W h0 σ (Γ, C, Δ, A, s) L st h) (hp : pstep E t i L st h = pldl t i L st h) (ha : a_ld isL t i Γ C Δ A s = some outs) : Nx n0 σ0 T W h0 E t i L st h σ Γ.length outs := by
  unfold a_ld at ha
  split at ha
  · rename_i x hx
    split at ha
    · rename_i hb
      cases ha
      have hb := isL_t hb
      obtain ⟨w, hw, hv⟩ := g.2.2.2.2.1.at hx (by omega)
      obtain ⟨v, rfl, hz⟩ := hv.long hb
      refine nx1 g (L' := L) (st' := .long v :: st) ?_ g.2.2.2.2.1 ⟨hv, g.2.2.2.2.2.1⟩
      rw [hp]
      unfold pldl
      rw [hw]
      rfl
    · cases ha
  · cases ha
theorem vG.isr {n : Nat} {w : Value} {x : AV} (hb : isR x = true) (hv : vG n σ w x) : w = .null ∨ ∃ a, w = .ref a := by
  have hb : x.1 = 4 ∨ x.1 = 5 ∨ x.1 = 6 := of_decide_eq_true hb
  rcases hb with hb | hb
  · exact Or.inl (hv.null hb)
  · obtain ⟨a, ha, -⟩ := hv.ref hb
    exact Or.inr ⟨a, ha⟩
theorem lda_ok (g : gS n0 σ0 T W h0 σ (Γ, C, Δ, A, s) L st h) (hp : pstep E t i L st h = plda t i L st h) (ha : a_ld isR t i Γ C Δ A s = some outs) : Nx n0 σ0 T W h0 E t i L st h σ Γ.length outs := by
  unfold a_ld at ha
  split at ha
  · rename_i x hx
    split at ha
    · rename_i hb
      cases ha
      have hb4 : x.1 = 4 ∨ x.1 = 5 ∨ x.1 = 6 := of_decide_eq_true hb
      obtain ⟨w, hw, hv⟩ := g.2.2.2.2.1.at hx (by omega)
      rcases hv.isr hb with rfl | ⟨a, rfl⟩
      · refine nx1 g (L' := L) (st' := .null :: st) ?_ g.2.2.2.2.1 ⟨hv, g.2.2.2.2.2.1⟩
        rw [hp]
        unfold plda
        rw [hw]
        rfl
      · refine nx1 g (L' := L) (st' := .ref a :: st) ?_ g.2.2.2.2.1 ⟨hv, g.2.2.2.2.2.1⟩
        rw [hp]
        unfold plda
        rw [hw]
        rfl
    · cases ha
  · cases ha
theorem sti_ok (g : gS n0 σ0 T W h0 σ (Γ, C, Δ, A, s) L st h) (hp : pstep E t i L st h = psti t i L st h) (ha : a_st isI t i Γ C Δ A s = some outs) : Nx n0 σ0 T W h0 E t i L st h σ Γ.length outs := by
  unfold a_st at ha
  split at ha
  · rename_i x r
    obtain ⟨w, st, rfl, hv, hs1⟩ := g.2.2.2.2.2.1.cons_inv
    split at ha
    · rename_i hb
      obtain ⟨v, rfl, hz⟩ := hv.int (isI_t hb)
      split at ha
      · rename_i A' hA
        cases ha
        obtain ⟨L', hL, hG⟩ := aset_ok g.2.2.2.2.1 hv hA
        refine nx1 g (L' := L') (st' := st) ?_ hG hs1
        rw [hp]
        unfold psti
        dsimp only
        rw [hL]
        rfl
      · cases ha
    · cases ha
  · cases ha
theorem sta_ok (g : gS n0 σ0 T W h0 σ (Γ, C, Δ, A, s) L st h) (hp : pstep E t i L st h = psta t i L st h) (ha : a_st isR t i Γ C Δ A s = some outs) : Nx n0 σ0 T W h0 E t i L st h σ Γ.length outs := by
  unfold a_st at ha
  split at ha
  · rename_i x r
    obtain ⟨w, st, rfl, hv, hs1⟩ := g.2.2.2.2.2.1.cons_inv
    split at ha
    · rename_i hb
      split at ha
      · rename_i A' hA
        cases ha
        obtain ⟨L', hL, hG⟩ := aset_ok g.2.2.2.2.1 hv hA
        rcases hv.isr hb with rfl | ⟨a, rfl⟩
        · refine nx1 g (L' := L') (st' := st) ?_ hG hs1
          rw [hp]
          unfold psta
          dsimp only
          rw [hL]
          rfl
        · refine nx1 g (L' := L') (st' := st) ?_ hG hs1
          rw [hp]
          unfold psta
          dsimp only
          rw [hL]
          rfl
      · cases ha
    · cases ha
  · cases ha
theorem ofI_small {k : Int} (h1 : -40000 ≤ k) (h2 : k ≤ 40000) : (Int32.ofInt k).toInt = k := Int32.toInt_ofInt_of_le (by omega) (by omega)
theorem inc_ok {k : Int} (g : gS n0 σ0 T W h0 σ (Γ, C, Δ, A, s) L st h) (hp : pstep E t i L st h = pinc k t i L st h) (ha : a_inc ff k t i Γ C Δ A s = some outs) : Nx n0 σ0 T W h0 E t i L st h σ Γ.length outs := by
  unfold a_inc at ha
  split at ha
  · rename_i x hx
    split at ha
    · rename_i hb
      obtain ⟨hb, hk1, hk2⟩ := hb
      have hb := isI_t hb
      obtain ⟨w, hw, hv⟩ := g.2.2.2.2.1.at hx (by omega)
      obtain ⟨v, rfl, hz⟩ := hv.int hb
      obtain ⟨σ', s1, s2, s3, s4, s5⟩ := aopS_ok (u := Int32.ofInt k) (y := cn k) ff 0 g.2.1 g.2.2.2.1 hz (by rw [ofI_small hk1 hk2]; exact cnZ k)
      split at ha
      · rename_i A' hA
        cases ha
        obtain ⟨L', hL, hG⟩ := aset_ok (g.2.2.2.2.1.up s3 s1) s5 hA
        refine nx2 g s1 s3 s2 s4 (L' := L') (st' := st) ?_ hG (g.2.2.2.2.2.1.up s3 s1) List.mem_cons_self
        rw [hp]
        unfold pinc
        rw [hw]
        dsimp only
        rw [show v + Int32.ofInt k = opS 0 v (Int32.ofInt k) from rfl, hL]
        rfl
      · cases ha
    · cases ha
  · cases ha
theorem bin_ok {c : Nat} {f : Int32 → Int32 → Int32} (hfc : f = opS c) (g : gS n0 σ0 T W h0 σ (Γ, C, Δ, A, s) L st h) (hp : pstep E t i L st h = pbin f i L st h) (ha : a_bin ff c i Γ C Δ A s = some outs) : Nx n0 σ0 T W h0 E t i L st h σ Γ.length outs := by
  unfold a_bin at ha
  split at ha
  · rename_i y x r
    obtain ⟨w, st, rfl, hv, hs1⟩ := g.2.2.2.2.2.1.cons_inv
    obtain ⟨w', st, rfl, hv', hs2⟩ := hs1.cons_inv
    split at ha
    · rename_i hb
      obtain ⟨u, rfl, hy⟩ := hv.int (isI_t hb.2)
      obtain ⟨v, rfl, hx⟩ := hv'.int (isI_t hb.1)
      split at ha
      · rename_i hk
        cases ha
        unfold frk at hk
        simp only [Bool.and_eq_true, decide_eq_true_eq] at hk
        obtain ⟨⟨⟨-, k2⟩, k3⟩, -⟩ := hk
        subst k2
        obtain ⟨z1, -⟩ := aop_ok 3 g.2.1 hx hy
        rw [k3] at z1
        have z1 : (0 : Int) ≤ (opS 3 v u).toInt ∧ (opS 3 v u).toInt ≤ 3 := z1
        have hm : (opS 3 v u).toInt ∈ ([0, 1, 2, 3] : List Int) := by
          simp only [List.mem_cons, List.not_mem_nil, or_false]
          omega
        have hfk : fcG Γ.length σ (13, x, y, cn (opS 3 v u).toInt) := by
          unfold fcG
          rw [if_neg (show ¬ (13 : Nat) < 10 by decide)]
          exact ⟨v, u, hx, hy, cnZ _⟩
        refine nx2 g (agr.rf _ _) (Nat.le_refl _) g.2.1 (g.2.2.2.1.cons hfk) (L' := L) (st' := .int (opS 3 v u) :: st) ?_ g.2.2.2.2.1 (by exact ⟨⟨Nat.zero_le 1, cnZ _⟩, hs2⟩) (List.mem_map.mpr ⟨_, hm, rfl⟩)
        rw [hp, hfc]
        rfl
      · cases ha
        obtain ⟨σ', s1, s2, s3, s4, s5⟩ := aopS_ok ff c g.2.1 g.2.2.2.1 hx hy
        refine nx2 g s1 s3 s2 s4 (L' := L) (st' := .int (opS c v u) :: st) ?_ (g.2.2.2.2.1.up s3 s1) (by exact ⟨s5, hs2.up s3 s1⟩) List.mem_cons_self
        rw [hp, hfc]
        rfl
    · cases ha
  · cases ha
theorem div_ok {c : Nat} {f : Int32 → Int32 → Int32} (hfc : f = opS c) (g : gS n0 σ0 T W h0 σ (Γ, C, Δ, A, s) L st h) (hp : pstep E t i L st h = pdiv f i L st h) (ha : a_div ff c i Γ C Δ A s = some outs) : Nx n0 σ0 T W h0 E t i L st h σ Γ.length outs := by
  unfold a_div at ha
  split at ha
  · rename_i y x r
    obtain ⟨w, st, rfl, hv, hs1⟩ := g.2.2.2.2.2.1.cons_inv
    obtain ⟨w', st, rfl, hv', hs2⟩ := hs1.cons_inv
    split at ha
    · rename_i hb
      cases ha
      obtain ⟨u, rfl, hy⟩ := hv.int (isI_t hb.2.1)
      obtain ⟨v, rfl, hx⟩ := hv'.int (isI_t hb.1)
      obtain ⟨σ', s1, s2, s3, s4, s5⟩ := aopS_ok ff c g.2.1 g.2.2.2.1 hx hy
      refine nx2 g s1 s3 s2 s4 (L' := L) (st' := .int (opS c v u) :: st) ?_ (g.2.2.2.2.1.up s3 s1) (by exact ⟨s5, hs2.up s3 s1⟩) List.mem_cons_self
      rw [hp, hfc]
      unfold pdiv
      exact if_neg (nz_ok g.2.1 hy hb.2.2)
    · cases ha
  · cases ha
theorem neg_ok (g : gS n0 σ0 T W h0 σ (Γ, C, Δ, A, s) L st h) (hp : pstep E t i L st h = puni (fun a => .int (-a)) i L st h) (ha : a_neg ff i Γ C Δ A s = some outs) : Nx n0 σ0 T W h0 E t i L st h σ Γ.length outs := by
  unfold a_neg at ha
  split at ha
  · rename_i x r
    obtain ⟨w, st, rfl, hv, hs1⟩ := g.2.2.2.2.2.1.cons_inv
    split at ha
    · rename_i hb
      cases ha
      obtain ⟨v, rfl, hx⟩ := hv.int (isI_t hb)
      obtain ⟨σ', s1, s2, s3, s4, s5⟩ := aopS_ok (v := 0) (x := cn 0) ff 1 g.2.1 g.2.2.2.1 (cnZ 0) hx
      refine nx2 g s1 s3 s2 s4 (L' := L) (st' := .int (opS 1 0 v) :: st) ?_ (g.2.2.2.2.1.up s3 s1) (by exact ⟨s5, hs1.up s3 s1⟩) List.mem_cons_self
      rw [hp]
      show pnx i L (.int (-v) :: st) h = pnx i L (.int (0 - v) :: st) h
      rw [Int32.zero_sub]
    · cases ha
  · cases ha
theorem un_ok {c : Nat} {f : Int32 → Value} (hfc : ∀ a, f a = .int (opS c a 0)) (g : gS n0 σ0 T W h0 σ (Γ, C, Δ, A, s) L st h) (hp : pstep E t i L st h = puni f i L st h) (ha : a_un ff c i Γ C Δ A s = some outs) : Nx n0 σ0 T W h0 E t i L st h σ Γ.length outs := by
  unfold a_un at ha
  split at ha
  · rename_i x r
    obtain ⟨w, st, rfl, hv, hs1⟩ := g.2.2.2.2.2.1.cons_inv
    split at ha
    · rename_i hb
      cases ha
      obtain ⟨v, rfl, hx⟩ := hv.int (isI_t hb)
      obtain ⟨σ', s1, s2, s3, s4, s5⟩ := aopS_ok (u := 0) (y := cn 0) ff c g.2.1 g.2.2.2.1 hx (cnZ 0)
      refine nx2 g s1 s3 s2 s4 (L' := L) (st' := .int (opS c v 0) :: st) ?_ (g.2.2.2.2.1.up s3 s1) (by exact ⟨s5, hs1.up s3 s1⟩) List.mem_cons_self
      rw [hp]
      show pnx i L (f v :: st) h = _
      rw [hfc]
      rfl
    · cases ha
  · cases ha
theorem zG.lift {n : Nat} {z : Int} {x : AV} (hz : zG n σ z x) : zG n σ z (x.1 + 2, x.2.1, x.2.2.1, x.2.2.2) := by
  unfold zG at hz ⊢
  rw [show (x.1 + 2) % 2 = x.1 % 2 by omega]
  exact hz
theorem i2l_ok (g : gS n0 σ0 T W h0 σ (Γ, C, Δ, A, s) L st h) (hp : pstep E t i L st h = puni (fun a => .long a.toInt64) i L st h) (ha : a_i2l i Γ C Δ A s = some outs) : Nx n0 σ0 T W h0 E t i L st h σ Γ.length outs := by
  unfold a_i2l at ha
  split at ha
  · rename_i x r
    obtain ⟨w, st, rfl, hv, hs1⟩ := g.2.2.2.2.2.1.cons_inv
    split at ha
    · rename_i hb
      cases ha
      obtain ⟨v, rfl, hx⟩ := hv.int (isI_t hb)
      refine nx1 g (L' := L) (st' := .long v.toInt64 :: st) ?_ g.2.2.2.2.1 ⟨⟨by have := isI_t hb; dsimp only; omega, by rw [Int32.toInt_toInt64]; exact hx.lift⟩, hs1⟩
      rw [hp]
      rfl
    · cases ha
  · cases ha
theorem bm64 {z : Int} (h1 : -9000000000000 ≤ z) (h2 : z ≤ 9000000000000) : z.bmod (2 ^ 64) = z := Int.bmod_eq_of_le (by omega) (by omega)
theorem ladd_ok (g : gS n0 σ0 T W h0 σ (Γ, C, Δ, A, s) L st h) (hp : pstep E t i L st h = plbin (fun a b => .long (a + b)) i L st h) (ha : a_ladd i Γ C Δ A s = some outs) : Nx n0 σ0 T W h0 E t i L st h σ Γ.length outs := by
  unfold a_ladd at ha
  split at ha
  · rename_i y x r
    obtain ⟨w, st, rfl, hv, hs1⟩ := g.2.2.2.2.2.1.cons_inv
    obtain ⟨w', st, rfl, hv', hs2⟩ := hs1.cons_inv
    split at ha
    · rename_i hb
      obtain ⟨u, rfl, hy⟩ := hv.long (isL_t hb.2)
      obtain ⟨v, rfl, hx⟩ := hv'.long (isL_t hb.1)
      split at ha
      · rename_i p q hp1 hq1
        split at ha
        · rename_i hc
          cases ha
          have h1 := ivl_ok g.2.1 hx hp1
          have h2 := ivl_ok g.2.1 hy hq1
          have e : (v + u).toInt = v.toInt + u.toInt := by rw [Int64.toInt_add]; exact bm64 (by omega) (by omega)
          refine nx1 g (L' := L) (st' := .long (v + u) :: st) ?_ g.2.2.2.2.1 ⟨⟨Or.inl rfl, by rw [e]; exact zG.itv rfl (by omega) (by omega)⟩, hs2⟩
          rw [hp]
          rfl
        · cases ha
      · cases ha
    · cases ha
  · cases ha
theorem lgc (a b : Int64) : (b.toInt < a.toInt ∧ (lg_cmp a b).toInt = 1) ∨ (a.toInt = b.toInt ∧ (lg_cmp a b).toInt = 0) ∨ (a.toInt < b.toInt ∧ (lg_cmp a b).toInt = -1) := by
  have hgt : a > b ↔ b.toInt < a.toInt := Int64.lt_iff_toInt_lt
  have heq : a = b ↔ a.toInt = b.toInt := Int64.toInt_inj.symm
  unfold lg_cmp
  by_cases c1 : b.toInt < a.toInt
  · rw [if_pos (hgt.mpr c1)]
    exact Or.inl ⟨c1, by decide⟩
  · by_cases c2 : a.toInt = b.toInt
    · rw [if_neg (fun q => c1 (hgt.mp q)), if_pos (heq.mpr c2)]
      exact Or.inr (Or.inl ⟨c2, by decide⟩)
    · rw [if_neg (fun q => c1 (hgt.mp q)), if_neg (fun q => c2 (heq.mp q))]
      exact Or.inr (Or.inr ⟨by omega, by decide⟩)
theorem lcn_ok {n : Nat} {x y w : AV} {a b : Int64} (hg : gok σ Γ) (hx : zG n σ a.toInt x) (hy : zG n σ b.toInt y) (h : lcn Γ x y = some w) : w.1 ≤ 1 ∧ zG n σ (lg_cmp a b).toInt w := by
  have c := lgc a b
  unfold lcn at h
  split at h
  · split at h
    · rename_i p q e1 e2
      have b1 := ivl_ok hg hx e1
      have b2 := ivl_ok hg hy e2
      split at h
      · cases h
        exact ⟨Nat.zero_le _, zG.itv rfl (by omega) (by omega)⟩
      · split at h
        · cases h
          exact ⟨Nat.zero_le _, zG.itv rfl (by omega) (by omega)⟩
        · cases h
    · cases h
  · cases h
theorem lcmp_ok (g : gS n0 σ0 T W h0 σ (Γ, C, Δ, A, s) L st h) (hp : pstep E t i L st h = plbin (fun a b => .int (lg_cmp a b)) i L st h) (ha : a_lcmp ff i Γ C Δ A s = some outs) : Nx n0 σ0 T W h0 E t i L st h σ Γ.length outs := by
  unfold a_lcmp at ha
  split at ha
  · rename_i y x r
    obtain ⟨w, st, rfl, hv, hs1⟩ := g.2.2.2.2.2.1.cons_inv
    obtain ⟨w', st, rfl, hv', hs2⟩ := hs1.cons_inv
    split at ha
    · rename_i hb
      obtain ⟨u, rfl, hy⟩ := hv.long (isL_t hb.2)
      obtain ⟨v, rfl, hx⟩ := hv'.long (isL_t hb.1)
      split at ha
      · rename_i w0 hl
        cases ha
        obtain ⟨l1, l2⟩ := lcn_ok g.2.1 hx hy hl
        refine nx1 g (L' := L) (st' := .int (lg_cmp v u) :: st) ?_ g.2.2.2.2.1 ⟨⟨l1, l2⟩, hs2⟩
        rw [hp]
        rfl
      cases ha
      have hgt : v > u ↔ u.toInt < v.toInt := Int64.lt_iff_toInt_lt
      have heq : v = u ↔ v.toInt = u.toInt := Int64.toInt_inj.symm
      by_cases c1 : u.toInt < v.toInt
      · obtain ⟨G, m1, g1, l1⟩ := rfr_ok (z := v.toInt) (z' := u.toInt) 2 g.2.1 hx hy c1
        refine nx_ref g l1 g1 (fadd_ok (r := 2) ff g.2.2.2.1 (by decide) hx hy c1) (L' := L) (st' := .int 1 :: st) ?_ g.2.2.2.2.1 (by exact ⟨⟨Nat.zero_le _, cnZ 1⟩, hs2⟩) (List.mem_append_right _ (List.mem_append_right _ (List.mem_map.mpr ⟨G, m1, rfl⟩)))
        rw [hp]
        show pnx i L (.int (lg_cmp v u) :: st) h = _
        unfold lg_cmp
        rw [if_pos (hgt.mpr c1)]
        rfl
      · by_cases c2 : v.toInt = u.toInt
        · obtain ⟨G, m1, g1, l1⟩ := rfr_ok (z := v.toInt) (z' := u.toInt) 4 g.2.1 hx hy c2
          refine nx_ref g l1 g1 (fadd_ok (r := 4) ff g.2.2.2.1 (by decide) hx hy c2) (L' := L) (st' := .int 0 :: st) ?_ g.2.2.2.2.1 (by exact ⟨⟨Nat.zero_le _, cnZ 0⟩, hs2⟩) (List.mem_append_right _ (List.mem_append_left _ (List.mem_map.mpr ⟨G, m1, rfl⟩)))
          rw [hp]
          show pnx i L (.int (lg_cmp v u) :: st) h = _
          unfold lg_cmp
          rw [if_neg (fun q => c1 (hgt.mp q)), if_pos (heq.mpr c2)]
          rfl
        · have c3 : rel 0 v.toInt u.toInt := by
            show v.toInt < u.toInt
            omega
          obtain ⟨G, m1, g1, l1⟩ := rfr_ok (z := v.toInt) (z' := u.toInt) 0 g.2.1 hx hy c3
          refine nx_ref g l1 g1 (fadd_ok (r := 0) ff g.2.2.2.1 (by decide) hx hy c3) (L' := L) (st' := .int (-1) :: st) ?_ g.2.2.2.2.1 (by exact ⟨⟨Nat.zero_le _, cnZ (-1)⟩, hs2⟩) (List.mem_append_left _ (List.mem_map.mpr ⟨G, m1, rfl⟩))
          rw [hp]
          show pnx i L (.int (lg_cmp v u) :: st) h = _
          unfold lg_cmp
          rw [if_neg (fun q => c1 (hgt.mp q)), if_neg (fun q => c2 (heq.mp q))]
          rfl
    · cases ha
  · cases ha
theorem dup_ok (g : gS n0 σ0 T W h0 σ (Γ, C, Δ, A, s) L st h) (hp : pstep E t i L st h = pdup i L st h) (ha : a_dup i Γ C Δ A s = some outs) : Nx n0 σ0 T W h0 E t i L st h σ Γ.length outs := by
  unfold a_dup at ha
  split at ha
  · rename_i x r
    obtain ⟨w, st, rfl, hv, hs1⟩ := g.2.2.2.2.2.1.cons_inv
    split at ha
    · rename_i hb
      cases ha
      refine nx1 g (L' := L) (st' := w :: w :: st) ?_ g.2.2.2.2.1 ⟨hv, hv, hs1⟩
      rw [hp]
      exact if_pos (isL_f hb hv)
    · cases ha
  · cases ha
theorem dup2_ok (g : gS n0 σ0 T W h0 σ (Γ, C, Δ, A, s) L st h) (hp : pstep E t i L st h = pdup2 i L st h) (ha : a_dup2 i Γ C Δ A s = some outs) : Nx n0 σ0 T W h0 E t i L st h σ Γ.length outs := by
  unfold a_dup2 at ha
  split at ha
  · rename_i x y r
    obtain ⟨w, st, rfl, hv, hs1⟩ := g.2.2.2.2.2.1.cons_inv
    obtain ⟨w', st, rfl, hv', hs2⟩ := hs1.cons_inv
    split at ha
    · rename_i hb
      cases ha
      refine nx1 g (L' := L) (st' := w :: w' :: w :: w' :: st) ?_ g.2.2.2.2.1 ⟨hv, hv', hv, hv', hs2⟩
      rw [hp]
      exact if_pos ⟨isL_f hb.1 hv, isL_f hb.2 hv'⟩
    · cases ha
  · cases ha
theorem pop_ok (g : gS n0 σ0 T W h0 σ (Γ, C, Δ, A, s) L st h) (hp : pstep E t i L st h = ppop i L st h) (ha : a_pop i Γ C Δ A s = some outs) : Nx n0 σ0 T W h0 E t i L st h σ Γ.length outs := by
  unfold a_pop at ha
  split at ha
  · rename_i x r
    obtain ⟨w, st, rfl, hv, hs1⟩ := g.2.2.2.2.2.1.cons_inv
    split at ha
    · rename_i hb
      cases ha
      refine nx1 g (L' := L) (st' := st) ?_ g.2.2.2.2.1 hs1
      rw [hp]
      exact if_pos (isL_f hb hv)
    · cases ha
  · cases ha
theorem if_ok {k : ClassFile.Cond} {q : Nat} {x y : AV} {r : List AV} {st' : List Value} {v u : Int32} (g : gS n0 σ0 T W h0 σ (Γ, C, Δ, A, s) L st h) (hx : zG Γ.length σ v.toInt x) (hy : zG Γ.length σ u.toInt y) (hs : SG Γ.length σ st' r) (hp : pstep E t i L st h = some (cond (pc2 k v u) q (i + 1), L, st', h, 0, 0)) (ha : a_if ff k q i x y Γ C Δ A r = some outs) : Nx n0 σ0 T W h0 E t i L st h σ Γ.length outs := by
  unfold a_if at ha
  cases ha
  cases hb : pc2 k v u with
  | true =>
    have hr := ccd_t hb
    obtain ⟨G, m1, g1, l1⟩ := rfr_ok _ g.2.1 hx hy hr
    refine nx_ref g l1 g1 (fadd_ok ff g.2.2.2.1 (ccd_lt k).1 hx hy hr) (i' := q) (L' := L) (st' := st') (by rw [hp, hb]; rfl) g.2.2.2.2.1 hs (List.mem_append_left _ ?_)
    rw [if_neg (by rw [contra_ok (ccd_lt6 k).1 g.2.2.2.1 hx hy hr]; decide)]
    exact List.mem_map.mpr ⟨G, m1, rfl⟩
  | false =>
    have hr := ccd_f hb
    obtain ⟨G, m1, g1, l1⟩ := rfr_ok _ g.2.1 hx hy hr
    refine nx_ref g l1 g1 (fadd_ok ff g.2.2.2.1 (ccd_lt k).2 hx hy hr) (i' := i + 1) (L' := L) (st' := st') (by rw [hp, hb]; rfl) g.2.2.2.2.1 hs (List.mem_append_right _ ?_)
    rw [if_neg (by rw [contra_ok (ccd_lt6 k).2 g.2.2.2.1 hx hy hr]; decide)]
    exact List.mem_map.mpr ⟨G, m1, rfl⟩
theorem if1_ok {k : ClassFile.Cond} (g : gS n0 σ0 T W h0 σ (Γ, C, Δ, A, s) L st h) (hp : pstep E t i L st h = pif1 k (e_x t) i L st h) (ha : a_if1 ff k t i Γ C Δ A s = some outs) : Nx n0 σ0 T W h0 E t i L st h σ Γ.length outs := by
  unfold a_if1 at ha
  split at ha
  · rename_i x r
    obtain ⟨w, st, rfl, hv, hs1⟩ := g.2.2.2.2.2.1.cons_inv
    split at ha
    · rename_i hb
      obtain ⟨v, rfl, hx⟩ := hv.int (isI_t hb)
      exact if_ok (v := v) (u := 0) (q := e_x t) g hx (cnZ 0) hs1 (by rw [hp]; show some (cond (pc1 k v) (e_x t) (i + 1), L, st, h, 0, 0) = _; rw [pc1_2]) ha
    · cases ha
  · cases ha
theorem if2_ok {k : ClassFile.Cond} (g : gS n0 σ0 T W h0 σ (Γ, C, Δ, A, s) L st h) (hp : pstep E t i L st h = pif2 k (e_x t) i L st h) (ha : a_if2 ff k t i Γ C Δ A s = some outs) : Nx n0 σ0 T W h0 E t i L st h σ Γ.length outs := by
  unfold a_if2 at ha
  split at ha
  · rename_i y x r
    obtain ⟨w, st, rfl, hv, hs1⟩ := g.2.2.2.2.2.1.cons_inv
    obtain ⟨w', st, rfl, hv', hs2⟩ := hs1.cons_inv
    split at ha
    · rename_i hb
      obtain ⟨u, rfl, hy⟩ := hv.int (isI_t hb.2)
      obtain ⟨v, rfl, hx⟩ := hv'.int (isI_t hb.1)
      exact if_ok (v := v) (u := u) (q := e_x t) g hx hy hs2 (by rw [hp]; rfl) ha
    · cases ha
  · cases ha
theorem ifn_ok {b : Bool} (g : gS n0 σ0 T W h0 σ (Γ, C, Δ, A, s) L st h) (hp : pstep E t i L st h = cond b (pifn (e_x t) i L st h) (pifnn (e_x t) i L st h)) (ha : a_ifn b t i Γ C Δ A s = some outs) : Nx n0 σ0 T W h0 E t i L st h σ Γ.length outs := by
  unfold a_ifn at ha
  split at ha
  · rename_i x r
    obtain ⟨w, st, rfl, hv, hs1⟩ := g.2.2.2.2.2.1.cons_inv
    split at ha
    · rename_i hb
      cases ha
      obtain rfl := hv.null hb
      refine nx1 g (L' := L) (st' := st) ?_ g.2.2.2.2.1 hs1
      rw [hp]
      cases b <;> rfl
    · split at ha
      · rename_i hb
        cases ha
        obtain ⟨a, rfl, -⟩ := hv.ref (isP_t hb)
        refine nx1 g (L' := L) (st' := st) ?_ g.2.2.2.2.1 hs1
        rw [hp]
        cases b <;> rfl
      · cases ha
  · cases ha
theorem sw_ok (g : gS n0 σ0 T W h0 σ (Γ, C, Δ, A, s) L st h) (hp : pstep E t i L st h = pswi (pkeys t) (e_x t) i L st h) (ha : a_sw ff t Γ C Δ A s = some outs) : Nx n0 σ0 T W h0 E t i L st h σ Γ.length outs := by
  unfold a_sw at ha
  split at ha
  · rename_i x r
    obtain ⟨w, st, rfl, hv, hs1⟩ := g.2.2.2.2.2.1.cons_inv
    split at ha
    · rename_i hb
      cases ha
      obtain ⟨v, rfl, hx⟩ := hv.int (isI_t hb)
      rcases psw_cases v.toInt (e_x t) (pkeys t) with ⟨k, hk, h1, h2⟩ | ⟨h1, h2⟩
      · obtain ⟨G, m1, g1, l1⟩ := rfr_ok (z := v.toInt) (z' := k.1) 4 g.2.1 hx (cnZ k.1) h1
        refine nx_ref g l1 g1 (fadd_ok (r := 4) ff g.2.2.2.1 (by decide) hx (cnZ k.1) h1) (L' := L) (st' := st) (i' := k.2) ?_ g.2.2.2.2.1 hs1 (List.mem_append_left _ (List.mem_flatMap.mpr ⟨k, hk, List.mem_map.mpr ⟨G, m1, rfl⟩⟩))
        rw [hp]
        show some (psw v.toInt (pkeys t) (e_x t), L, st, h, 0, 0) = _
        rw [h2]
      · obtain ⟨G, m1, g1, l1⟩ := swd_ok hx (pkeys t) g.2.1 h1
        refine nx_ref g l1 g1 (fsw_ok ff hx (pkeys t) g.2.2.2.1 h1) (L' := L) (st' := st) (i' := e_x t) ?_ g.2.2.2.2.1 hs1 (List.mem_append_right _ (List.mem_map.mpr ⟨G, m1, rfl⟩))
        rw [hp]
        show some (psw v.toInt (pkeys t) (e_x t), L, st, h, 0, 0) = _
        rw [h2]
    · cases ha
  · cases ha
theorem nx3 {L' : pL} {st' : List Value} {A' : aL} {s' : List AV} {i' : Nat} {Γ' : aG} {C' : aC} {σ' : Nat → Int} {h' : List pC} (g : gS n0 σ0 T W h0 σ (Γ, C, Δ, A, s) L st h) (ha : agr Γ.length σ σ') (hn : Γ.length ≤ Γ'.length) (hg : gok σ' Γ') (hc : cok Γ'.length σ' h' C') (hH : HI T h' ∧ Fr W h0 h') (hp : pstep E t i L st h = some (i', L', st', h', 0, 0)) (hL : LG Γ.length σ L' A') (hs : SG Γ'.length σ' st' s') (hm : (i', Γ', C', Δ, A', s') ∈ outs) : Nx n0 σ0 T W h0 E t i L st h σ Γ.length outs :=
  ⟨i', _, σ', L', st', h', hm, ha, hn, hp, ⟨Nat.le_trans g.1.1 hn, g.1.2.tr (ha.le g.1.1)⟩, hg, hc, g.2.2.2.1.up hn ha, hL.up hn ha, hs, hH⟩
theorem gf_ok (g : gS n0 σ0 T W h0 σ (Γ, C, Δ, A, s) L st h) (hp : pstep E t i L st h = pgetf t i L st h) (ha : a_gf T t i Γ C Δ A s = some outs) : Nx n0 σ0 T W h0 E t i L st h σ Γ.length outs := by
  unfold a_gf at ha
  split at ha
  · rename_i x r
    obtain ⟨w, st, rfl, hv, hs1⟩ := g.2.2.2.2.2.1.cons_inv
    split at ha
    · rename_i hb
      split at ha
      · rename_i q hq
        cases ha
        obtain ⟨a, rfl, -⟩ := hv.ref (isP_t hb)
        obtain ⟨Γ', C', v'⟩ := q
        obtain ⟨σ', c, w, s1, s2, s3, s4, k1, k2, k3, k4⟩ := ard_ok (i := e_y t) g.2.1 g.2.2.1 g.2.2.2.2.2.2.1 hv (cnZ _) hq
        refine nx3 g s1 s3 s2 s4 g.2.2.2.2.2.2 (L' := L) (st' := w :: st) ?_ g.2.2.2.2.1 (by exact ⟨k4, hs1.up s3 s1⟩) List.mem_cons_self
        rcases c with z | z | z
        · have k2 : 0 = 2 + e_x t := k2
          omega
        · have k2 : 1 = 2 + e_x t := k2
          omega
        · have k2 : 2 + z.1 = 2 + e_x t := k2
          have e1 : z.1 = e_x t := by omega
          unfold ct at k3
          rw [k1] at k3
          have k3 : z.2[e_y t]? = some w := k3
          rw [hp]
          unfold pgetf pobj
          dsimp only
          rw [k1]
          dsimp only
          rw [if_pos e1, k3]
          rfl
      · cases ha
    · cases ha
  · cases ha
theorem afit_ok {ty : FieldType} {x : AV} {v : Int32} (hg : gok σ Γ) (hx : zG Γ.length σ v.toInt x) (hf : afit ty Γ x = true) : pfit ty (.int v) = true := by
  unfold afit at hf
  split at hf
  · rfl
  · split at hf
    · rename_i p hp
      have h1 := ivl_ok hg hx hp
      rw [Bool.and_eq_true] at hf
      have f1 := of_decide_eq_true hf.1
      have f2 := of_decide_eq_true hf.2
      refine decide_eq_true ?_
      have h2 : v.toInt = 0 ∨ v.toInt = 1 := by omega
      rcases h2 with h2 | h2
      · exact Or.inl (i32_eq.mpr h2)
      · exact Or.inr (i32_eq.mpr h2)
    · cases hf
  · cases hf
theorem pf_ok (g : gS n0 σ0 T W h0 σ (Γ, C, Δ, A, s) L st h) (hp : pstep E t i L st h = pputf t i L st h) (ha : a_pf T W t i Γ C Δ A s = some outs) : Nx n0 σ0 T W h0 E t i L st h σ Γ.length outs := by
  unfold a_pf at ha
  split at ha
  · rename_i x y r
    obtain ⟨w, st, rfl, hv, hs1⟩ := g.2.2.2.2.2.1.cons_inv
    obtain ⟨w', st, rfl, hv', hs2⟩ := hs1.cons_inv
    split at ha
    · rename_i hb
      obtain ⟨hb1, hb2, hb3⟩ := hb
      split at ha
      · rename_i C' hC
        cases ha
        obtain ⟨v, rfl, hx⟩ := hv.int (isI_t hb1)
        obtain ⟨a, rfl, -⟩ := hv'.ref (isP_t hb2)
        obtain ⟨q1, q2, q3, c, q4, q5, q6, q7, q8⟩ := awr_ok (i := e_y t) g.2.1 g.2.2.1 g.2.2.2.2.2.2.1 g.2.2.2.2.2.2.2 hv' (cnZ _) hv hC
        refine nx3 g (agr.rf _ _) (Nat.le_refl _) g.2.1 q3 ⟨q1, q2⟩ (L' := L) (st' := st) ?_ g.2.2.2.2.1 hs2 List.mem_cons_self
        rcases c with z | z | z
        · have q5 : 0 = 2 + e_x t := q5
          omega
        · exact absurd rfl (q8 z)
        · have q5 : 2 + z.1 = 2 + e_x t := q5
          have e1 : z.1 = e_x t := by omega
          rw [hp]
          unfold pputf pobj wrC
          dsimp only
          rw [q4]
          dsimp only
          rw [if_pos e1, if_pos (afit_ok g.2.1 hx hb3)]
          rfl
      · cases ha
    · cases ha
  · cases ha
theorem ipos_ok {x : AV} {v : Int32} (hg : gok σ Γ) (hx : zG Γ.length σ v.toInt x) (hf : ipos Γ x = true) : 0 ≤ v ∧ ((v.toNatClampNeg : Nat) : Int) = v.toInt := by
  unfold ipos at hf
  split at hf
  · rename_i p hp
    have h1 := ivl_ok hg hx hp
    have f1 := of_decide_eq_true hf
    have h0 : 0 ≤ v.toInt := by omega
    refine ⟨Int32.le_iff_toInt_le.mpr h0, ?_⟩
    rw [Int32.toNatClampNeg, Int.toNat_of_nonneg h0]
  · cases hf
theorem ald_ok {k : Nat} (hk : (k = 0 ∧ pstep E t i L st h = piald E i L st h) ∨ (k = 1 ∧ pstep E t i L st h = paald i L st h)) (g : gS n0 σ0 T W h0 σ (Γ, C, Δ, A, s) L st h) (ha : a_ald T k i Γ C Δ A s = some outs) : Nx n0 σ0 T W h0 E t i L st h σ Γ.length outs := by
  unfold a_ald at ha
  split at ha
  · rename_i x y r
    obtain ⟨w, st, rfl, hv, hs1⟩ := g.2.2.2.2.2.1.cons_inv
    obtain ⟨w', st, rfl, hv', hs2⟩ := hs1.cons_inv
    split at ha
    · rename_i hb
      obtain ⟨hb1, hb2, hb3⟩ := hb
      split at ha
      · rename_i q hq
        cases ha
        obtain ⟨v, rfl, hx⟩ := hv.int (isI_t hb1)
        obtain ⟨a, rfl, -⟩ := hv'.ref (isP_t hb2)
        obtain ⟨Γ', C', v'⟩ := q
        obtain ⟨p1, p2⟩ := ipos_ok g.2.1 hx hb3
        obtain ⟨σ', c, w, s1, s2, s3, s4, k1, k2, k3, k4⟩ := ard_ok (i := v.toNatClampNeg) g.2.1 g.2.2.1 g.2.2.2.2.2.2.1 hv' (by rw [p2]; exact hx) hq
        refine nx3 g s1 s3 s2 s4 g.2.2.2.2.2.2 (L' := L) (st' := w :: st) ?_ g.2.2.2.2.1 (by exact ⟨k4, hs2.up s3 s1⟩) List.mem_cons_self
        rcases hk with ⟨rfl, hp⟩ | ⟨rfl, hp⟩
        · rcases c with z | z | z
          · unfold ct at k3
            rw [k1] at k3
            have k3 : (if v.toNatClampNeg < z.1 then some (Value.int (z.2 v.toNatClampNeg)) else none) = some w := k3
            split at k3
            · rename_i hlt
              cases k3
              rw [hp]
              unfold piald pint
              dsimp only
              rw [k1]
              dsimp only
              rw [if_pos ⟨p1, hlt⟩]
              rfl
            · cases k3
          · exact absurd (show 1 = 0 from k2) (by decide)
          · exact absurd (show 2 + z.1 = 0 from k2) (by omega)
        · rcases c with z | z | z
          · exact absurd (show 0 = 1 from k2) (by decide)
          · unfold ct at k3
            rw [k1] at k3
            have k3 : (if v.toNatClampNeg < z.2.1 then some (va_rf (z.2.2 v.toNatClampNeg)) else none) = some w := k3
            split at k3
            · rename_i hlt
              cases k3
              rw [hp]
              unfold paald pref
              dsimp only
              rw [k1]
              dsimp only
              rw [if_pos ⟨p1, hlt⟩]
              rfl
            · cases k3
          · exact absurd (show 2 + z.1 = 1 from k2) (by omega)
      · cases ha
    · cases ha
  · cases ha
theorem ast_ok (g : gS n0 σ0 T W h0 σ (Γ, C, Δ, A, s) L st h) (hp : pstep E t i L st h = piast i L st h) (ha : a_ast T W i Γ C Δ A s = some outs) : Nx n0 σ0 T W h0 E t i L st h σ Γ.length outs := by
  unfold a_ast at ha
  split at ha
  · rename_i xv x y r
    obtain ⟨w0, st, rfl, hv0, hs1⟩ := g.2.2.2.2.2.1.cons_inv
    obtain ⟨w, st, rfl, hv, hs2⟩ := hs1.cons_inv
    obtain ⟨w', st, rfl, hv', hs3⟩ := hs2.cons_inv
    split at ha
    · rename_i hb
      obtain ⟨hb0, hb1, hb2, hb3⟩ := hb
      split at ha
      · rename_i C' hC
        cases ha
        obtain ⟨v, rfl, hx0⟩ := hv0.int (isI_t hb0)
        obtain ⟨j, rfl, hx⟩ := hv.int (isI_t hb1)
        obtain ⟨a, rfl, -⟩ := hv'.ref (isP_t hb2)
        obtain ⟨p1, p2⟩ := ipos_ok g.2.1 hx hb3
        obtain ⟨q1, q2, q3, c, q4, q5, q6, q7, q8⟩ := awr_ok (i := j.toNatClampNeg) g.2.1 g.2.2.1 g.2.2.2.2.2.2.1 g.2.2.2.2.2.2.2 hv' (by rw [p2]; exact hx) hv0 hC
        refine nx3 g (agr.rf _ _) (Nat.le_refl _) g.2.1 q3 ⟨q1, q2⟩ (L' := L) (st' := st) ?_ g.2.2.2.2.1 hs3 List.mem_cons_self
        rcases c with z | z | z
        · have hlt := q6 z rfl
          rw [hp]
          unfold piast pint wrC
          dsimp only
          rw [q4]
          dsimp only
          rw [if_pos ⟨p1, hlt⟩]
          rfl
        · exact absurd rfl (q8 z)
        · exact absurd (show 2 + z.1 = 0 from q5) (by omega)
      · cases ha
    · cases ha
  · cases ha
theorem lnT_ok {a m : Nat} (hh : HI T h) (hl : lnT T a = some m) : (∃ x, h[a]? = some (.inl x) ∧ x.1 = m) ∨ (∃ x, h[a]? = some (.inr (.inl x)) ∧ x.2.1 = m) := by
  unfold lnT at hl
  split at hl
  · rename_i t ht
    cases hl
    obtain ⟨c, hc, hty⟩ := hh.2 a _ ht
    rcases c with x | x | x
    · exact Or.inl ⟨x, hc, hty.1⟩
    · exact hty.elim
    · exact hty.elim
  · rename_i t ht
    cases hl
    obtain ⟨c, hc, hty⟩ := hh.2 a _ ht
    rcases c with x | x | x
    · exact hty.elim
    · exact Or.inr ⟨x, hc, hty.2.1⟩
    · exact hty.elim
  · cases hl
theorem ofN_small {m : Nat} (h : m ≤ 100000) : (Int32.ofNat m).toInt = (m : Int) := by
  rw [Int32.toInt_ofNat_of_lt]
  omega
theorem len_ok (g : gS n0 σ0 T W h0 σ (Γ, C, Δ, A, s) L st h) (hp : pstep E t i L st h = palen E i L st h) (ha : a_len T i Γ C Δ A s = some outs) : Nx n0 σ0 T W h0 E t i L st h σ Γ.length outs := by
  unfold a_len at ha
  split at ha
  · rename_i x r
    obtain ⟨w, st, rfl, hv, hs1⟩ := g.2.2.2.2.2.1.cons_inv
    split at ha
    · split at ha
      · rename_i b bs hbs
        split at ha
        · rename_i m hm
          split at ha
          · rename_i hc
            cases ha
            obtain ⟨a, ha', rfl⟩ := adrs_ok g.2.1 hv hbs
            have hl : lnT T a = some m := of_decide_eq_true (List.all_eq_true.mp hc.1 a ha')
            refine nx1 g (L' := L) (st' := .int (Int32.ofNat m) :: st) ?_ g.2.2.2.2.1 ⟨⟨Nat.zero_le _, by rw [ofN_small hc.2]; exact cnZ _⟩, hs1⟩
            rw [hp]
            unfold palen
            dsimp only
            rcases lnT_ok g.2.2.2.2.2.2.1 hl with ⟨z, h1, rfl⟩ | ⟨z, h1, rfl⟩
            · rw [h1]; rfl
            · rw [h1]; rfl
          · cases ha
        · cases ha
      · cases ha
    · cases ha
  · cases ha
theorem astep_ok (g : gS n0 σ0 T W h0 σ (Γ, C, Δ, A, s) L st h) (ha : astep ff T W t i Γ C Δ A s = some outs) : Nx n0 σ0 T W h0 E t i L st h σ Γ.length outs := by
  unfold astep at ha
  split at ha
  · rename_i hin; exact k_ok g (by unfold pstep; rw [hin]) ha
  · rename_i hin; exact k_ok g (by unfold pstep; rw [hin]) ha
  · rename_i hin; exact k_ok g (by unfold pstep; rw [hin]) ha
  · rename_i hin; exact k_ok g (by unfold pstep; rw [hin]) ha
  · rename_i hin; exact k_ok g (by unfold pstep; rw [hin]) ha
  · rename_i hin; exact k_ok g (by unfold pstep; rw [hin]) ha
  · rename_i hin; exact k_ok g (by unfold pstep; rw [hin]) ha
  · rename_i hin
    cases ha
    exact nx1 g (L' := L) (st' := .null :: st) (by unfold pstep; rw [hin]; rfl) g.2.2.2.2.1 ⟨rfl, g.2.2.2.2.2.1⟩
  · rename_i hin; exact ldi_ok g (by unfold pstep; rw [hin]) ha
  · rename_i hin; exact ldi_ok g (by unfold pstep; rw [hin]) ha
  · rename_i hin; exact ldl_ok g (by unfold pstep; rw [hin]) ha
  · rename_i hin; exact ldl_ok g (by unfold pstep; rw [hin]) ha
  · rename_i hin; exact lda_ok g (by unfold pstep; rw [hin]) ha
  · rename_i hin; exact lda_ok g (by unfold pstep; rw [hin]) ha
  · rename_i hin; exact sti_ok g (by unfold pstep; rw [hin]) ha
  · rename_i hin; exact sti_ok g (by unfold pstep; rw [hin]) ha
  · rename_i hin; exact sta_ok g (by unfold pstep; rw [hin]) ha
  · rename_i hin; exact sta_ok g (by unfold pstep; rw [hin]) ha
  · rename_i hin; exact inc_ok g (by unfold pstep; rw [hin]) ha
  · rename_i hin; exact bin_ok (c := 0) rfl g (by unfold pstep; rw [hin]; rfl) ha
  · rename_i hin; exact bin_ok (c := 1) rfl g (by unfold pstep; rw [hin]; rfl) ha
  · rename_i hin; exact bin_ok (c := 2) rfl g (by unfold pstep; rw [hin]; rfl) ha
  · rename_i hin; exact bin_ok (c := 3) rfl g (by unfold pstep; rw [hin]; rfl) ha
  · rename_i hin; exact bin_ok (c := 4) rfl g (by unfold pstep; rw [hin]; rfl) ha
  · rename_i hin; exact bin_ok (c := 5) rfl g (by unfold pstep; rw [hin]; rfl) ha
  · rename_i hin; exact bin_ok (c := 6) rfl g (by unfold pstep; rw [hin]; rfl) ha
  · rename_i hin; exact bin_ok (c := 7) rfl g (by unfold pstep; rw [hin]; rfl) ha
  · rename_i hin; exact bin_ok (c := 8) rfl g (by unfold pstep; rw [hin]; rfl) ha
  · rename_i hin; exact div_ok (c := 10) rfl g (by unfold pstep; rw [hin]; rfl) ha
  · rename_i hin; exact div_ok (c := 9) rfl g (by unfold pstep; rw [hin]; rfl) ha
  · rename_i hin; exact neg_ok g (by unfold pstep; rw [hin]) ha
  · rename_i hin; exact i2l_ok g (by unfold pstep; rw [hin]) ha
  · rename_i hin; exact un_ok (c := 13) (fun _ => rfl) g (by unfold pstep; rw [hin]; rfl) ha
  · rename_i hin; exact ladd_ok g (by unfold pstep; rw [hin]) ha
  · rename_i hin; exact lcmp_ok g (by unfold pstep; rw [hin]) ha
  · rename_i hin; exact dup_ok g (by unfold pstep; rw [hin]) ha
  · rename_i hin; exact dup2_ok g (by unfold pstep; rw [hin]) ha
  · rename_i hin; exact pop_ok g (by unfold pstep; rw [hin]) ha
  · rename_i hin
    cases ha
    exact nx1 g (L' := L) (st' := st) (by unfold pstep; rw [hin]) g.2.2.2.2.1 g.2.2.2.2.2.1
  · rename_i hin; exact if1_ok g (by unfold pstep; rw [hin]) ha
  · rename_i hin; exact if2_ok g (by unfold pstep; rw [hin]) ha
  · rename_i hin; exact ifn_ok g (by unfold pstep; rw [hin]; rfl) ha
  · rename_i hin; exact ifn_ok g (by unfold pstep; rw [hin]; rfl) ha
  · rename_i hin; exact sw_ok g (by unfold pstep; rw [hin]) ha
  · rename_i hin; exact sw_ok g (by unfold pstep; rw [hin]) ha
  · rename_i hin; exact gf_ok g (by unfold pstep; rw [hin]) ha
  · rename_i hin; exact pf_ok g (by unfold pstep; rw [hin]) ha
  · rename_i hin; exact ald_ok (Or.inl ⟨rfl, by unfold pstep; rw [hin]⟩) g ha
  · rename_i hin; exact ast_ok g (by unfold pstep; rw [hin]) ha
  · rename_i hin; exact ald_ok (Or.inr ⟨rfl, by unfold pstep; rw [hin]⟩) g ha
  · rename_i hin; exact len_ok g (by unfold pstep; rw [hin]) ha
  · cases ha
end STP
