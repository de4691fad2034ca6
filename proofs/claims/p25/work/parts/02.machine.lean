/-! ===== THE PURE MACHINE: what the bytecode of the claim's methods does, as a function of pure values; cells are numbered from 0 in the order of their making ===== -/
abbrev pC : Type := (Nat × (Nat → Int32)) ⊕ ((Nat × Nat × (Nat → Option Nat)) ⊕ (Nat × List Value))
abbrev pE : Type := Nat × Instr × Nat × Nat × Value × List Nat
abbrev pM : Type := MethodName × ByteArray × Nat × Option FieldType × Nat × Nat × List pE
abbrev pL : Type := List (Option Value)
abbrev pS : Type := Nat × pL × List Value × List pC × Nat × Nat
abbrev pR : Type := Option Value × List pC × Nat × Nat
abbrev pX : Type := Nat → Option (Nat × (Nat → Int32))
abbrev pV : Type := pM → List Value → List pC → Option (Option Value)
def e_pc (e : pE) : Nat := e.1
def e_in (e : pE) : Instr := e.2.1
def e_x (e : pE) : Nat := e.2.2.1
def e_y (e : pE) : Nat := e.2.2.2.1
def e_v (e : pE) : Value := e.2.2.2.2.1
def e_ts (e : pE) : List Nat := e.2.2.2.2.2
def m_y (M : pM) : MethodName := M.1
def m_b (M : pM) : ByteArray := M.2.1
def m_l (M : pM) : Nat := M.2.2.1
def m_r (M : pM) : Option FieldType := M.2.2.2.1
def m_k (M : pM) : Nat := M.2.2.2.2.1
def m_c (M : pM) : Nat := M.2.2.2.2.2.1
def m_code (M : pM) : List pE := M.2.2.2.2.2.2
def pget (L : pL) (i : Nat) : Option Value := match L[i]? with
  | some v => v
  | none => none
def pcat2 (o : Option Value) : Bool := match o with
  | some (.long _) => true
  | some (.double _) => true
  | _ => false
def pset (L : pL) (i : Nat) (v : Value) : Option pL := if i < L.length then (if pcat2 (pget L (i - 1)) = true then none else some (L.set i (some v))) else none
def pexp : List Value → pL
  | [] => []
  | .long x :: vs => some (.long x) :: none :: pexp vs
  | .double x :: vs => some (.double x) :: none :: pexp vs
  | v :: vs => some v :: pexp vs
def pent (n : Nat) (as : List Value) : pL := pexp as ++ List.replicate (n - (pexp as).length) none
def pcs (st : List Value) : Nat := (st.map fun v => v.category).sum
def pnx (i : Nat) (L : pL) (st : List Value) (h : List pC) : Option pS := some (i + 1, L, st, h, 0, 0)
def pc1 (k : ClassFile.Cond) (a : Int32) : Bool := match k with
  | .eq => decide (a = 0)
  | .ne => decide (¬ a = 0)
  | .lt => decide (a < 0)
  | .ge => decide (0 ≤ a)
  | .gt => decide (0 < a)
  | .le => decide (a ≤ 0)
def pc2 (k : ClassFile.Cond) (a b : Int32) : Bool := match k with
  | .eq => decide (a = b)
  | .ne => decide (¬ a = b)
  | .lt => decide (a < b)
  | .ge => decide (b ≤ a)
  | .gt => decide (b < a)
  | .le => decide (a ≤ b)
def psw (z : Int) : List (Int × Nat) → Nat → Nat
  | [], d => d
  | (k, t) :: r, d => if z = k then t else psw z r d
def pkeysT (lo : Int) : List Nat → List (Int × Nat)
  | [] => []
  | t :: r => (lo, t) :: pkeysT (lo + 1) r
def pkeys (e : pE) : List (Int × Nat) := match e_in e with
  | .tableswitch _ lo _ _ => pkeysT lo (e_ts e)
  | .lookupswitch _ ps => (ps.toList.map (fun q => q.1)).zip (e_ts e)
  | _ => []
def pfit (ty : FieldType) (v : Value) : Bool := match ty, v with
  | .int, .int _ => true
  | .boolean, .int x => decide (x = 0 ∨ x = 1)
  | .object _, .null => true
  | .object _, .ref _ => true
  | .array _, .null => true
  | .array _, .ref _ => true
  | _, _ => false
def pbin (f : Int32 → Int32 → Int32) (i : Nat) (L : pL) (st : List Value) (h : List pC) : Option pS := match st with
  | .int b :: .int a :: r => pnx i L (.int (f a b) :: r) h
  | _ => none
def pldi (e : pE) (i : Nat) (L : pL) (st : List Value) (h : List pC) : Option pS := match pget L (e_x e) with
  | some (.int a) => pnx i L (.int a :: st) h
  | _ => none
def pldl (e : pE) (i : Nat) (L : pL) (st : List Value) (h : List pC) : Option pS := match pget L (e_x e) with
  | some (.long a) => pnx i L (.long a :: st) h
  | _ => none
def plda (e : pE) (i : Nat) (L : pL) (st : List Value) (h : List pC) : Option pS := match pget L (e_x e) with
  | some (.ref a) => pnx i L (.ref a :: st) h
  | some .null => pnx i L (.null :: st) h
  | some (.retAddr a) => pnx i L (.retAddr a :: st) h
  | _ => none
def psto (o : Option pL) (i : Nat) (st : List Value) (h : List pC) : Option pS := match o with
  | some L => pnx i L st h
  | none => none
def psti (e : pE) (i : Nat) (L : pL) (st : List Value) (h : List pC) : Option pS := match st with
  | .int a :: r => psto (pset L (e_x e) (.int a)) i r h
  | _ => none
def psta (e : pE) (i : Nat) (L : pL) (st : List Value) (h : List pC) : Option pS := match st with
  | .ref a :: r => psto (pset L (e_x e) (.ref a)) i r h
  | .null :: r => psto (pset L (e_x e) .null) i r h
  | _ => none
def pinc (n : Int) (e : pE) (i : Nat) (L : pL) (st : List Value) (h : List pC) : Option pS := match pget L (e_x e) with
  | some (.int a) => psto (pset L (e_x e) (.int (a + Int32.ofInt n))) i st h
  | _ => none
def pIn (j : Int32) (n : Nat) : Prop := 0 ≤ j ∧ j.toNatClampNeg < n
def pobj (h : List pC) (a : Nat) : Option (Nat × List Value) := match h[a]? with
  | some (.inr (.inr o)) => some o
  | _ => none
def pint (h : List pC) (a : Nat) : Option (Nat × (Nat → Int32)) := match h[a]? with
  | some (.inl o) => some o
  | _ => none
def pref (h : List pC) (a : Nat) : Option (Nat × Nat × (Nat → Option Nat)) := match h[a]? with
  | some (.inr (.inl o)) => some o
  | _ => none
def pgetf (e : pE) (i : Nat) (L : pL) (st : List Value) (h : List pC) : Option pS := match st with
  | .ref a :: r => match pobj h a with
    | some o => if o.1 = e_x e then (match o.2[e_y e]? with
      | some v => pnx i L (v :: r) h
      | none => none) else none
    | none => none
  | _ => none
def pputf (e : pE) (i : Nat) (L : pL) (st : List Value) (h : List pC) : Option pS := match st with
  | v :: .ref a :: r => match pobj h a with
    | some o => if o.1 = e_x e then (if pfit (ptyp (e_x e) (e_y e)) v = true then pnx i L r (h.set a (.inr (.inr (o.1, o.2.set (e_y e) v)))) else none) else none
    | none => none
  | _ => none
def piald (E : pX) (i : Nat) (L : pL) (st : List Value) (h : List pC) : Option pS := match st with
  | .int j :: .ref a :: r => match pint h a with
    | some x => if 0 ≤ j ∧ j.toNatClampNeg < x.1 then pnx i L (.int (x.2 j.toNatClampNeg) :: r) h else none
    | none => none
  | .int j :: .retAddr k :: r => match E k with
    | some x => if 0 ≤ j ∧ j.toNatClampNeg < x.1 then pnx i L (.int (x.2 j.toNatClampNeg) :: r) h else none
    | none => none
  | _ => none
def piast (i : Nat) (L : pL) (st : List Value) (h : List pC) : Option pS := match st with
  | .int v :: .int j :: .ref a :: r => match pint h a with
    | some x => if 0 ≤ j ∧ j.toNatClampNeg < x.1 then pnx i L r (h.set a (.inl (x.1, va_up x.2 j.toNatClampNeg v))) else none
    | none => none
  | _ => none
def paald (i : Nat) (L : pL) (st : List Value) (h : List pC) : Option pS := match st with
  | .int j :: .ref a :: r => match pref h a with
    | some x => if 0 ≤ j ∧ j.toNatClampNeg < x.2.1 then pnx i L (va_rf (x.2.2 j.toNatClampNeg) :: r) h else none
    | none => none
  | _ => none
def paast (i : Nat) (L : pL) (st : List Value) (h : List pC) : Option pS := match st with
  | .ref v :: .int j :: .ref a :: r => match pref h a, pobj h v with
    | some x, some o => if o.1 = x.1 then (if 0 ≤ j ∧ j.toNatClampNeg < x.2.1 then pnx i L r (h.set a (.inr (.inl (x.1, x.2.1, va_up x.2.2 j.toNatClampNeg (some v))))) else none) else none
    | _, _ => none
  | _ => none
def palen (E : pX) (i : Nat) (L : pL) (st : List Value) (h : List pC) : Option pS := match st with
  | .ref a :: r => match h[a]? with
    | some (.inl x) => pnx i L (.int (Int32.ofNat x.1) :: r) h
    | some (.inr (.inl x)) => pnx i L (.int (Int32.ofNat x.2.1) :: r) h
    | _ => none
  | .retAddr k :: r => match E k with
    | some x => pnx i L (.int (Int32.ofNat x.1) :: r) h
    | none => none
  | _ => none
def pnewc (e : pE) (i : Nat) (L : pL) (st : List Value) (h : List pC) : Option pS := if e_x e < pcls.length then some (i + 1, L, .ref h.length :: st, h ++ [.inr (.inr (e_x e, pini (e_x e)))], 1, (pini (e_x e)).length) else none
def pnewa (i : Nat) (L : pL) (st : List Value) (h : List pC) : Option pS := match st with
  | .int n :: r => if 0 ≤ n ∧ n ≤ 100000 then some (i + 1, L, .ref h.length :: r, h ++ [.inl (n.toNatClampNeg, fun _ => 0)], 1, n.toNatClampNeg) else none
  | _ => none
def pnewq (e : pE) (i : Nat) (L : pL) (st : List Value) (h : List pC) : Option pS := match st with
  | .int n :: r => if e_x e < pcls.length ∧ 0 ≤ n ∧ n ≤ 100000 then some (i + 1, L, .ref h.length :: r, h ++ [.inr (.inl (e_x e, n.toNatClampNeg, fun _ => none))], 1, n.toNatClampNeg) else none
  | _ => none
def pocopy (e : pE) (i : Nat) (L : pL) (st : List Value) (h : List pC) : Option pS := match st with
  | .int n :: .int dp :: .ref a1 :: .int sp :: .ref a0 :: r => if e_x e = 99999 ∧ pcs r ≤ 8 then (match pint h a0, pint h a1 with
    | some x, some y => if 0 ≤ sp ∧ 0 ≤ dp ∧ 0 ≤ n ∧ sp.toNatClampNeg + n.toNatClampNeg ≤ x.1 ∧ dp.toNatClampNeg + n.toNatClampNeg ≤ y.1 then pnx i L r (h.set a1 (.inl (y.1, va_cpy x.2 y.2 sp.toNatClampNeg dp.toNatClampNeg n.toNatClampNeg))) else none
    | _, _ => none) else none
  | _ => none
def pm2 (f : Int32 → Int32 → Int32) (i : Nat) (L : pL) (st : List Value) (h : List pC) : Option pS := match st with
  | .int b :: .int a :: r => if pcs r ≤ 8 then pnx i L (.int (f a b) :: r) h else none
  | _ => none
def pm1 (f : Int32 → Int32) (i : Nat) (L : pL) (st : List Value) (h : List pC) : Option pS := match st with
  | .int a :: r => if pcs r ≤ 8 then pnx i L (.int (f a) :: r) h else none
  | _ => none
/-- the JDK's own: Math.max, min, abs; System.arraycopy -/
def pnats (e : pE) (i : Nat) (L : pL) (st : List Value) (h : List pC) : Option pS :=
  if e_x e = 99990 then pm2 (fun a b => if a < b then b else a) i L st h else if e_x e = 99991 then pm2 (fun a b => if b < a then b else a) i L st h else if e_x e = 99992 then pm1 (fun a => if 0 ≤ a then a else 0 - a) i L st h else pocopy e i L st h
def poini (e : pE) (i : Nat) (L : pL) (st : List Value) (h : List pC) : Option pS := match st with
  | .ref _ :: r => if e_x e = 99999 ∧ pcs r ≤ 8 then pnx i L r h else none
  | _ => none
def pdiv (f : Int32 → Int32 → Int32) (i : Nat) (L : pL) (st : List Value) (h : List pC) : Option pS := match st with
  | .int b :: .int a :: r => if b = 0 then none else pnx i L (.int (f a b) :: r) h
  | _ => none
def puni (f : Int32 → Value) (i : Nat) (L : pL) (st : List Value) (h : List pC) : Option pS := match st with
  | .int a :: r => pnx i L (f a :: r) h
  | _ => none
def plbin (f : Int64 → Int64 → Value) (i : Nat) (L : pL) (st : List Value) (h : List pC) : Option pS := match st with
  | .long b :: .long a :: r => pnx i L (f a b :: r) h
  | _ => none
def pdup (i : Nat) (L : pL) (st : List Value) (h : List pC) : Option pS := match st with
  | v :: r => if v.category = 1 then pnx i L (v :: v :: r) h else none
  | _ => none
def pdup2 (i : Nat) (L : pL) (st : List Value) (h : List pC) : Option pS := match st with
  | v :: w :: r => if v.category = 1 ∧ w.category = 1 then pnx i L (v :: w :: v :: w :: r) h else none
  | _ => none
def ppop (i : Nat) (L : pL) (st : List Value) (h : List pC) : Option pS := match st with
  | v :: r => if v.category = 1 then pnx i L r h else none
  | _ => none
def pif1 (k : ClassFile.Cond) (x i : Nat) (L : pL) (st : List Value) (h : List pC) : Option pS := match st with
  | .int a :: r => some (cond (pc1 k a) x (i + 1), L, r, h, 0, 0)
  | _ => none
def pif2 (k : ClassFile.Cond) (x i : Nat) (L : pL) (st : List Value) (h : List pC) : Option pS := match st with
  | .int b :: .int a :: r => some (cond (pc2 k a b) x (i + 1), L, r, h, 0, 0)
  | _ => none
def pifn (x i : Nat) (L : pL) (st : List Value) (h : List pC) : Option pS := match st with
  | .null :: r => some (x, L, r, h, 0, 0)
  | .ref _ :: r => pnx i L r h
  | _ => none
def pifnn (x i : Nat) (L : pL) (st : List Value) (h : List pC) : Option pS := match st with
  | .null :: r => pnx i L r h
  | .ref _ :: r => some (x, L, r, h, 0, 0)
  | _ => none
def pswi (ks : List (Int × Nat)) (x i : Nat) (L : pL) (st : List Value) (h : List pC) : Option pS := match st with
  | .int a :: r => some (psw a.toInt ks x, L, r, h, 0, 0)
  | _ => none
/-- one instruction that is no call of a method of the program, and no return -/
def pstep (E : pX) (e : pE) (i : Nat) (L : pL) (st : List Value) (h : List pC) : Option pS := match e_in e with
  | .iconst _ => pnx i L (e_v e :: st) h
  | .bipush _ => pnx i L (e_v e :: st) h
  | .sipush _ => pnx i L (e_v e :: st) h
  | .lconst _ => pnx i L (e_v e :: st) h
  | .ldc _ => pnx i L (e_v e :: st) h
  | .ldc_w _ => pnx i L (e_v e :: st) h
  | .ldc2_w _ => pnx i L (e_v e :: st) h
  | .aconst_null => pnx i L (.null :: st) h
  | .iload _ => pldi e i L st h
  | .iload_n _ => pldi e i L st h
  | .lload _ => pldl e i L st h
  | .lload_n _ => pldl e i L st h
  | .aload _ => plda e i L st h
  | .aload_n _ => plda e i L st h
  | .istore _ => psti e i L st h
  | .istore_n _ => psti e i L st h
  | .astore _ => psta e i L st h
  | .astore_n _ => psta e i L st h
  | .iinc _ n => pinc n e i L st h
  | .iadd => pbin (fun a b => a + b) i L st h
  | .isub => pbin (fun a b => a - b) i L st h
  | .imul => pbin (fun a b => a * b) i L st h
  | .iand => pbin (fun a b => a &&& b) i L st h
  | .ior => pbin (fun a b => a ||| b) i L st h
  | .ixor => pbin (fun a b => a ^^^ b) i L st h
  | .ishl => pbin (fun a b => a <<< (b &&& 31)) i L st h
  | .ishr => pbin (fun a b => a >>> (b &&& 31)) i L st h
  | .iushr => pbin (fun a b => (a.toUInt32 >>> (b.toUInt32 &&& Int32.toUInt32 31)).toInt32) i L st h
  | .idiv => pdiv (fun a b => a / b) i L st h
  | .irem => pdiv (fun a b => a - a / b * b) i L st h
  | .ineg => puni (fun a => .int (-a)) i L st h
  | .i2l => puni (fun a => .long a.toInt64) i L st h
  | .i2s => puni (fun a => .int a.toInt16.toInt32) i L st h
  | .i2c => puni (fun a => .int (a.toUInt32 % 65536).toInt32) i L st h
  | .ladd => plbin (fun a b => .long (a + b)) i L st h
  | .lcmp => plbin (fun a b => .int (lg_cmp a b)) i L st h
  | .dup => pdup i L st h
  | .dup2 => pdup2 i L st h
  | .pop => ppop i L st h
  | .goto _ => some (e_x e, L, st, h, 0, 0)
  | .ifCond k _ => pif1 k (e_x e) i L st h
  | .if_icmp k _ => pif2 k (e_x e) i L st h
  | .ifnull _ => pifn (e_x e) i L st h
  | .ifnonnull _ => pifnn (e_x e) i L st h
  | .tableswitch _ _ _ _ => pswi (pkeys e) (e_x e) i L st h
  | .lookupswitch _ _ => pswi (pkeys e) (e_x e) i L st h
  | .getfield _ => pgetf e i L st h
  | .putfield _ => pputf e i L st h
  | .iaload => piald E i L st h
  | .iastore => piast i L st h
  | .aaload => paald i L st h
  | .aastore => paast i L st h
  | .arraylength => palen E i L st h
  | .new _ => pnewc e i L st h
  | .newarray _ => pnewa i L st h
  | .anewarray _ => pnewq e i L st h
  | .invokestatic _ => pnats e i L st h
  | .invokespecial _ => poini e i L st h
  | _ => none
def pret (M : pM) (e : pE) (st : List Value) : Option (Option Value) := match e_in e, st with
  | .return_, [] => match m_r M with
    | none => some none
    | _ => none
  | .ireturn, [.int v] => match m_r M with
    | some .int => some (some (.int v))
    | some .boolean => if v = 0 ∨ v = 1 then some (some (.int v)) else none
    | _ => none
  | .areturn, [.null] => match m_r M with
    | some (.object _) => some (some .null)
    | _ => none
  | .areturn, [.ref a] => match m_r M with
    | some (.object _) => some (some (.ref a))
    | _ => none
  | _, _ => none
/-- a call of a method of the program: it, its arguments, what stays on the stack -/
def pcall (P : List pM) (e : pE) (st : List Value) (h : List pC) : Option (pM × List Value × List Value) := match e_in e with
  | .invokestatic _ => match P[e_x e]? with
    | some M => if m_k M = 0 ∧ e_y e ≤ st.length ∧ pcs (st.drop (e_y e)) ≤ 8 then some (M, (st.take (e_y e)).reverse, st.drop (e_y e)) else none
    | none => none
  | .invokevirtual _ => match P[e_x e]? with
    | some M => match st.drop (e_y e) with
      | .ref b :: r => match pobj h b with
        | some o => if m_k M = 1 ∧ o.1 = m_c M ∧ pcs r ≤ 8 then some (M, .ref b :: (st.take (e_y e)).reverse, r) else none
        | none => none
      | _ => none
    | none => none
  | .invokespecial _ => match P[e_x e]? with
    | some M => match st.drop (e_y e) with
      | .ref b :: r => if m_k M = 2 ∧ pcs r ≤ 8 then some (M, .ref b :: (st.take (e_y e)).reverse, r) else none
      | _ => none
    | none => none
  | _ => none
/-- a run of a method from the instruction of number i to its end: what it answers, the cells behind it, how many were made, of how many slots together -/
def pexec (P : List pM) (E : pX) (V : pV) : Nat → Nat → pM → Nat → pL → List Value → List pC → Option pR
  | 0, _, _, _, _, _, _ => none
  | _ + 1, 0, _, _, _, _, _ => none
  | f + 1, d + 1, M, i, L, st, h => match (m_code M)[i]? with
    | none => none
    | some e => match pret M e st with
      | some r => some (r, h, 0, 0)
      | none => match pcall P e st h with
        | some (N, as, rest) => match m_code N with
          | [] => if 6 ≤ d then (match V N as h with
            | some r => pexec P E V f (d + 1) M (i + 1) L (r.toList ++ rest) h
            | none => none) else none
          | _ :: _ => if (pexp as).length ≤ m_l N then (match pexec P E V f d N 0 (pent (m_l N) as) [] h with
            | some (r, h1, k1, n1) => match pexec P E V f (d + 1) M (i + 1) L (r.toList ++ rest) h1 with
              | some (r2, h2, k2, n2) => some (r2, h2, k1 + k2, n1 + n2)
              | none => none
            | none => none) else none
        | none => match pstep E e i L st h with
          | some (i', L', st', h', dk, dn) => match pexec P E V f (d + 1) M i' L' st' h' with
            | some (r2, h2, k2, n2) => some (r2, h2, dk + k2, dn + n2)
            | none => none
          | none => none
