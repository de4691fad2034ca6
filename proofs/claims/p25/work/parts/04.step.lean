/-! ===== WHEN A TABLE IS THE METHOD'S: checks that the kernel makes ===== -/
def pcOf (code : List pE) (i : Nat) : Nat := match code[i]? with
  | some t => e_pc t
  | none => 0
def ilen (x : Instr) : Nat := match x with
  | .bipush _ => 2
  | .ldc _ => 2
  | .iload _ => 2
  | .lload _ => 2
  | .aload _ => 2
  | .istore _ => 2
  | .astore _ => 2
  | .newarray _ => 2
  | .sipush _ => 3
  | .ldc_w _ => 3
  | .ldc2_w _ => 3
  | .iinc _ _ => 3
  | .goto _ => 3
  | .ifCond _ _ => 3
  | .if_icmp _ _ => 3
  | .ifnull _ => 3
  | .ifnonnull _ => 3
  | .getfield _ => 3
  | .putfield _ => 3
  | .new _ => 3
  | .anewarray _ => 3
  | .invokestatic _ => 3
  | .invokevirtual _ => 3
  | .invokespecial _ => 3
  | _ => 1
def pwdec (b : ByteArray) (t : pE) : Bool := match e_in t with
  | .tableswitch d lo hi os => decide (decode b (e_pc t) = .ok (.tableswitch d lo hi os, e_y t))
  | .lookupswitch d ps => decide (decode b (e_pc t) = .ok (.lookupswitch d ps, e_y t))
  | ins => decide (decode b (e_pc t) = .ok (ins, ilen ins))
def pwnext (code : List pE) (i : Nat) (t : pE) : Bool := match e_in t with
  | .goto _ => true
  | .ireturn => true
  | .areturn => true
  | .return_ => true
  | .tableswitch _ _ _ _ => true
  | .lookupswitch _ _ => true
  | ins => decide (pcOf code (i + 1) = e_pc t + ilen ins)
def pwint (v : Value) : Bool := match v with
  | .int _ => true
  | _ => false
def pwlong (v : Value) : Bool := match v with
  | .long _ => true
  | _ => false
def pnn (P : List pM) (x y : Nat) : Bool := match P[x]? with
  | some N => decide ((parseMethodDescriptor (m_y N).desc).map (fun d => d.parameters.length) = some y)
  | none => true
def pfok (M : pM) (x y : Nat) (w : Bool) : Bool := match pcls[x]? with
  | some q => decide (y < q.2.2) && (!w || (decide ((q.2.1 y).2.2.2 = false) || (decide (m_k M = 2) && decide ((q.2.1 y).1 = (m_y M).cls))))
  | none => false
def pwarg (P : List pM) (M : pM) (t : pE) : Bool := match e_in t with
  | .iconst n => decide (e_v t = .int (Int32.ofInt n))
  | .bipush n => decide (e_v t = .int (Int8.ofInt n).toInt32)
  | .sipush n => decide (e_v t = .int (Int16.ofInt n).toInt32)
  | .lconst n => decide (e_v t = .long (Int64.ofNat (n : Nat)))
  | .ldc _ => pwint (e_v t)
  | .ldc_w _ => pwint (e_v t)
  | .ldc2_w _ => pwlong (e_v t)
  | .iload n => decide (n = e_x t)
  | .lload n => decide (n = e_x t)
  | .aload n => decide (n = e_x t)
  | .istore n => decide (n = e_x t)
  | .astore n => decide (n = e_x t)
  | .iload_n n => decide ((n : Nat) = e_x t)
  | .lload_n n => decide ((n : Nat) = e_x t)
  | .aload_n n => decide ((n : Nat) = e_x t)
  | .istore_n n => decide ((n : Nat) = e_x t)
  | .astore_n n => decide ((n : Nat) = e_x t)
  | .iinc n _ => decide (n = e_x t)
  | .goto off => decide ((e_pc t : Int) + off = (pcOf (m_code M) (e_x t) : Int))
  | .ifCond _ off => decide ((e_pc t : Int) + off = (pcOf (m_code M) (e_x t) : Int))
  | .if_icmp _ off => decide ((e_pc t : Int) + off = (pcOf (m_code M) (e_x t) : Int))
  | .ifnull off => decide ((e_pc t : Int) + off = (pcOf (m_code M) (e_x t) : Int))
  | .ifnonnull off => decide ((e_pc t : Int) + off = (pcOf (m_code M) (e_x t) : Int))
  | .tableswitch d lo hi os => decide ((e_pc t : Int) + d = (pcOf (m_code M) (e_x t) : Int)) && (decide (hi = lo + ((e_ts t).length : Int) - 1) && decide (os.toList.map (fun z => (e_pc t : Int) + z) = (e_ts t).map (fun z => (pcOf (m_code M) z : Int))))
  | .lookupswitch d ps => decide ((e_pc t : Int) + d = (pcOf (m_code M) (e_x t) : Int)) && ((ps.toList.zip (ps.toList.drop 1)).all (fun (a, next) => a.1 < next.1) && decide (ps.toList.map (fun z => (e_pc t : Int) + z.2) = (e_ts t).map (fun z => (pcOf (m_code M) z : Int))))
  | .getfield _ => pfok M (e_x t) (e_y t) false
  | .putfield _ => pfok M (e_x t) (e_y t) true
  | .newarray a => decide (a = .int)
  | .invokestatic _ => pnn P (e_x t) (e_y t)
  | .invokevirtual _ => pnn P (e_x t) (e_y t)
  | .invokespecial _ => pnn P (e_x t) (e_y t)
  | _ => true
def plk (own : String) (k : Nat) (y : MethodName) (v : Value) : Cond := match v with
  | .null => .methodLink own k y
  | _ => .methodLinkNest own k y "StoneSheets"
def pnlk (own : String) (k x : Nat) : List Cond :=
  if x = 99990 then [.methodLink own k Lib.Math.max.name, .static Lib.Math.max.name, .initialized "java/lang/Math", .code Lib.Math.max.name Lib.Math.max.code 2 (some .int)]
  else if x = 99991 then [.methodLink own k Lib.Math.min.name, .static Lib.Math.min.name, .initialized "java/lang/Math", .code Lib.Math.min.name Lib.Math.min.code 2 (some .int)]
  else if x = 99992 then [.methodLink own k Lib.Math.abs.name, .static Lib.Math.abs.name, .initialized "java/lang/Math", .code Lib.Math.abs.name Lib.Math.abs.code 1 (some .int)]
  else [.methodLink own k arraycopyName, .native arraycopyName, .static arraycopyName, .initialized "java/lang/System"]
/-- the words that an instruction links by -/
def plnk (P : List pM) (own : String) (t : pE) : List Cond := match e_in t with
  | .ldc k => match e_v t with
    | .int v => [.constant own k v]
    | _ => []
  | .ldc_w k => match e_v t with
    | .int v => [.constant own k v]
    | _ => []
  | .ldc2_w k => match e_v t with
    | .long v => [.constantLong own k v]
    | _ => []
  | .getfield k => match pcls[e_x t]? with
    | some q => [.fieldLink own k (q.2.1 (e_y t)).1 (q.2.1 (e_y t)).2.1 (q.2.1 (e_y t)).2.2.1]
    | none => []
  | .putfield k => match pcls[e_x t]? with
    | some q => [.fieldLink own k (q.2.1 (e_y t)).1 (q.2.1 (e_y t)).2.1 (q.2.1 (e_y t)).2.2.1]
    | none => []
  | .new k => match pcls[e_x t]? with
    | some q => [.classLink own k q.1, .instantiable q.1 q.2.2, .initialized q.1]
    | none => []
  | .newarray _ => [.arrayClass .int]
  | .anewarray k => match pcls[e_x t]? with
    | some q => [.classLink own k q.1, .arrayOver (.object q.1)]
    | none => []
  | .invokestatic k => match P[e_x t]? with
    | some N => [plk own k (m_y N) (e_v t)]
    | none => pnlk own k (e_x t)
  | .invokevirtual k => match P[e_x t]? with
    | some N => [.methodLink own k (m_y N)]
    | none => []
  | .invokespecial k => match P[e_x t]? with
    | some N => [plk own k (m_y N) (e_v t)]
    | none => [.methodLink own k Lib.objectInit, .instanceMethod Lib.objectInit, .code Lib.objectInit ⟨#[0xb1]⟩ 1 none]
  | _ => []
def plnks (P : List pM) (M : pM) : List Cond := (m_code M).flatMap (plnk P (m_y M).cls)
/-- the words by which a method is called -/
def pmw (M : pM) : List Cond := match m_k M with
  | 0 => [.code (m_y M) (m_b M) (m_l M) (m_r M), .static (m_y M), .initialized (m_y M).cls]
  | 1 => [.code (m_y M) (m_b M) (m_l M) (m_r M), .instanceMethod (m_y M), .selects (m_y M).cls (m_y M) (m_y M), .initialized (m_y M).cls]
  | _ => [.code (m_y M) (m_b M) (m_l M) (m_r M), .instanceMethod (m_y M), .initialized (m_y M).cls]
def pwAll (P : List pM) (M : pM) : Nat → List pE → Bool
  | _, [] => true
  | i, t :: r => (pwdec (m_b M) t && (pwnext (m_code M) i t && pwarg P M t)) && pwAll P M (i + 1) r
def pmB (M : pM) : Bool := plainName (m_y M).cls && (decide ((m_y M).cls ≠ "java/lang/invoke/MethodHandle") && (decide ((m_y M).cls ≠ "java/lang/invoke/VarHandle") && (decide (m_l M ≤ 21 ∧ pcOf (m_code M) 0 = 0) && (match m_k M with
  | 0 => true
  | 1 => decide ((pcls[m_c M]?).map (fun q => q.1) = some (m_y M).cls)
  | _ => decide (m_k M = 2) && (decide ((m_y M).name = "<init>") && decide (m_r M = none))))))
def pwB (P : List pM) (M : pM) : Bool := pmB M && pwAll P M 0 (m_code M)
def nword (w : Cond) : Bool := match w with
  | .methodLinkNest _ _ _ _ => true
  | .arrayOver (.object _) => true
  | _ => false
def uword (w : Cond) : Bool := goodWord w || nword w
def utbl : List Cond := lw_tbl.filter uword
def gtbl : List Cond := lw_tbl.filter goodWord
theorem in_of {ws : List Cond} {ps : List Nat} (h : ws = ps.filterMap (fun i => lw_tbl[i]?)) (hu : ws.all uword = true) : ∀ w ∈ ws, w ∈ utbl := by
  intro w hw
  refine List.mem_filter.mpr ⟨?_, List.all_eq_true.mp hu w hw⟩
  rw [h] at hw
  obtain ⟨i, -, hi⟩ := List.mem_filterMap.mp hw
  exact List.mem_of_getElem? hi
def WFe (P : List pM) (M : pM) : Prop := pwAll P M 0 (m_code M) = true ∧ ∀ w ∈ plnks P M, w ∈ utbl
def WFm (P : List pM) (M : pM) : Prop := WFe P M ∧ pmB M = true ∧ ∀ w ∈ pmw M, w ∈ utbl
theorem WFm.of {P : List pM} {M : pM} {ps qs : List Nat} (h1 : pwB P M = true) (h2 : plnks P M = ps.filterMap (fun i => lw_tbl[i]?)) (h3 : pmw M = qs.filterMap (fun i => lw_tbl[i]?)) (hu : (plnks P M ++ pmw M).all uword = true) : WFm P M := by
  unfold pwB at h1
  rw [Bool.and_eq_true] at h1
  rw [List.all_append, Bool.and_eq_true] at hu
  exact ⟨⟨h1.2, in_of h2 hu.1⟩, h1.1, in_of h3 hu.2⟩
theorem pwAll_at {P : List pM} {M : pM} : ∀ (l : List pE) (i j : Nat) (t : pE), pwAll P M i l = true → l[j]? = some t → (pwdec (m_b M) t && (pwnext (m_code M) (i + j) t && pwarg P M t)) = true
  | [], i, j, t, _, h => by simp at h
  | u :: r, i, j, t, hw, h => by
    unfold pwAll at hw
    rw [Bool.and_eq_true] at hw
    cases j with
    | zero =>
      rw [List.getElem?_cons_zero] at h
      cases h
      exact hw.1
    | succ j =>
      rw [List.getElem?_cons_succ] at h
      have := pwAll_at r (i + 1) j t hw.2 h
      rw [show i + (j + 1) = i + 1 + j by omega]
      exact this
/-! ===== A POINT OF A RUN, on the machine ===== -/
/-- what the law knew at its entry, of a state that came out of it: the tables' words, the given premises, the low cells -/
def GS (bs : Nat) (U : State) : Prop := ∃ (A : Array Value) (s0 : State), (∀ w ∈ lw_tbl, w.before A s0 = true) ∧ (Jvm.Cond.and given_1 narrow_1).before A s0 = true ∧ s0.WarmedH U.vm ∧ s0.heap.size = bs ∧ ∀ q : Nat, q < bs → U.heap[q]? = s0.heap[q]?
theorem GS.same {bs : Nat} {u U : State} (hv : u.vm = U.vm) (hh : U.heap = u.heap) (hp : GS bs u) : GS bs U := by
  obtain ⟨A, s0, h1, h2, h3, h4, h5⟩ := hp
  exact ⟨A, s0, h1, h2, by rw [← hv]; exact h3, h4, fun q hq => by rw [hh]; exact h5 q hq⟩
theorem GS.warm {bs : Nat} {s U : State} (hW : s.WarmedH U.vm) (hl : ∀ q : Nat, q < bs → U.heap[q]? = s.heap[q]?) (hp : GS bs s) : GS bs U := by
  obtain ⟨A, s0, h1, h2, h3, h4, h5⟩ := hp
  exact ⟨A, s0, h1, h2, h3.trans hW, h4, fun q hq => (hl q hq).trans (h5 q hq)⟩
def Cx (p : Program) (s : State) (m : MethodId) (args : Array Value) (meth : Method) (c : Code) (D : va_G) (X : Nat → Nat) (bs : Nat) (E : pX) (M : pM) : Prop :=
  p.tables.exec = Jvm.exec ∧ c.code = m_b M ∧ c.maxLocals = m_l M ∧ s.vm.findClass (m_y M).cls = some m.cls ∧ (∀ w ∈ utbl, w.before args s = true) ∧ va_K D pcls [] s ∧ (∀ (k : Nat) (x : Nat × (Nat → Int32)), E k = some x → va_X (X k) x.1 x.2 s s.heap ∧ X k < bs) ∧ ((m_k M = 2 → meth.name = "<init>") ∧ GS bs s)
section PWS
variable {p : Program} {l : Launch} {e : Env} {R : Room} {s : State} {m : MethodId} {args : Array Value} {below : List Frame} {meth : Method} {c : Code} {Q : State → Prop} {D : va_G} {X : Nat → Nat} {bs : Nat} {E : pX} {P : List pM} {M : pM}
def PW (p : Program) (l : Launch) (e : Env) (R : Room) (s : State) (m : MethodId) (args : Array Value) (below : List Frame) (meth : Method) (c : Code) (Q : State → Prop) (D : va_G) (X : Nat → Nat) (bs : Nat) (M : pM) (i : Nat) (L : pL) (st : List Value) (h : List pC) (cells slots : Nat) : Prop :=
  ∀ (H : Heap) (locs : List Loc) (ls : Array Slot), Rep D X bs s h H → LH X bs ls (m_l M) L → (∀ q : Nat, q < bs → H[q]? = s.heap[q]?) → (∀ x ∈ locs, bs ≤ x.base) → W p l e R s m args below meth c H locs cells slots Q (F0 m (pcOf (m_code M) i) ls (st.map (emb X bs)))
def SWc (p : Program) (s : State) (m : MethodId) (args : Array Value) (meth : Method) (c : Code) (D : va_G) (X : Nat → Nat) (bs : Nat) (E : pX) (P : List pM) (M : pM) (i : Nat) (t : pE) : Prop :=
  Cx p s m args meth c D X bs E M ∧ (m_code M)[i]? = some t ∧ pwdec (m_b M) t = true ∧ pwnext (m_code M) i t = true ∧ pwarg P M t = true ∧ ∀ w ∈ plnk P (m_y M).cls t, w ∈ utbl
variable {i pc x y : Nat} {v : Value} {ts : List Nat} {L L' : pL} {st st' r : List Value} {h h' : List pC} {cells slots : Nat}
theorem pcOf_at {t : pE} (he : (m_code M)[i]? = some t) : pcOf (m_code M) i = e_pc t := by
  unfold pcOf
  rw [he]
theorem pw_st {len : Nat} (hpc : pcOf (m_code M) i = pc) (hn : pcOf (m_code M) (i + 1) = pc + len) (k : PW p l e R s m args below meth c Q D X bs M (i + 1) L st' h cells slots)
    (row : ∀ (H : Heap) (locs : List Loc) (ls : Array Slot), LH X bs ls (m_l M) L → W p l e R s m args below meth c H locs cells slots Q (F0 m (pc + len) ls (st'.map (emb X bs))) → W p l e R s m args below meth c H locs cells slots Q (F0 m pc ls (st.map (emb X bs)))) : PW p l e R s m args below meth c Q D X bs M i L st h cells slots := by
  intro H locs ls HR HL h1 h2
  rw [hpc]
  refine row H locs ls HL ?_
  rw [← hn]
  exact k H locs ls HR HL h1 h2
theorem pw_sto {len : Nat} {w : Value} (hpc : pcOf (m_code M) i = pc) (hn : pcOf (m_code M) (i + 1) = pc + len) (hp : pset L x w = some L') (k : PW p l e R s m args below meth c Q D X bs M (i + 1) L' st' h cells slots)
    (row : ∀ (H : Heap) (locs : List Loc) (ls : Array Slot), LH X bs ls (m_l M) L → x < m_l M → lv_has ls (m_l M) (pLl X bs L) → (∀ ls' : Array Slot, lv_has ls' (m_l M) ((x, emb X bs w) :: (pLl X bs L).filter (fun q => !(q.1 == x) && !(q.1 + 1 == x && q.2.category == 2))) → W p l e R s m args below meth c H locs cells slots Q (F0 m (pc + len) ls' (st'.map (emb X bs)))) → W p l e R s m args below meth c H locs cells slots Q (F0 m pc ls (st.map (emb X bs)))) : PW p l e R s m args below meth c Q D X bs M i L st h cells slots := by
  intro H locs ls HR HL h1 h2
  rw [hpc]
  refine row H locs ls HL (by have := pset_lt hp; rw [HL.2.1] at this; exact this) HL.has (fun ls' hl => ?_)
  rw [← hn]
  exact k H locs ls' HR (LH.of HL.2.1 hp hl) h1 h2
theorem pw_j {j tgt : Nat} (hpc : pcOf (m_code M) i = pc) (hj : pcOf (m_code M) j = tgt) (k : PW p l e R s m args below meth c Q D X bs M j L st' h cells slots)
    (row : ∀ (H : Heap) (locs : List Loc) (ls : Array Slot), W p l e R s m args below meth c H locs cells slots Q (F0 m tgt ls (st'.map (emb X bs))) → W p l e R s m args below meth c H locs cells slots Q (F0 m pc ls (st.map (emb X bs)))) : PW p l e R s m args below meth c Q D X bs M i L st h cells slots := by
  intro H locs ls HR HL h1 h2
  rw [hpc]
  refine row H locs ls ?_
  rw [← hj]
  exact k H locs ls HR HL h1 h2

theorem sw_iconst {n : Int} (B : SWc p s m args meth c D X bs E P M i (pc, .iconst n, x, y, v, ts)) (k : PW p l e R s m args below meth c Q D X bs M (i + 1) L (v :: st) h cells slots) : PW p l e R s m args below meth c Q D X bs M i L (st) h cells slots := by
  obtain ⟨C, he, hd0, hn0, ha0, hl⟩ := B
  have hd : decode (m_b M) pc = .ok (.iconst n, 1) := of_decide_eq_true hd0
  have hn : pcOf (m_code M) (i + 1) = pc + 1 := of_decide_eq_true hn0
  have ha : v = .int (Int32.ofInt n) := of_decide_eq_true ha0
  subst ha
  exact pw_st (pcOf_at he) hn k (fun H locs ls HL w => lv_iconst C.1 C.2.1 hd rfl w)
theorem sw_bipush {n : Int} (B : SWc p s m args meth c D X bs E P M i (pc, .bipush n, x, y, v, ts)) (k : PW p l e R s m args below meth c Q D X bs M (i + 1) L (v :: st) h cells slots) : PW p l e R s m args below meth c Q D X bs M i L (st) h cells slots := by
  obtain ⟨C, he, hd0, hn0, ha0, hl⟩ := B
  have hd : decode (m_b M) pc = .ok (.bipush n, 2) := of_decide_eq_true hd0
  have hn : pcOf (m_code M) (i + 1) = pc + 2 := of_decide_eq_true hn0
  have ha : v = .int (Int8.ofInt n).toInt32 := of_decide_eq_true ha0
  subst ha
  exact pw_st (pcOf_at he) hn k (fun H locs ls HL w => lv_bipush C.1 C.2.1 hd rfl w)
theorem sw_sipush {n : Int} (B : SWc p s m args meth c D X bs E P M i (pc, .sipush n, x, y, v, ts)) (k : PW p l e R s m args below meth c Q D X bs M (i + 1) L (v :: st) h cells slots) : PW p l e R s m args below meth c Q D X bs M i L (st) h cells slots := by
  obtain ⟨C, he, hd0, hn0, ha0, hl⟩ := B
  have hd : decode (m_b M) pc = .ok (.sipush n, 3) := of_decide_eq_true hd0
  have hn : pcOf (m_code M) (i + 1) = pc + 3 := of_decide_eq_true hn0
  have ha : v = .int (Int16.ofInt n).toInt32 := of_decide_eq_true ha0
  subst ha
  exact pw_st (pcOf_at he) hn k (fun H locs ls HL w => lv_sipush C.1 C.2.1 hd rfl w)
theorem sw_lconst {n : Fin 2} (B : SWc p s m args meth c D X bs E P M i (pc, .lconst n, x, y, v, ts)) (k : PW p l e R s m args below meth c Q D X bs M (i + 1) L (v :: st) h cells slots) : PW p l e R s m args below meth c Q D X bs M i L (st) h cells slots := by
  obtain ⟨C, he, hd0, hn0, ha0, hl⟩ := B
  have hd : decode (m_b M) pc = .ok (.lconst n, 1) := of_decide_eq_true hd0
  have hn : pcOf (m_code M) (i + 1) = pc + 1 := of_decide_eq_true hn0
  have ha : v = .long (Int64.ofNat (n : Nat)) := of_decide_eq_true ha0
  subst ha
  exact pw_st (pcOf_at he) hn k (fun H locs ls HL w => lv_lconst C.1 C.2.1 hd rfl w)
theorem sw_ldc {n : Nat} (B : SWc p s m args meth c D X bs E P M i (pc, .ldc n, x, y, v, ts)) (k : PW p l e R s m args below meth c Q D X bs M (i + 1) L (v :: st) h cells slots) : PW p l e R s m args below meth c Q D X bs M i L (st) h cells slots := by
  obtain ⟨C, he, hd0, hn0, ha0, hl⟩ := B
  have hd : decode (m_b M) pc = .ok (.ldc n, 2) := of_decide_eq_true hd0
  have hn : pcOf (m_code M) (i + 1) = pc + 2 := of_decide_eq_true hn0
  have ha : pwint v = true := ha0
  cases v <;> try (cases ha; done)
  rename_i z
  have hc : (Jvm.Cond.constant (m_y M).cls n z).before args s = true := C.2.2.2.2.1 _ (hl _ List.mem_cons_self)
  exact pw_st (pcOf_at he) hn k (fun H locs ls HL w => lv_ldc C.1 C.2.1 C.2.2.2.1 hc hd w)
theorem sw_ldc_w {n : Nat} (B : SWc p s m args meth c D X bs E P M i (pc, .ldc_w n, x, y, v, ts)) (k : PW p l e R s m args below meth c Q D X bs M (i + 1) L (v :: st) h cells slots) : PW p l e R s m args below meth c Q D X bs M i L (st) h cells slots := by
  obtain ⟨C, he, hd0, hn0, ha0, hl⟩ := B
  have hd : decode (m_b M) pc = .ok (.ldc_w n, 3) := of_decide_eq_true hd0
  have hn : pcOf (m_code M) (i + 1) = pc + 3 := of_decide_eq_true hn0
  have ha : pwint v = true := ha0
  cases v <;> try (cases ha; done)
  rename_i z
  have hc : (Jvm.Cond.constant (m_y M).cls n z).before args s = true := C.2.2.2.2.1 _ (hl _ List.mem_cons_self)
  exact pw_st (pcOf_at he) hn k (fun H locs ls HL w => lv_ldcw C.1 C.2.1 C.2.2.2.1 hc hd w)
theorem sw_ldc2_w {n : Nat} (B : SWc p s m args meth c D X bs E P M i (pc, .ldc2_w n, x, y, v, ts)) (k : PW p l e R s m args below meth c Q D X bs M (i + 1) L (v :: st) h cells slots) : PW p l e R s m args below meth c Q D X bs M i L (st) h cells slots := by
  obtain ⟨C, he, hd0, hn0, ha0, hl⟩ := B
  have hd : decode (m_b M) pc = .ok (.ldc2_w n, 3) := of_decide_eq_true hd0
  have hn : pcOf (m_code M) (i + 1) = pc + 3 := of_decide_eq_true hn0
  have ha : pwlong v = true := ha0
  cases v <;> try (cases ha; done)
  rename_i z
  have hc : (Jvm.Cond.constantLong (m_y M).cls n z).before args s = true := C.2.2.2.2.1 _ (hl _ List.mem_cons_self)
  exact pw_st (pcOf_at he) hn k (fun H locs ls HL w => lv_ldc2 C.1 C.2.1 C.2.2.2.1 hc hd w)
theorem sw_aconst_null  (B : SWc p s m args meth c D X bs E P M i (pc, .aconst_null, x, y, v, ts))  (k : PW p l e R s m args below meth c Q D X bs M (i + 1) L (.null :: st) h cells slots) : PW p l e R s m args below meth c Q D X bs M i L (st) h cells slots := by
  obtain ⟨C, he, hd0, hn0, ha0, hl⟩ := B
  have hd : decode (m_b M) pc = .ok (.aconst_null, 1) := of_decide_eq_true hd0
  have hn : pcOf (m_code M) (i + 1) = pc + 1 := of_decide_eq_true hn0
  exact pw_st (pcOf_at he) hn k (fun H locs ls HL w => lv_null C.1 C.2.1 hd w)
theorem sw_iload {n : Nat} {a : Int32} (B : SWc p s m args meth c D X bs E P M i (pc, .iload n, x, y, v, ts)) (hv : pget L x = some (.int a)) (k : PW p l e R s m args below meth c Q D X bs M (i + 1) L (.int a :: st) h cells slots) : PW p l e R s m args below meth c Q D X bs M i L (st) h cells slots := by
  obtain ⟨C, he, hd0, hn0, ha0, hl⟩ := B
  have hd : decode (m_b M) pc = .ok (.iload n, 2) := of_decide_eq_true hd0
  have hn : pcOf (m_code M) (i + 1) = pc + 2 := of_decide_eq_true hn0
  have ha : n = x := of_decide_eq_true ha0
  subst ha
  exact pw_st (pcOf_at he) hn k (fun H locs ls HL w => lv_iload C.1 C.2.1 hd (HL.2.2 _ _ hv) w)
theorem sw_iload_n {n : Fin 4} {a : Int32} (B : SWc p s m args meth c D X bs E P M i (pc, .iload_n n, x, y, v, ts)) (hv : pget L x = some (.int a)) (k : PW p l e R s m args below meth c Q D X bs M (i + 1) L (.int a :: st) h cells slots) : PW p l e R s m args below meth c Q D X bs M i L (st) h cells slots := by
  obtain ⟨C, he, hd0, hn0, ha0, hl⟩ := B
  have hd : decode (m_b M) pc = .ok (.iload_n n, 1) := of_decide_eq_true hd0
  have hn : pcOf (m_code M) (i + 1) = pc + 1 := of_decide_eq_true hn0
  have ha : (n : Nat) = x := of_decide_eq_true ha0
  exact pw_st (pcOf_at he) hn k (fun H locs ls HL w => lv_iload_n C.1 C.2.1 hd ha (HL.2.2 _ _ hv) w)
theorem sw_lload {n : Nat} {a : Int64} (B : SWc p s m args meth c D X bs E P M i (pc, .lload n, x, y, v, ts)) (hv : pget L x = some (.long a)) (k : PW p l e R s m args below meth c Q D X bs M (i + 1) L (.long a :: st) h cells slots) : PW p l e R s m args below meth c Q D X bs M i L (st) h cells slots := by
  obtain ⟨C, he, hd0, hn0, ha0, hl⟩ := B
  have hd : decode (m_b M) pc = .ok (.lload n, 2) := of_decide_eq_true hd0
  have hn : pcOf (m_code M) (i + 1) = pc + 2 := of_decide_eq_true hn0
  have ha : n = x := of_decide_eq_true ha0
  subst ha
  exact pw_st (pcOf_at he) hn k (fun H locs ls HL w => lv_lload C.1 C.2.1 hd (HL.2.2 _ _ hv) w)
theorem sw_lload_n {n : Fin 4} {a : Int64} (B : SWc p s m args meth c D X bs E P M i (pc, .lload_n n, x, y, v, ts)) (hv : pget L x = some (.long a)) (k : PW p l e R s m args below meth c Q D X bs M (i + 1) L (.long a :: st) h cells slots) : PW p l e R s m args below meth c Q D X bs M i L (st) h cells slots := by
  obtain ⟨C, he, hd0, hn0, ha0, hl⟩ := B
  have hd : decode (m_b M) pc = .ok (.lload_n n, 1) := of_decide_eq_true hd0
  have hn : pcOf (m_code M) (i + 1) = pc + 1 := of_decide_eq_true hn0
  have ha : (n : Nat) = x := of_decide_eq_true ha0
  exact pw_st (pcOf_at he) hn k (fun H locs ls HL w => lv_lload_n C.1 C.2.1 hd ha (HL.2.2 _ _ hv) w)
theorem sw_aload {n : Nat} {a : Nat} (B : SWc p s m args meth c D X bs E P M i (pc, .aload n, x, y, v, ts)) (hv : pget L x = some (.ref a)) (k : PW p l e R s m args below meth c Q D X bs M (i + 1) L (.ref a :: st) h cells slots) : PW p l e R s m args below meth c Q D X bs M i L (st) h cells slots := by
  obtain ⟨C, he, hd0, hn0, ha0, hl⟩ := B
  have hd : decode (m_b M) pc = .ok (.aload n, 2) := of_decide_eq_true hd0
  have hn : pcOf (m_code M) (i + 1) = pc + 2 := of_decide_eq_true hn0
  have ha : n = x := of_decide_eq_true ha0
  subst ha
  exact pw_st (pcOf_at he) hn k (fun H locs ls HL w => lv_aload C.1 C.2.1 hd (HL.2.2 _ _ hv) w)
theorem sw_aload_n {n : Fin 4} {a : Nat} (B : SWc p s m args meth c D X bs E P M i (pc, .aload_n n, x, y, v, ts)) (hv : pget L x = some (.ref a)) (k : PW p l e R s m args below meth c Q D X bs M (i + 1) L (.ref a :: st) h cells slots) : PW p l e R s m args below meth c Q D X bs M i L (st) h cells slots := by
  obtain ⟨C, he, hd0, hn0, ha0, hl⟩ := B
  have hd : decode (m_b M) pc = .ok (.aload_n n, 1) := of_decide_eq_true hd0
  have hn : pcOf (m_code M) (i + 1) = pc + 1 := of_decide_eq_true hn0
  have ha : (n : Nat) = x := of_decide_eq_true ha0
  exact pw_st (pcOf_at he) hn k (fun H locs ls HL w => lv_aload_n C.1 C.2.1 hd ha (HL.2.2 _ _ hv) w)
theorem sw_aloadN {n : Nat}  (B : SWc p s m args meth c D X bs E P M i (pc, .aload n, x, y, v, ts)) (hv : pget L x = some (.null)) (k : PW p l e R s m args below meth c Q D X bs M (i + 1) L (.null :: st) h cells slots) : PW p l e R s m args below meth c Q D X bs M i L (st) h cells slots := by
  obtain ⟨C, he, hd0, hn0, ha0, hl⟩ := B
  have hd : decode (m_b M) pc = .ok (.aload n, 2) := of_decide_eq_true hd0
  have hn : pcOf (m_code M) (i + 1) = pc + 2 := of_decide_eq_true hn0
  have ha : n = x := of_decide_eq_true ha0
  subst ha
  exact pw_st (pcOf_at he) hn k (fun H locs ls HL w => lv_aloadN C.1 C.2.1 hd (HL.2.2 _ _ hv) w)
theorem sw_aload_nN {n : Fin 4}  (B : SWc p s m args meth c D X bs E P M i (pc, .aload_n n, x, y, v, ts)) (hv : pget L x = some (.null)) (k : PW p l e R s m args below meth c Q D X bs M (i + 1) L (.null :: st) h cells slots) : PW p l e R s m args below meth c Q D X bs M i L (st) h cells slots := by
  obtain ⟨C, he, hd0, hn0, ha0, hl⟩ := B
  have hd : decode (m_b M) pc = .ok (.aload_n n, 1) := of_decide_eq_true hd0
  have hn : pcOf (m_code M) (i + 1) = pc + 1 := of_decide_eq_true hn0
  have ha : (n : Nat) = x := of_decide_eq_true ha0
  exact pw_st (pcOf_at he) hn k (fun H locs ls HL w => lv_aload_nN C.1 C.2.1 hd ha (HL.2.2 _ _ hv) w)
theorem sw_aloadX {n : Nat} {a : Nat} (B : SWc p s m args meth c D X bs E P M i (pc, .aload n, x, y, v, ts)) (hv : pget L x = some (.retAddr a)) (k : PW p l e R s m args below meth c Q D X bs M (i + 1) L (.retAddr a :: st) h cells slots) : PW p l e R s m args below meth c Q D X bs M i L (st) h cells slots := by
  obtain ⟨C, he, hd0, hn0, ha0, hl⟩ := B
  have hd : decode (m_b M) pc = .ok (.aload n, 2) := of_decide_eq_true hd0
  have hn : pcOf (m_code M) (i + 1) = pc + 2 := of_decide_eq_true hn0
  have ha : n = x := of_decide_eq_true ha0
  subst ha
  exact pw_st (pcOf_at he) hn k (fun H locs ls HL w => lv_aload C.1 C.2.1 hd (HL.2.2 _ _ hv) w)
theorem sw_aload_nX {n : Fin 4} {a : Nat} (B : SWc p s m args meth c D X bs E P M i (pc, .aload_n n, x, y, v, ts)) (hv : pget L x = some (.retAddr a)) (k : PW p l e R s m args below meth c Q D X bs M (i + 1) L (.retAddr a :: st) h cells slots) : PW p l e R s m args below meth c Q D X bs M i L (st) h cells slots := by
  obtain ⟨C, he, hd0, hn0, ha0, hl⟩ := B
  have hd : decode (m_b M) pc = .ok (.aload_n n, 1) := of_decide_eq_true hd0
  have hn : pcOf (m_code M) (i + 1) = pc + 1 := of_decide_eq_true hn0
  have ha : (n : Nat) = x := of_decide_eq_true ha0
  exact pw_st (pcOf_at he) hn k (fun H locs ls HL w => lv_aload_n C.1 C.2.1 hd ha (HL.2.2 _ _ hv) w)
theorem sw_istore {n : Nat} {a : Int32} (B : SWc p s m args meth c D X bs E P M i (pc, .istore n, x, y, v, ts)) (hp : pset L x (.int a) = some L') (k : PW p l e R s m args below meth c Q D X bs M (i + 1) L' (r) h cells slots) : PW p l e R s m args below meth c Q D X bs M i L (.int a :: r) h cells slots := by
  obtain ⟨C, he, hd0, hn0, ha0, hl⟩ := B
  have hd : decode (m_b M) pc = .ok (.istore n, 2) := of_decide_eq_true hd0
  have hn : pcOf (m_code M) (i + 1) = pc + 2 := of_decide_eq_true hn0
  have ha : n = x := of_decide_eq_true ha0
  subst ha
  exact pw_sto (pcOf_at he) hn hp k (fun H locs ls HL hlt hl kk => lv_istore C.1 C.2.1 hd hl hlt rfl kk)
theorem sw_istore_n {n : Fin 4} {a : Int32} (B : SWc p s m args meth c D X bs E P M i (pc, .istore_n n, x, y, v, ts)) (hp : pset L x (.int a) = some L') (k : PW p l e R s m args below meth c Q D X bs M (i + 1) L' (r) h cells slots) : PW p l e R s m args below meth c Q D X bs M i L (.int a :: r) h cells slots := by
  obtain ⟨C, he, hd0, hn0, ha0, hl⟩ := B
  have hd : decode (m_b M) pc = .ok (.istore_n n, 1) := of_decide_eq_true hd0
  have hn : pcOf (m_code M) (i + 1) = pc + 1 := of_decide_eq_true hn0
  have ha : (n : Nat) = x := of_decide_eq_true ha0
  exact pw_sto (pcOf_at he) hn hp k (fun H locs ls HL hlt hl kk => lv_istore_n C.1 C.2.1 hd ha hl hlt rfl kk)
theorem sw_astore {n : Nat} {a : Nat} (B : SWc p s m args meth c D X bs E P M i (pc, .astore n, x, y, v, ts)) (hp : pset L x (.ref a) = some L') (k : PW p l e R s m args below meth c Q D X bs M (i + 1) L' (r) h cells slots) : PW p l e R s m args below meth c Q D X bs M i L (.ref a :: r) h cells slots := by
  obtain ⟨C, he, hd0, hn0, ha0, hl⟩ := B
  have hd : decode (m_b M) pc = .ok (.astore n, 2) := of_decide_eq_true hd0
  have hn : pcOf (m_code M) (i + 1) = pc + 2 := of_decide_eq_true hn0
  have ha : n = x := of_decide_eq_true ha0
  subst ha
  exact pw_sto (pcOf_at he) hn hp k (fun H locs ls HL hlt hl kk => lv_astore C.1 C.2.1 hd hl hlt rfl kk)
theorem sw_astore_n {n : Fin 4} {a : Nat} (B : SWc p s m args meth c D X bs E P M i (pc, .astore_n n, x, y, v, ts)) (hp : pset L x (.ref a) = some L') (k : PW p l e R s m args below meth c Q D X bs M (i + 1) L' (r) h cells slots) : PW p l e R s m args below meth c Q D X bs M i L (.ref a :: r) h cells slots := by
  obtain ⟨C, he, hd0, hn0, ha0, hl⟩ := B
  have hd : decode (m_b M) pc = .ok (.astore_n n, 1) := of_decide_eq_true hd0
  have hn : pcOf (m_code M) (i + 1) = pc + 1 := of_decide_eq_true hn0
  have ha : (n : Nat) = x := of_decide_eq_true ha0
  exact pw_sto (pcOf_at he) hn hp k (fun H locs ls HL hlt hl kk => lv_astore_n C.1 C.2.1 hd ha hl hlt rfl kk)
theorem sw_astoreN {n : Nat}  (B : SWc p s m args meth c D X bs E P M i (pc, .astore n, x, y, v, ts)) (hp : pset L x (.null) = some L') (k : PW p l e R s m args below meth c Q D X bs M (i + 1) L' (r) h cells slots) : PW p l e R s m args below meth c Q D X bs M i L (.null :: r) h cells slots := by
  obtain ⟨C, he, hd0, hn0, ha0, hl⟩ := B
  have hd : decode (m_b M) pc = .ok (.astore n, 2) := of_decide_eq_true hd0
  have hn : pcOf (m_code M) (i + 1) = pc + 2 := of_decide_eq_true hn0
  have ha : n = x := of_decide_eq_true ha0
  subst ha
  exact pw_sto (pcOf_at he) hn hp k (fun H locs ls HL hlt hl kk => lv_astoreN C.1 C.2.1 hd hl hlt rfl kk)
theorem sw_astore_nN {n : Fin 4}  (B : SWc p s m args meth c D X bs E P M i (pc, .astore_n n, x, y, v, ts)) (hp : pset L x (.null) = some L') (k : PW p l e R s m args below meth c Q D X bs M (i + 1) L' (r) h cells slots) : PW p l e R s m args below meth c Q D X bs M i L (.null :: r) h cells slots := by
  obtain ⟨C, he, hd0, hn0, ha0, hl⟩ := B
  have hd : decode (m_b M) pc = .ok (.astore_n n, 1) := of_decide_eq_true hd0
  have hn : pcOf (m_code M) (i + 1) = pc + 1 := of_decide_eq_true hn0
  have ha : (n : Nat) = x := of_decide_eq_true ha0
  exact pw_sto (pcOf_at he) hn hp k (fun H locs ls HL hlt hl kk => lv_astore_nN C.1 C.2.1 hd ha hl hlt rfl kk)
theorem sw_iinc {n : Nat} {z : Int} {a : Int32} (B : SWc p s m args meth c D X bs E P M i (pc, .iinc n z, x, y, v, ts)) (hv : pget L x = some (.int a)) (hp : pset L x (.int (a + Int32.ofInt z)) = some L') (k : PW p l e R s m args below meth c Q D X bs M (i + 1) L' (st) h cells slots) : PW p l e R s m args below meth c Q D X bs M i L (st) h cells slots := by
  obtain ⟨C, he, hd0, hn0, ha0, hl⟩ := B
  have hd : decode (m_b M) pc = .ok (.iinc n z, 3) := of_decide_eq_true hd0
  have hn : pcOf (m_code M) (i + 1) = pc + 3 := of_decide_eq_true hn0
  have ha : n = x := of_decide_eq_true ha0
  subst ha
  obtain ⟨q, hq⟩ := List.getElem?_of_mem (pLl_mem (X := X) (bs := bs) hv)
  exact pw_sto (pcOf_at he) hn hp k (fun H locs ls HL hlt hl kk => lv_iinc C.1 C.2.1 hd hl (k := q) hq rfl hlt rfl kk)
theorem sw_iadd {a b : Int32} (B : SWc p s m args meth c D X bs E P M i (pc, .iadd, x, y, v, ts))  (k : PW p l e R s m args below meth c Q D X bs M (i + 1) L (.int (a + b) :: r) h cells slots) : PW p l e R s m args below meth c Q D X bs M i L (.int b :: .int a :: r) h cells slots := by
  obtain ⟨C, he, hd0, hn0, ha0, hl⟩ := B
  have hd : decode (m_b M) pc = .ok (.iadd, 1) := of_decide_eq_true hd0
  have hn : pcOf (m_code M) (i + 1) = pc + 1 := of_decide_eq_true hn0
  exact pw_st (pcOf_at he) hn k (fun H locs ls HL w => lv_iadd C.1 C.2.1 hd w)
theorem sw_isub {a b : Int32} (B : SWc p s m args meth c D X bs E P M i (pc, .isub, x, y, v, ts))  (k : PW p l e R s m args below meth c Q D X bs M (i + 1) L (.int (a - b) :: r) h cells slots) : PW p l e R s m args below meth c Q D X bs M i L (.int b :: .int a :: r) h cells slots := by
  obtain ⟨C, he, hd0, hn0, ha0, hl⟩ := B
  have hd : decode (m_b M) pc = .ok (.isub, 1) := of_decide_eq_true hd0
  have hn : pcOf (m_code M) (i + 1) = pc + 1 := of_decide_eq_true hn0
  exact pw_st (pcOf_at he) hn k (fun H locs ls HL w => lv_isub C.1 C.2.1 hd w)
theorem sw_imul {a b : Int32} (B : SWc p s m args meth c D X bs E P M i (pc, .imul, x, y, v, ts))  (k : PW p l e R s m args below meth c Q D X bs M (i + 1) L (.int (a * b) :: r) h cells slots) : PW p l e R s m args below meth c Q D X bs M i L (.int b :: .int a :: r) h cells slots := by
  obtain ⟨C, he, hd0, hn0, ha0, hl⟩ := B
  have hd : decode (m_b M) pc = .ok (.imul, 1) := of_decide_eq_true hd0
  have hn : pcOf (m_code M) (i + 1) = pc + 1 := of_decide_eq_true hn0
  exact pw_st (pcOf_at he) hn k (fun H locs ls HL w => lv_imul C.1 C.2.1 hd w)
theorem sw_iand {a b : Int32} (B : SWc p s m args meth c D X bs E P M i (pc, .iand, x, y, v, ts))  (k : PW p l e R s m args below meth c Q D X bs M (i + 1) L (.int (a &&& b) :: r) h cells slots) : PW p l e R s m args below meth c Q D X bs M i L (.int b :: .int a :: r) h cells slots := by
  obtain ⟨C, he, hd0, hn0, ha0, hl⟩ := B
  have hd : decode (m_b M) pc = .ok (.iand, 1) := of_decide_eq_true hd0
  have hn : pcOf (m_code M) (i + 1) = pc + 1 := of_decide_eq_true hn0
  exact pw_st (pcOf_at he) hn k (fun H locs ls HL w => lv_iand C.1 C.2.1 hd w)
theorem sw_ior {a b : Int32} (B : SWc p s m args meth c D X bs E P M i (pc, .ior, x, y, v, ts))  (k : PW p l e R s m args below meth c Q D X bs M (i + 1) L (.int (a ||| b) :: r) h cells slots) : PW p l e R s m args below meth c Q D X bs M i L (.int b :: .int a :: r) h cells slots := by
  obtain ⟨C, he, hd0, hn0, ha0, hl⟩ := B
  have hd : decode (m_b M) pc = .ok (.ior, 1) := of_decide_eq_true hd0
  have hn : pcOf (m_code M) (i + 1) = pc + 1 := of_decide_eq_true hn0
  exact pw_st (pcOf_at he) hn k (fun H locs ls HL w => lv_ior C.1 C.2.1 hd w)
theorem sw_ixor {a b : Int32} (B : SWc p s m args meth c D X bs E P M i (pc, .ixor, x, y, v, ts))  (k : PW p l e R s m args below meth c Q D X bs M (i + 1) L (.int (a ^^^ b) :: r) h cells slots) : PW p l e R s m args below meth c Q D X bs M i L (.int b :: .int a :: r) h cells slots := by
  obtain ⟨C, he, hd0, hn0, ha0, hl⟩ := B
  have hd : decode (m_b M) pc = .ok (.ixor, 1) := of_decide_eq_true hd0
  have hn : pcOf (m_code M) (i + 1) = pc + 1 := of_decide_eq_true hn0
  exact pw_st (pcOf_at he) hn k (fun H locs ls HL w => lv_ixor C.1 C.2.1 hd w)
theorem sw_ishl {a b : Int32} (B : SWc p s m args meth c D X bs E P M i (pc, .ishl, x, y, v, ts))  (k : PW p l e R s m args below meth c Q D X bs M (i + 1) L (.int (a <<< (b &&& 31)) :: r) h cells slots) : PW p l e R s m args below meth c Q D X bs M i L (.int b :: .int a :: r) h cells slots := by
  obtain ⟨C, he, hd0, hn0, ha0, hl⟩ := B
  have hd : decode (m_b M) pc = .ok (.ishl, 1) := of_decide_eq_true hd0
  have hn : pcOf (m_code M) (i + 1) = pc + 1 := of_decide_eq_true hn0
  exact pw_st (pcOf_at he) hn k (fun H locs ls HL w => lv_ishl C.1 C.2.1 hd w)
theorem sw_ishr {a b : Int32} (B : SWc p s m args meth c D X bs E P M i (pc, .ishr, x, y, v, ts))  (k : PW p l e R s m args below meth c Q D X bs M (i + 1) L (.int (a >>> (b &&& 31)) :: r) h cells slots) : PW p l e R s m args below meth c Q D X bs M i L (.int b :: .int a :: r) h cells slots := by
  obtain ⟨C, he, hd0, hn0, ha0, hl⟩ := B
  have hd : decode (m_b M) pc = .ok (.ishr, 1) := of_decide_eq_true hd0
  have hn : pcOf (m_code M) (i + 1) = pc + 1 := of_decide_eq_true hn0
  exact pw_st (pcOf_at he) hn k (fun H locs ls HL w => lv_ishr C.1 C.2.1 hd w)
theorem sw_iushr {a b : Int32} (B : SWc p s m args meth c D X bs E P M i (pc, .iushr, x, y, v, ts))  (k : PW p l e R s m args below meth c Q D X bs M (i + 1) L (.int (a.toUInt32 >>> (b.toUInt32 &&& Int32.toUInt32 31)).toInt32 :: r) h cells slots) : PW p l e R s m args below meth c Q D X bs M i L (.int b :: .int a :: r) h cells slots := by
  obtain ⟨C, he, hd0, hn0, ha0, hl⟩ := B
  have hd : decode (m_b M) pc = .ok (.iushr, 1) := of_decide_eq_true hd0
  have hn : pcOf (m_code M) (i + 1) = pc + 1 := of_decide_eq_true hn0
  exact pw_st (pcOf_at he) hn k (fun H locs ls HL w => lv_iushr C.1 C.2.1 hd rfl w)
theorem sw_idiv {a b : Int32} (B : SWc p s m args meth c D X bs E P M i (pc, .idiv, x, y, v, ts)) (h0 : ¬ b = 0) (k : PW p l e R s m args below meth c Q D X bs M (i + 1) L (.int (a / b) :: r) h cells slots) : PW p l e R s m args below meth c Q D X bs M i L (.int b :: .int a :: r) h cells slots := by
  obtain ⟨C, he, hd0, hn0, ha0, hl⟩ := B
  have hd : decode (m_b M) pc = .ok (.idiv, 1) := of_decide_eq_true hd0
  have hn : pcOf (m_code M) (i + 1) = pc + 1 := of_decide_eq_true hn0
  exact pw_st (pcOf_at he) hn k (fun H locs ls HL w => lv_idiv C.1 C.2.1 hd h0 w)
theorem sw_irem {a b : Int32} (B : SWc p s m args meth c D X bs E P M i (pc, .irem, x, y, v, ts)) (h0 : ¬ b = 0) (k : PW p l e R s m args below meth c Q D X bs M (i + 1) L (.int (a - a / b * b) :: r) h cells slots) : PW p l e R s m args below meth c Q D X bs M i L (.int b :: .int a :: r) h cells slots := by
  obtain ⟨C, he, hd0, hn0, ha0, hl⟩ := B
  have hd : decode (m_b M) pc = .ok (.irem, 1) := of_decide_eq_true hd0
  have hn : pcOf (m_code M) (i + 1) = pc + 1 := of_decide_eq_true hn0
  exact pw_st (pcOf_at he) hn k (fun H locs ls HL w => lv_irem C.1 C.2.1 hd h0 w)
theorem sw_ineg {a : Int32} (B : SWc p s m args meth c D X bs E P M i (pc, .ineg, x, y, v, ts))  (k : PW p l e R s m args below meth c Q D X bs M (i + 1) L (.int (-a) :: r) h cells slots) : PW p l e R s m args below meth c Q D X bs M i L (.int a :: r) h cells slots := by
  obtain ⟨C, he, hd0, hn0, ha0, hl⟩ := B
  have hd : decode (m_b M) pc = .ok (.ineg, 1) := of_decide_eq_true hd0
  have hn : pcOf (m_code M) (i + 1) = pc + 1 := of_decide_eq_true hn0
  exact pw_st (pcOf_at he) hn k (fun H locs ls HL w => lv_ineg C.1 C.2.1 hd w)
theorem sw_i2l {a : Int32} (B : SWc p s m args meth c D X bs E P M i (pc, .i2l, x, y, v, ts))  (k : PW p l e R s m args below meth c Q D X bs M (i + 1) L (.long a.toInt64 :: r) h cells slots) : PW p l e R s m args below meth c Q D X bs M i L (.int a :: r) h cells slots := by
  obtain ⟨C, he, hd0, hn0, ha0, hl⟩ := B
  have hd : decode (m_b M) pc = .ok (.i2l, 1) := of_decide_eq_true hd0
  have hn : pcOf (m_code M) (i + 1) = pc + 1 := of_decide_eq_true hn0
  exact pw_st (pcOf_at he) hn k (fun H locs ls HL w => lv_i2l C.1 C.2.1 hd rfl w)
theorem sw_i2s {a : Int32} (B : SWc p s m args meth c D X bs E P M i (pc, .i2s, x, y, v, ts))  (k : PW p l e R s m args below meth c Q D X bs M (i + 1) L (.int a.toInt16.toInt32 :: r) h cells slots) : PW p l e R s m args below meth c Q D X bs M i L (.int a :: r) h cells slots := by
  obtain ⟨C, he, hd0, hn0, ha0, hl⟩ := B
  have hd : decode (m_b M) pc = .ok (.i2s, 1) := of_decide_eq_true hd0
  have hn : pcOf (m_code M) (i + 1) = pc + 1 := of_decide_eq_true hn0
  exact pw_st (pcOf_at he) hn k (fun H locs ls HL w => lv_i2s C.1 C.2.1 hd rfl w)
theorem sw_i2c {a : Int32} (B : SWc p s m args meth c D X bs E P M i (pc, .i2c, x, y, v, ts))  (k : PW p l e R s m args below meth c Q D X bs M (i + 1) L (.int (a.toUInt32 % 65536).toInt32 :: r) h cells slots) : PW p l e R s m args below meth c Q D X bs M i L (.int a :: r) h cells slots := by
  obtain ⟨C, he, hd0, hn0, ha0, hl⟩ := B
  have hd : decode (m_b M) pc = .ok (.i2c, 1) := of_decide_eq_true hd0
  have hn : pcOf (m_code M) (i + 1) = pc + 1 := of_decide_eq_true hn0
  exact pw_st (pcOf_at he) hn k (fun H locs ls HL w => lv_i2c C.1 C.2.1 hd rfl w)
theorem sw_ladd {a b : Int64} (B : SWc p s m args meth c D X bs E P M i (pc, .ladd, x, y, v, ts))  (k : PW p l e R s m args below meth c Q D X bs M (i + 1) L (.long (a + b) :: r) h cells slots) : PW p l e R s m args below meth c Q D X bs M i L (.long b :: .long a :: r) h cells slots := by
  obtain ⟨C, he, hd0, hn0, ha0, hl⟩ := B
  have hd : decode (m_b M) pc = .ok (.ladd, 1) := of_decide_eq_true hd0
  have hn : pcOf (m_code M) (i + 1) = pc + 1 := of_decide_eq_true hn0
  exact pw_st (pcOf_at he) hn k (fun H locs ls HL w => lv_ladd C.1 C.2.1 hd w)
theorem sw_lcmp {a b : Int64} (B : SWc p s m args meth c D X bs E P M i (pc, .lcmp, x, y, v, ts))  (k : PW p l e R s m args below meth c Q D X bs M (i + 1) L (.int (lg_cmp a b) :: r) h cells slots) : PW p l e R s m args below meth c Q D X bs M i L (.long b :: .long a :: r) h cells slots := by
  obtain ⟨C, he, hd0, hn0, ha0, hl⟩ := B
  have hd : decode (m_b M) pc = .ok (.lcmp, 1) := of_decide_eq_true hd0
  have hn : pcOf (m_code M) (i + 1) = pc + 1 := of_decide_eq_true hn0
  exact pw_st (pcOf_at he) hn k (fun H locs ls HL w => W.lcmp C.1 C.2.1 hd w)
theorem sw_dup {a : Value} (B : SWc p s m args meth c D X bs E P M i (pc, .dup, x, y, v, ts)) (hc : a.category = 1) (k : PW p l e R s m args below meth c Q D X bs M (i + 1) L (a :: a :: r) h cells slots) : PW p l e R s m args below meth c Q D X bs M i L (a :: r) h cells slots := by
  obtain ⟨C, he, hd0, hn0, ha0, hl⟩ := B
  have hd : decode (m_b M) pc = .ok (.dup, 1) := of_decide_eq_true hd0
  have hn : pcOf (m_code M) (i + 1) = pc + 1 := of_decide_eq_true hn0
  exact pw_st (pcOf_at he) hn k (fun H locs ls HL w => lv_dup C.1 C.2.1 hd (by rw [emb_cat]; exact hc) w)
theorem sw_dup2 {a b : Value} (B : SWc p s m args meth c D X bs E P M i (pc, .dup2, x, y, v, ts)) (hc : a.category = 1 ∧ b.category = 1) (k : PW p l e R s m args below meth c Q D X bs M (i + 1) L (a :: b :: a :: b :: r) h cells slots) : PW p l e R s m args below meth c Q D X bs M i L (a :: b :: r) h cells slots := by
  obtain ⟨C, he, hd0, hn0, ha0, hl⟩ := B
  have hd : decode (m_b M) pc = .ok (.dup2, 1) := of_decide_eq_true hd0
  have hn : pcOf (m_code M) (i + 1) = pc + 1 := of_decide_eq_true hn0
  exact pw_st (pcOf_at he) hn k (fun H locs ls HL w => lv_dup2_11 C.1 C.2.1 hd (by rw [emb_cat]; exact hc.1) (by rw [emb_cat]; exact hc.2) w)
theorem sw_pop {a : Value} (B : SWc p s m args meth c D X bs E P M i (pc, .pop, x, y, v, ts)) (hc : a.category = 1) (k : PW p l e R s m args below meth c Q D X bs M (i + 1) L (r) h cells slots) : PW p l e R s m args below meth c Q D X bs M i L (a :: r) h cells slots := by
  obtain ⟨C, he, hd0, hn0, ha0, hl⟩ := B
  have hd : decode (m_b M) pc = .ok (.pop, 1) := of_decide_eq_true hd0
  have hn : pcOf (m_code M) (i + 1) = pc + 1 := of_decide_eq_true hn0
  exact pw_st (pcOf_at he) hn k (fun H locs ls HL w => lv_pop C.1 C.2.1 hd (by rw [emb_cat]; exact hc) w)
theorem sw_goto {z : Int} (B : SWc p s m args meth c D X bs E P M i (pc, .goto z, x, y, v, ts)) (k : PW p l e R s m args below meth c Q D X bs M x L (st) h cells slots) : PW p l e R s m args below meth c Q D X bs M i L (st) h cells slots := by
  obtain ⟨C, he, hd0, hn0, ha0, hl⟩ := B
  have hd : decode (m_b M) pc = .ok (.goto z, 3) := of_decide_eq_true hd0
  have ha : (pc : Int) + z = (pcOf (m_code M) x : Int) := of_decide_eq_true ha0
  exact pw_j (pcOf_at he) rfl k (fun H locs ls w => lv_goto C.1 C.2.1 hd ha w)
theorem sw_ifCond {k0 : ClassFile.Cond} {z : Int} {a : Int32} (B : SWc p s m args meth c D X bs E P M i (pc, .ifCond k0 z, x, y, v, ts)) (kt : pc1 k0 a = true → PW p l e R s m args below meth c Q D X bs M x L (r) h cells slots) (kf : pc1 k0 a = false → PW p l e R s m args below meth c Q D X bs M (i + 1) L (r) h cells slots) : PW p l e R s m args below meth c Q D X bs M i L (.int a :: r) h cells slots := by
  obtain ⟨C, he, hd0, hn0, ha0, hl⟩ := B
  have hd : decode (m_b M) pc = .ok (.ifCond k0 z, 3) := of_decide_eq_true hd0
  have hn : pcOf (m_code M) (i + 1) = pc + 3 := of_decide_eq_true hn0
  have ha : (pc : Int) + z = (pcOf (m_code M) x : Int) := of_decide_eq_true ha0
  intro H locs ls HR HL h1 h2
  rw [show pcOf (m_code M) i = pc from pcOf_at he]
  have kt := fun q => kt q H locs ls HR HL h1 h2
  have kf := fun q => kf q H locs ls HR HL h1 h2
  rw [hn] at kf
  cases k0
  · exact lv_if_eq C.1 C.2.1 hd ha (fun q => kt (decide_eq_true q)) (fun q => kf (decide_eq_false q))
  · exact lv_if_ne C.1 C.2.1 hd ha (fun q => kt (decide_eq_true q)) (fun q => kf (decide_eq_false (fun z => z q)))
  · exact lv_if_lt C.1 C.2.1 hd ha (fun q => kt (decide_eq_true q)) (fun q => kf (decide_eq_false q))
  · exact lv_if_ge C.1 C.2.1 hd ha (fun q => kt (decide_eq_true q)) (fun q => kf (decide_eq_false q))
  · exact lv_if_gt C.1 C.2.1 hd ha (fun q => kt (decide_eq_true q)) (fun q => kf (decide_eq_false q))
  · exact lv_if_le C.1 C.2.1 hd ha (fun q => kt (decide_eq_true q)) (fun q => kf (decide_eq_false q))
theorem sw_if_icmp {k0 : ClassFile.Cond} {z : Int} {a b : Int32} (B : SWc p s m args meth c D X bs E P M i (pc, .if_icmp k0 z, x, y, v, ts)) (kt : pc2 k0 a b = true → PW p l e R s m args below meth c Q D X bs M x L (r) h cells slots) (kf : pc2 k0 a b = false → PW p l e R s m args below meth c Q D X bs M (i + 1) L (r) h cells slots) : PW p l e R s m args below meth c Q D X bs M i L (.int b :: .int a :: r) h cells slots := by
  obtain ⟨C, he, hd0, hn0, ha0, hl⟩ := B
  have hd : decode (m_b M) pc = .ok (.if_icmp k0 z, 3) := of_decide_eq_true hd0
  have hn : pcOf (m_code M) (i + 1) = pc + 3 := of_decide_eq_true hn0
  have ha : (pc : Int) + z = (pcOf (m_code M) x : Int) := of_decide_eq_true ha0
  intro H locs ls HR HL h1 h2
  rw [show pcOf (m_code M) i = pc from pcOf_at he]
  have kt := fun q => kt q H locs ls HR HL h1 h2
  have kf := fun q => kf q H locs ls HR HL h1 h2
  rw [hn] at kf
  cases k0
  · exact lv_icmp_eq C.1 C.2.1 hd ha (fun q => kt (decide_eq_true q)) (fun q => kf (decide_eq_false q))
  · exact lv_icmp_ne C.1 C.2.1 hd ha (fun q => kt (decide_eq_true q)) (fun q => kf (decide_eq_false (fun z => z q)))
  · exact lv_icmp_lt C.1 C.2.1 hd ha (fun q => kt (decide_eq_true q)) (fun q => kf (decide_eq_false q))
  · exact lv_icmp_ge C.1 C.2.1 hd ha (fun q => kt (decide_eq_true q)) (fun q => kf (decide_eq_false q))
  · exact lv_icmp_gt C.1 C.2.1 hd ha (fun q => kt (decide_eq_true q)) (fun q => kf (decide_eq_false q))
  · exact lv_icmp_le C.1 C.2.1 hd ha (fun q => kt (decide_eq_true q)) (fun q => kf (decide_eq_false q))
theorem sw_ifnullJ {z : Int}  (B : SWc p s m args meth c D X bs E P M i (pc, .ifnull z, x, y, v, ts)) (k : PW p l e R s m args below meth c Q D X bs M x L (r) h cells slots) : PW p l e R s m args below meth c Q D X bs M i L (.null :: r) h cells slots := by
  obtain ⟨C, he, hd0, hn0, ha0, hl⟩ := B
  have hd : decode (m_b M) pc = .ok (.ifnull z, 3) := of_decide_eq_true hd0
  have ha : (pc : Int) + z = (pcOf (m_code M) x : Int) := of_decide_eq_true ha0
  exact pw_j (pcOf_at he) rfl k (fun H locs ls w => lv_ifnullN C.1 C.2.1 hd ha w)
theorem sw_ifnullF {z : Int} {a : Nat} (B : SWc p s m args meth c D X bs E P M i (pc, .ifnull z, x, y, v, ts)) (k : PW p l e R s m args below meth c Q D X bs M (i + 1) L (r) h cells slots) : PW p l e R s m args below meth c Q D X bs M i L (.ref a :: r) h cells slots := by
  obtain ⟨C, he, hd0, hn0, ha0, hl⟩ := B
  have hd : decode (m_b M) pc = .ok (.ifnull z, 3) := of_decide_eq_true hd0
  have hn : pcOf (m_code M) (i + 1) = pc + 3 := of_decide_eq_true hn0
  exact pw_st (pcOf_at he) hn k (fun H locs ls HL w => lv_ifnull C.1 C.2.1 hd w)
theorem sw_ifnonnullJ {z : Int} {a : Nat} (B : SWc p s m args meth c D X bs E P M i (pc, .ifnonnull z, x, y, v, ts)) (k : PW p l e R s m args below meth c Q D X bs M x L (r) h cells slots) : PW p l e R s m args below meth c Q D X bs M i L (.ref a :: r) h cells slots := by
  obtain ⟨C, he, hd0, hn0, ha0, hl⟩ := B
  have hd : decode (m_b M) pc = .ok (.ifnonnull z, 3) := of_decide_eq_true hd0
  have ha : (pc : Int) + z = (pcOf (m_code M) x : Int) := of_decide_eq_true ha0
  exact pw_j (pcOf_at he) rfl k (fun H locs ls w => lv_ifnonnull C.1 C.2.1 hd ha w)
theorem sw_ifnonnullF {z : Int}  (B : SWc p s m args meth c D X bs E P M i (pc, .ifnonnull z, x, y, v, ts)) (k : PW p l e R s m args below meth c Q D X bs M (i + 1) L (r) h cells slots) : PW p l e R s m args below meth c Q D X bs M i L (.null :: r) h cells slots := by
  obtain ⟨C, he, hd0, hn0, ha0, hl⟩ := B
  have hd : decode (m_b M) pc = .ok (.ifnonnull z, 3) := of_decide_eq_true hd0
  have hn : pcOf (m_code M) (i + 1) = pc + 3 := of_decide_eq_true hn0
  exact pw_st (pcOf_at he) hn k (fun H locs ls HL w => lv_ifnonnullN C.1 C.2.1 hd w)
end PWS
