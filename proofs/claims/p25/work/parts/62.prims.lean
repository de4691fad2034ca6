/-! ===== the strings of the reader, the methods of the library on them, isWord, keyRead, nameRead, isOf (word places printed by program) ===== -/
theorem utb {w : Cond} (i : Nat) (h1 : lw_tbl[i]? = some w) (h2 : uword w = true) : w ∈ utbl := List.mem_filter.mpr ⟨List.mem_of_getElem? h1, h2⟩
theorem ltb {w : Cond} (i : Nat) (h1 : lw_tbl[i]? = some w) : w ∈ lw_tbl := List.mem_of_getElem? h1
def STR (bs n a : Nat) (b : Nat → Int32) (U : State) (H : Heap) : Prop := va_O "java/lang/String" a (fun q => bs ≤ q) U H ∧ va_OF "java/lang/String" "coder" "B" (.int 0) a (fun q => bs ≤ q) U H ∧ ∃ v : Nat, va_OF "java/lang/String" "value" "[B" (.ref v) a (fun q => bs ≤ q) U H ∧ va_T .byte v n (fun j => .int (b j)) (fun q => bs ≤ q) U H
theorem STR.to {bs n a : Nat} {b : Nat → Int32} {u U : State} {H H1 : Heap} (hvm : u.vm.Alike U.vm) (hl : ∀ q : Nat, q < bs → H1[q]? = H[q]?) (h : STR bs n a b u H) : STR bs n a b U H1 := by
  have hk : ∀ a : Nat, a < H.size → ¬ bs ≤ a → H1[a]? = H[a]? := fun a _ hb => hl a (Nat.not_le.mp hb)
  obtain ⟨h1, h2, v, h3, h4⟩ := h
  exact ⟨(h1.moved hvm).kept hk, (h2.moved hvm).kept hk, v, (h3.moved hvm).kept hk, (h4.moved hvm).kept hk⟩
theorem str_of {A : Array Value} {s0 : State} {t : Term} {n : Nat} {b : Nat → Int32} (hn : n < 2 ^ 31) (hex : (Cond.exactly t "java/lang/String").before A s0 = true) (hco : (Cond.eq (.field t "java/lang/String" "coder" "B") (.int 0)).before A s0 = true) (har : (Cond.arrayOf (.field t "java/lang/String" "value" "[B") .byte).before A s0 = true)
    (hle : (Cond.eq (.length (.field t "java/lang/String" "value" "[B")) (.int (Int32.ofNat n))).before A s0 = true) (hel : ∀ j : Nat, j < n → (Cond.eq (.elem (.field t "java/lang/String" "value" "[B") (.int (Int32.ofNat j))) (.int (b j))).before A s0 = true) : ∃ a : Nat, t.eval A s0 none [] s0 = some (.ref a) ∧ STR s0.heap.size n a b s0 s0.heap := by
  have hA : ∀ a : Nat, a < s0.heap.size → ¬ (fun q : Nat => s0.heap.size ≤ q) a := fun a h1 h2 => absurd h1 (Nat.not_lt.mpr h2)
  obtain ⟨a, c, cA, kA, q1, q2, q3, q4, q5, q6, -⟩ := Cond.exactly_spec (args := A) (first := s0) (o := none) (s := s0) (idx := []) (t := t) (cls := "java/lang/String") hex
  obtain ⟨v, ht, hT⟩ := va_Tof (f := fun j => .int (b j)) (A := fun q : Nat => s0.heap.size ≤ q) hn har (va_eqt hle) (fun j hj => va_eqt (hel j hj)) hA
  exact ⟨a, q1, ⟨cA, q3, q5, by rw [q6]; exact q2, hA a (Array.getElem?_eq_some_iff.mp q3).1⟩, vk_OFof q1 (va_eqt hco) hA, v, vk_OFof q1 ht hA, hT⟩
def bW0 : Nat → Int32 := fun j => ([103, 97, 105, 110] : List Int32).getD j 0
def bW1 : Nat → Int32 := fun j => ([102, 101, 101] : List Int32).getD j 0
def bW2 : Nat → Int32 := fun j => ([102, 105, 110, 101] : List Int32).getD j 0
def bW3 : Nat → Int32 := fun j => ([116, 115, 108] : List Int32).getD j 0
def bW4 : Nat → Int32 := fun j => ([110, 102] : List Int32).getD j 0
def bW5 : Nat → Int32 := fun j => ([116, 115] : List Int32).getD j 0
theorem GS.cs {bs : Nat} {U : State} (h : GS bs U) : va_Z "java/lang/String" "COMPACT_STRINGS" "Z" (.int 1) (fun q => bs ≤ q) U U.heap := by
  obtain ⟨A, s0, hts, hg, hW, rfl, hl⟩ := h
  have hs := flat_of_before _ hg
  have hA : ∀ a : Nat, a < s0.heap.size → ¬ (fun q : Nat => s0.heap.size ≤ q) a := fun a h1 h2 => absurd h1 (Nat.not_lt.mpr h2)
  have hk : ∀ a : Nat, a < s0.heap.size → ¬ s0.heap.size ≤ a → U.heap[a]? = s0.heap[a]? := fun a h1 _ => hl a h1
  have c1 : (Cond.eq (.static "java/lang/String" "COMPACT_STRINGS" "Z") (.int 1)).before A s0 = true := hs _ (by decide +kernel)
  have hz := va_Zof (A := fun q : Nat => s0.heap.size ≤ q) (hts _ (ltb 778 (by decide +kernel))) (hts _ (ltb 78 (by decide +kernel))) (va_eqi c1) hA
  exact (hz.moved hW.alike).kept hk
theorem GS.sio {bs : Nat} {U : State} (h : GS bs U) : va_Zq "jdk/internal/util/Preconditions" "SIOOBE_FORMATTER" "Ljava/util/function/BiFunction;" (fun q => bs ≤ q) U U.heap := by
  obtain ⟨A, s0, hts, hg, hW, rfl, hl⟩ := h
  have hs := flat_of_before _ hg
  have hA : ∀ a : Nat, a < s0.heap.size → ¬ (fun q : Nat => s0.heap.size ≤ q) a := fun a h1 h2 => absurd h1 (Nat.not_lt.mpr h2)
  have hk : ∀ a : Nat, a < s0.heap.size → ¬ s0.heap.size ≤ a → U.heap[a]? = s0.heap[a]? := fun a h1 _ => hl a h1
  have c1 : (Cond.isRef (.static "jdk/internal/util/Preconditions" "SIOOBE_FORMATTER" "Ljava/util/function/BiFunction;")).before A s0 = true := hs _ (by decide +kernel)
  have hz := va_Zqof (A := fun q : Nat => s0.heap.size ≤ q) (hts _ (ltb 794 (by decide +kernel))) (hts _ (ltb 80 (by decide +kernel))) c1 hA
  exact (hz.moved hW.alike).kept hk
def aB : Nat → Int32 := fun j => ([-1, 0, 0, 1, 2, 0] : List Int32).getD j 0
theorem GS.abv {bs : Nat} {U : State} (h : GS bs U) : ∃ t : Nat, va_Z "StoneSheets$Rubbing" "ABOVE" "[I" (.ref t) (fun q => bs ≤ q) U U.heap ∧ va_T .int t 6 (fun j => .int (aB j)) (fun q => bs ≤ q) U U.heap := by
  obtain ⟨A, s0, hts, hg, hW, rfl, hl⟩ := h
  have hs := flat_of_before _ hg
  have hA : ∀ a : Nat, a < s0.heap.size → ¬ (fun q : Nat => s0.heap.size ≤ q) a := fun a h1 h2 => absurd h1 (Nat.not_lt.mpr h2)
  have hk : ∀ a : Nat, a < s0.heap.size → ¬ s0.heap.size ≤ a → U.heap[a]? = s0.heap[a]? := fun a h1 _ => hl a h1
  obtain ⟨t, ht, hT⟩ := va_Tof (f := fun j => .int (aB j)) (A := fun q : Nat => s0.heap.size ≤ q) (tm := .static "StoneSheets$Rubbing" "ABOVE" "[I") (ty := .int) (N := 6) (args := A) (s := s0) (by decide) (hs _ (by decide +kernel)) (va_eqt (hs _ (by decide +kernel))) (fun j hj => by
    match j, hj with
    | 0, _ => exact va_eqt (hs _ (by decide +kernel))
    | 1, _ => exact va_eqt (hs _ (by decide +kernel))
    | 2, _ => exact va_eqt (hs _ (by decide +kernel))
    | 3, _ => exact va_eqt (hs _ (by decide +kernel))
    | 4, _ => exact va_eqt (hs _ (by decide +kernel))
    | 5, _ => exact va_eqt (hs _ (by decide +kernel))) hA
  exact ⟨t, ((va_Zref (A := fun q : Nat => s0.heap.size ≤ q) (hts _ (ltb 492 (by decide +kernel))) (hts _ (ltb 70 (by decide +kernel))) ht hA).moved hW.alike).kept hk, (hT.moved hW.alike).kept hk⟩
theorem GS.w0 {bs : Nat} {U : State} (h : GS bs U) : ∃ a : Nat, STR bs 4 a bW0 U U.heap ∧ vk_R "StoneSheets$Reader" 79 "gain" a U := by
  obtain ⟨A, s0, hts, hg, hW, rfl, hl⟩ := h
  have hs := flat_of_before _ hg
  have hA : ∀ a : Nat, a < s0.heap.size → ¬ (fun q : Nat => s0.heap.size ≤ q) a := fun a h1 h2 => absurd h1 (Nat.not_lt.mpr h2)
  have hk : ∀ a : Nat, a < s0.heap.size → ¬ s0.heap.size ≤ a → U.heap[a]? = s0.heap[a]? := fun a h1 _ => hl a h1
  obtain ⟨a0, e0, s0_⟩ := str_of (A := A) (s0 := s0) (t := .string "StoneSheets$Reader" 79) (n := 4) (b := bW0) (by decide) (hs _ (by decide +kernel)) (hs _ (by decide +kernel)) (hs _ (by decide +kernel)) (hs _ (by decide +kernel)) (fun j hj => by
    match j, hj with
    | 0, _ => exact hs _ (by decide +kernel)
    | 1, _ => exact hs _ (by decide +kernel)
    | 2, _ => exact hs _ (by decide +kernel)
    | 3, _ => exact hs _ (by decide +kernel))
  exact ⟨a0, s0_.to hW.alike hl, (vk_R.of (A := A) (hts _ (ltb 764 (by decide +kernel))) e0).warm hW⟩
theorem GS.w1 {bs : Nat} {U : State} (h : GS bs U) : ∃ a : Nat, STR bs 3 a bW1 U U.heap ∧ vk_R "StoneSheets$Reader" 85 "fee" a U := by
  obtain ⟨A, s0, hts, hg, hW, rfl, hl⟩ := h
  have hs := flat_of_before _ hg
  have hA : ∀ a : Nat, a < s0.heap.size → ¬ (fun q : Nat => s0.heap.size ≤ q) a := fun a h1 h2 => absurd h1 (Nat.not_lt.mpr h2)
  have hk : ∀ a : Nat, a < s0.heap.size → ¬ s0.heap.size ≤ a → U.heap[a]? = s0.heap[a]? := fun a h1 _ => hl a h1
  obtain ⟨a0, e0, s0_⟩ := str_of (A := A) (s0 := s0) (t := .string "StoneSheets$Reader" 85) (n := 3) (b := bW1) (by decide) (hs _ (by decide +kernel)) (hs _ (by decide +kernel)) (hs _ (by decide +kernel)) (hs _ (by decide +kernel)) (fun j hj => by
    match j, hj with
    | 0, _ => exact hs _ (by decide +kernel)
    | 1, _ => exact hs _ (by decide +kernel)
    | 2, _ => exact hs _ (by decide +kernel))
  exact ⟨a0, s0_.to hW.alike hl, (vk_R.of (A := A) (hts _ (ltb 817 (by decide +kernel))) e0).warm hW⟩
theorem GS.w2 {bs : Nat} {U : State} (h : GS bs U) : ∃ a : Nat, STR bs 4 a bW2 U U.heap ∧ vk_R "StoneSheets$Reader" 87 "fine" a U := by
  obtain ⟨A, s0, hts, hg, hW, rfl, hl⟩ := h
  have hs := flat_of_before _ hg
  have hA : ∀ a : Nat, a < s0.heap.size → ¬ (fun q : Nat => s0.heap.size ≤ q) a := fun a h1 h2 => absurd h1 (Nat.not_lt.mpr h2)
  have hk : ∀ a : Nat, a < s0.heap.size → ¬ s0.heap.size ≤ a → U.heap[a]? = s0.heap[a]? := fun a h1 _ => hl a h1
  obtain ⟨a0, e0, s0_⟩ := str_of (A := A) (s0 := s0) (t := .string "StoneSheets$Reader" 87) (n := 4) (b := bW2) (by decide) (hs _ (by decide +kernel)) (hs _ (by decide +kernel)) (hs _ (by decide +kernel)) (hs _ (by decide +kernel)) (fun j hj => by
    match j, hj with
    | 0, _ => exact hs _ (by decide +kernel)
    | 1, _ => exact hs _ (by decide +kernel)
    | 2, _ => exact hs _ (by decide +kernel)
    | 3, _ => exact hs _ (by decide +kernel))
  exact ⟨a0, s0_.to hW.alike hl, (vk_R.of (A := A) (hts _ (ltb 818 (by decide +kernel))) e0).warm hW⟩
theorem GS.w3 {bs : Nat} {U : State} (h : GS bs U) : ∃ a : Nat, STR bs 3 a bW3 U U.heap ∧ vk_R "StoneSheets$Reader" 127 "tsl" a U := by
  obtain ⟨A, s0, hts, hg, hW, rfl, hl⟩ := h
  have hs := flat_of_before _ hg
  have hA : ∀ a : Nat, a < s0.heap.size → ¬ (fun q : Nat => s0.heap.size ≤ q) a := fun a h1 h2 => absurd h1 (Nat.not_lt.mpr h2)
  have hk : ∀ a : Nat, a < s0.heap.size → ¬ s0.heap.size ≤ a → U.heap[a]? = s0.heap[a]? := fun a h1 _ => hl a h1
  obtain ⟨a0, e0, s0_⟩ := str_of (A := A) (s0 := s0) (t := .string "StoneSheets$Reader" 127) (n := 3) (b := bW3) (by decide) (hs _ (by decide +kernel)) (hs _ (by decide +kernel)) (hs _ (by decide +kernel)) (hs _ (by decide +kernel)) (fun j hj => by
    match j, hj with
    | 0, _ => exact hs _ (by decide +kernel)
    | 1, _ => exact hs _ (by decide +kernel)
    | 2, _ => exact hs _ (by decide +kernel))
  exact ⟨a0, s0_.to hW.alike hl, (vk_R.of (A := A) (hts _ (ltb 871 (by decide +kernel))) e0).warm hW⟩
theorem GS.w4 {bs : Nat} {U : State} (h : GS bs U) : ∃ a : Nat, STR bs 2 a bW4 U U.heap ∧ vk_R "StoneSheets$Reader" 129 "nf" a U := by
  obtain ⟨A, s0, hts, hg, hW, rfl, hl⟩ := h
  have hs := flat_of_before _ hg
  have hA : ∀ a : Nat, a < s0.heap.size → ¬ (fun q : Nat => s0.heap.size ≤ q) a := fun a h1 h2 => absurd h1 (Nat.not_lt.mpr h2)
  have hk : ∀ a : Nat, a < s0.heap.size → ¬ s0.heap.size ≤ a → U.heap[a]? = s0.heap[a]? := fun a h1 _ => hl a h1
  obtain ⟨a0, e0, s0_⟩ := str_of (A := A) (s0 := s0) (t := .string "StoneSheets$Reader" 129) (n := 2) (b := bW4) (by decide) (hs _ (by decide +kernel)) (hs _ (by decide +kernel)) (hs _ (by decide +kernel)) (hs _ (by decide +kernel)) (fun j hj => by
    match j, hj with
    | 0, _ => exact hs _ (by decide +kernel)
    | 1, _ => exact hs _ (by decide +kernel))
  exact ⟨a0, s0_.to hW.alike hl, (vk_R.of (A := A) (hts _ (ltb 872 (by decide +kernel))) e0).warm hW⟩
theorem GS.w5 {bs : Nat} {U : State} (h : GS bs U) : ∃ a : Nat, STR bs 2 a bW5 U U.heap ∧ vk_R "StoneSheets$Reader" 131 "ts" a U := by
  obtain ⟨A, s0, hts, hg, hW, rfl, hl⟩ := h
  have hs := flat_of_before _ hg
  have hA : ∀ a : Nat, a < s0.heap.size → ¬ (fun q : Nat => s0.heap.size ≤ q) a := fun a h1 h2 => absurd h1 (Nat.not_lt.mpr h2)
  have hk : ∀ a : Nat, a < s0.heap.size → ¬ s0.heap.size ≤ a → U.heap[a]? = s0.heap[a]? := fun a h1 _ => hl a h1
  obtain ⟨a0, e0, s0_⟩ := str_of (A := A) (s0 := s0) (t := .string "StoneSheets$Reader" 131) (n := 2) (b := bW5) (by decide) (hs _ (by decide +kernel)) (hs _ (by decide +kernel)) (hs _ (by decide +kernel)) (hs _ (by decide +kernel)) (fun j hj => by
    match j, hj with
    | 0, _ => exact hs _ (by decide +kernel)
    | 1, _ => exact hs _ (by decide +kernel))
  exact ⟨a0, s0_.to hW.alike hl, (vk_R.of (A := A) (hts _ (ltb 873 (by decide +kernel))) e0).warm hW⟩
def mJ_length : pM := (⟨"java/lang/String", "length", "()I"⟩, prog_14_method_54_code, 1, some FieldType.int, 1, 99, [])
def mJ_coder : pM := (⟨"java/lang/String", "coder", "()B"⟩, prog_14_method_152_code, 1, some FieldType.byte, 1, 99, [])
def mJ_isLatin1 : pM := (⟨"java/lang/String", "isLatin1", "()Z"⟩, prog_14_method_154_code, 1, some FieldType.boolean, 1, 99, [])
def mJ_charAt : pM := (⟨"java/lang/String", "charAt", "(I)C"⟩, prog_14_method_56_code, 2, some FieldType.char, 1, 99, [])
def mJ_checkIndex : pM := (⟨"java/lang/String", "checkIndex", "(II)V"⟩, prog_14_method_155_code, 2, none, 0, 99, [])
def mJ_indexOf1 : pM := (⟨"java/lang/String", "indexOf", "(I)I"⟩, prog_14_method_79_code, 2, some FieldType.int, 1, 99, [])
def mJ_indexOf2 : pM := (⟨"java/lang/String", "indexOf", "(II)I"⟩, prog_14_method_80_code, 3, some FieldType.int, 1, 99, [])
def mJ_pCheck : pM := (⟨"jdk/internal/util/Preconditions", "checkIndex", "(IILjava/util/function/BiFunction;)I"⟩, prog_19_method_11_code, 3, some FieldType.int, 0, 99, [])
def mJ_lCharAt : pM := (⟨"java/lang/StringLatin1", "charAt", "([BI)C"⟩, prog_15_method_2_code, 2, some FieldType.char, 0, 99, [])
def mJ_lIndexOf : pM := (⟨"java/lang/StringLatin1", "indexOf", "([BIII)I"⟩, prog_15_method_22_code, 4, some FieldType.int, 0, 99, [])
def mJ_canEncode : pM := (⟨"java/lang/StringLatin1", "canEncode", "(I)Z"⟩, prog_15_method_4_code, 1, some FieldType.boolean, 0, 99, [])
def mJ_lIndexOfChar : pM := (⟨"java/lang/StringLatin1", "indexOfChar", "([BIII)I"⟩, prog_15_method_23_code, 6, some FieldType.int, 0, 99, [])
section WRD
variable {p : Program} {l : Launch} {e : Env} {R : Room} {s : State} {m : MethodId} {args : Array Value} {below : List Frame} {meth : Method} {c : Code} {Q : State → Prop} {D : va_G} {X : Nat → Nat} {bs : Nat} {E : pX} {M N : pM}
variable {pc y index : Nat} {h h1 : List pC} {cells slots d : Nat} {r : Option Value} {H : Heap} {locs : List Loc} {ls : Array Slot} {rest : List Value}
/-- a contract out of a walk of the body -/
theorem open_c {av : List Value} {Pc0 : State → Prop} (hy : plainName (m_y M).cls = true) (hk : m_k M ≠ 2) (hP : ∀ U, Pc0 U → PCx D X bs E h U)
    (body : ∀ (p : Program) (e : Env) (R : Room) (s : State) (m : MethodId) (below : List Frame) (meth : Method) (c : Code), R.frames = d → R.locals = 40 * d → R.cells = 0 → R.slots = 0 → Cx p s m av.toArray meth c D X bs E M → Rep D X bs s h s.heap → Pc0 s → meth.sig.returnType = m_r M → meth.locks = false →
      W p l e R s m av.toArray below meth c s.heap [] 0 0 (MQ below (PQ D X bs r h1) av.toArray s 0 0 (fun q => bs ≤ q)) (F0 m 0 ((lg_sl av ++ List.replicate (m_l M - (lg_sl av).length) Slot.unset).toArray) [])) : Met l (m_y M) (pws M) (prm d 0 0) (va_Pc av Pc0) (PQ D X bs r h1) 0 0 (fun q => bs ≤ q) := by
  refine Met.ofW (cc := m_b M) (maxL := m_l M) (ret := m_r M) hy rfl ?_
  intro p e s m args below meth c s₁ B hml hv
  obtain ⟨rfl, hp0⟩ := hv
  obtain ⟨hR, hK, hE, hN, hG⟩ := hP _ hp0
  have hts : ∀ w ∈ pws M, w.before av.toArray s = true := atoms_spec (ws := pws M) B.pre
  have C : Cx p s m av.toArray meth c D X bs E M := ⟨B.exec, B.bytes, hml, findClass_of_methodNamed B.named, fun w hw => (by
    obtain ⟨hw1, hw2⟩ := List.mem_filter.mp hw
    by_cases hg : goodWord w = true
    · exact hts w (List.mem_cons_of_mem _ (List.mem_filter.mpr ⟨hw1, hg⟩))
    · have hn : nword w = true := by
        unfold uword at hw2
        rw [show goodWord w = false by simpa using hg, Bool.false_or] at hw2
        exact hw2
      exact nword_same hn rfl (hN w hw hn)), hK, hE, fun h2 => absurd h2 hk, hG⟩
  rw [lg_entry_eq]
  exact body p e (headSpec (pws M) (prm d 0 0)).room s m below meth c rfl rfl rfl rfl C hR hp0 B.returns B.notSynchronized
theorem PreS_of {s : State} {H : Heap} {As : List Value} {SP : State → Prop} (hb : ∀ u U : State, u.vm = U.vm → U.heap = u.heap → SP u → SP U) (hSP : ∀ U : State, U.heap = H → s.WarmedH U.vm → SP U) : PreS s H (va_Pc As SP) As := ⟨fun a U g mk q => ⟨q.1, hb U (U.calling g mk a) rfl rfl q.2⟩, fun U hU hW => ⟨rfl, hSP U hU hW⟩⟩
/-- a call of an instance method by its contract, at the machine's own values -/
theorem callV_w {b : Addr} {As : List Value} {SP : State → Prop} (C : Cx p s m args meth c D X bs E M) (hd : decode (m_b M) pc = .ok (.invokevirtual index, 3)) (w1 : Cond.methodLink (m_y M).cls index (m_y N) ∈ utbl) (w2 : Cond.instanceMethod (m_y N) ∈ utbl) (w3 : Cond.selects (m_y N).cls (m_y N) (m_y N) ∈ utbl) (w4 : Cond.initialized (m_y N).cls ∈ utbl) (w5 : Cond.code (m_y N) (m_b N) (m_l N) (m_r N) ∈ utbl)
    (hy : (m_y N).cls ≠ "java/lang/invoke/MethodHandle" ∧ (m_y N).cls ≠ "java/lang/invoke/VarHandle" ∧ (parseMethodDescriptor (m_y N).desc).map (fun d => d.parameters.length) = some As.length) (hroom : d + 1 ≤ R.frames ∧ 8 + (m_l N + 11) + 40 * d ≤ R.locals ∧ cells ≤ R.cells ∧ slots ≤ R.slots)
    (hM : Met l (m_y N) (pws N) (prm d 0 0) (va_Pc (.ref b :: As) SP) (PQ D X bs r h1) 0 0 (fun q => bs ≤ q)) (hb : ∀ u U : State, u.vm = U.vm → U.heap = u.heap → SP u → SP U)
    (hrecv : ∃ cellB : Cell, H[b]? = some cellB ∧ cellB.vm.isStatics = false ∧ s.vm.findClass (m_y N).cls = some cellB.cls) (hSP : ∀ U : State, U.heap = H → s.WarmedH U.vm → SP U) (hls : ls.size = m_l M) (h8 : (rest.map fun v => v.category).sum ≤ 8) (g1 : ∀ q : Nat, q < bs → H[q]? = s.heap[q]?) (g2 : ∀ x ∈ locs, bs ≤ x.base)
    (kk : ∀ (H1 : Heap) (locs1 : List Loc), Rep D X bs s h1 H1 → (∀ q : Nat, q < bs → H1[q]? = s.heap[q]?) → (∀ x ∈ locs1, bs ≤ x.base) → W p l e R s m args below meth c H1 locs1 cells slots Q (F0 m (pc + 3) ls ((r.map (emb X bs)).toList ++ rest))) : W p l e R s m args below meth c H locs cells slots Q (F0 m pc ls (As.reverse ++ .ref b :: rest)) := by
  have S : CallFix p m c (m_b M) (m_l M) s args utbl (m_y M).cls := ⟨C.1, C.2.1, C.2.2.1, C.2.2.2.1, C.2.2.2.2.1⟩
  have hp : PreV s H (m_y N).cls b (va_Pc (.ref b :: As) SP) As := ⟨fun a U g mk q => ⟨q.1, hb U (U.calling g mk a) rfl rfl q.2⟩, hrecv, fun U hU hW => ⟨rfl, hSP U hU hW⟩⟩
  have cw := cwV (R := R) (s := s) (args := args) (own := (m_y M).cls) (C := (m_y N).cls) (index := index) (rm := prm d 0 0) (mc := 0) (ms := 0) As.length C.2.2.2.2.1 (ws := pws N) (fun w hw => by
    rcases List.mem_append.mp hw with hw | hw
    · rcases List.mem_cons.mp hw with rfl | hw
      · exact ⟨w1, Or.inl rfl⟩
      · rcases List.mem_cons.mp hw with rfl | hw
        · exact ⟨w2, Or.inl rfl⟩
        · rcases List.mem_cons.mp hw with rfl | hw
          · exact ⟨w3, Or.inl rfl⟩
          · rw [List.mem_singleton.mp hw]; exact ⟨w4, Or.inl rfl⟩
    · rcases List.mem_cons.mp hw with rfl | hw
      · exact ⟨w5, Or.inl rfl⟩
      · exact ⟨good_u hw, good_g hw⟩) rfl rfl rfl ⟨rfl, hy.1, hy.2.1, hy.2.2⟩ ⟨hroom.1, hroom.2.1⟩
  have hr := va_runV (e := e) (below := below) (meth := meth) (H := H) (locs := locs) (cells := cells) (slots := slots) (g := F0 m pc ls (As.reverse ++ .ref b :: rest)) (rest := rest) S hM cw hp rfl rfl hls rfl (lv_room h8) hd ⟨hroom.2.2.1, hroom.2.2.2⟩
  intro T hT Z
  obtain ⟨v, st₀, t, T', Lc, h0, Z', hL, e1, e2, ⟨hv, hRp, hlow⟩, stp⟩ := hr T hT Z
  have hv : v = r.map (emb X bs) := Outcome.returned.inj hv
  have hal : s.vm.Alike t.vm := by rw [← e2]; exact Z'.warmed.alike
  obtain ⟨t2, a1, b1⟩ := kk T'.heap (locs ++ Lc) (by rw [e1]; exact hRp.moved hal.symm) (fun q hq => by rw [e1, hlow q hq, h0]; exact g1 q hq) (fun z hz => by
    rcases List.mem_append.mp hz with hz | hz
    · exact g2 z hz
    · exact hL z hz) T' rfl Z'
  refine ⟨t2, stp t2 ?_, b1⟩
  rw [hv]
  exact a1
/-- a call of a class's own method by its contract, at the machine's own values -/
theorem callS_w {As : List Value} {SP : State → Prop} (C : Cx p s m args meth c D X bs E M) (hd : decode (m_b M) pc = .ok (.invokestatic index, 3)) (w1 : Cond.methodLink (m_y M).cls index (m_y N) ∈ utbl) (w2 : Cond.static (m_y N) ∈ utbl) (w4 : Cond.initialized (m_y N).cls ∈ utbl) (w5 : Cond.code (m_y N) (m_b N) (m_l N) (m_r N) ∈ utbl)
    (hy : (m_y N).cls ≠ "java/lang/invoke/MethodHandle" ∧ (m_y N).cls ≠ "java/lang/invoke/VarHandle" ∧ (parseMethodDescriptor (m_y N).desc).map (fun d => d.parameters.length) = some As.length) (hroom : d + 1 ≤ R.frames ∧ 8 + (m_l N + 11) + 40 * d ≤ R.locals ∧ cells ≤ R.cells ∧ slots ≤ R.slots)
    (hM : Met l (m_y N) (pws N) (prm d 0 0) (va_Pc As SP) (PQ D X bs r h1) 0 0 (fun q => bs ≤ q)) (hb : ∀ u U : State, u.vm = U.vm → U.heap = u.heap → SP u → SP U)
    (hSP : ∀ U : State, U.heap = H → s.WarmedH U.vm → SP U) (hls : ls.size = m_l M) (h8 : (rest.map fun v => v.category).sum ≤ 8) (g1 : ∀ q : Nat, q < bs → H[q]? = s.heap[q]?) (g2 : ∀ x ∈ locs, bs ≤ x.base)
    (kk : ∀ (H1 : Heap) (locs1 : List Loc), Rep D X bs s h1 H1 → (∀ q : Nat, q < bs → H1[q]? = s.heap[q]?) → (∀ x ∈ locs1, bs ≤ x.base) → W p l e R s m args below meth c H1 locs1 cells slots Q (F0 m (pc + 3) ls ((r.map (emb X bs)).toList ++ rest))) : W p l e R s m args below meth c H locs cells slots Q (F0 m pc ls (As.reverse ++ rest)) := by
  have S : CallFix p m c (m_b M) (m_l M) s args utbl (m_y M).cls := ⟨C.1, C.2.1, C.2.2.1, C.2.2.2.1, C.2.2.2.2.1⟩
  have cw := va_cwS (R := R) (s := s) (args := args) (own := (m_y M).cls) (index := index) (rm := prm d 0 0) (mc := 0) (ms := 0) As.length C.2.2.2.2.1 (ws := pws N) (fun w hw => by
    rcases List.mem_append.mp hw with hw | hw
    · rcases List.mem_cons.mp hw with rfl | hw
      · exact ⟨w1, Or.inl rfl⟩
      · rcases List.mem_cons.mp hw with rfl | hw
        · exact ⟨w2, Or.inl rfl⟩
        · rw [List.mem_singleton.mp hw]; exact ⟨w4, Or.inl rfl⟩
    · rcases List.mem_cons.mp hw with rfl | hw
      · exact ⟨w5, Or.inl rfl⟩
      · exact ⟨good_u hw, good_g hw⟩) rfl rfl rfl hy ⟨hroom.1, hroom.2.1⟩
  have hr := va_runS (e := e) (below := below) (meth := meth) (H := H) (locs := locs) (cells := cells) (slots := slots) (g := F0 m pc ls (As.reverse ++ rest)) (rest := rest) S hM cw (PreS_of hb hSP) rfl rfl hls rfl (lv_room h8) hd ⟨hroom.2.2.1, hroom.2.2.2⟩
  intro T hT Z
  obtain ⟨v, st₀, t, T', Lc, h0, Z', hL, e1, e2, ⟨hv, hRp, hlow⟩, stp⟩ := hr T hT Z
  have hv : v = r.map (emb X bs) := Outcome.returned.inj hv
  have hal : s.vm.Alike t.vm := by rw [← e2]; exact Z'.warmed.alike
  obtain ⟨t2, a1, b1⟩ := kk T'.heap (locs ++ Lc) (by rw [e1]; exact hRp.moved hal.symm) (fun q hq => by rw [e1, hlow q hq, h0]; exact g1 q hq) (fun z hz => by
    rcases List.mem_append.mp hz with hz | hz
    · exact g2 z hz
    · exact hL z hz) T' rfl Z'
  refine ⟨t2, stp t2 ?_, b1⟩
  rw [hv]
  exact a1
theorem vaS_of (HR0 : Rep D X bs s h s.heap) (HR : Rep D X bs s h H) (g1 : ∀ q : Nat, q < bs → H[q]? = s.heap[q]?) (g2 : ∀ x ∈ locs, bs ≤ x.base) : va_S (fun q => bs ≤ q) s.heap H locs := ⟨by rw [HR0.1, HR.1]; exact Nat.le_refl _, fun q _ hb => g1 q (Nat.not_le.mp hb), g2⟩
theorem getf_w {n a : Nat} {o : Nat × List Value} {w : Value} {q : vw_C} (C : Cx p s m args meth c D X bs E M) (HR : Rep D X bs s h H) (ho : pobj h a = some o) (hq : pcls[o.1]? = some q) (hy : y < q.2.2) (hw : o.2[y]? = some w) (hlk : Cond.fieldLink (m_y M).cls n (q.2.1 y).1 (q.2.1 y).2.1 (q.2.1 y).2.2.1 ∈ utbl) (hd : decode (m_b M) pc = .ok (.getfield n, 3))
    (k : W p l e R s m args below meth c H locs cells slots Q (F0 m (pc + 3) ls (emb X bs w :: rest))) : W p l e R s m args below meth c H locs cells slots Q (F0 m pc ls (.ref (bs + a) :: rest)) := by
  obtain ⟨r0, hr0, hlen, hOB⟩ := HR.2 a _ (pobj_at ho)
  cases hr0.symm.trans hq
  obtain ⟨C0, T0, N0⟩ := q
  have hP : va_P D pcls [(bs + a, .inr (o.1, o.2.map (emb X bs)))] H := fun j q hj => by
    have hz : j < 1 := (List.getElem?_eq_some_iff.mp hj).1
    rw [show j = 0 by omega] at hj
    cases hj
    exact ⟨_, hq, hOB.to (fun k _ => (vpV_map X bs o.2 k).symm)⟩
  exact va_get (D := D) (ci := o.1) (v := emb X bs w) (tys := []) C.1 C.2.1 C.2.2.2.2.1 (pcl_ok o.1 _ hq).1 C.2.2.2.1 C.2.2.2.2.2.1 hP 0 rfl hq y hy (C.2.2.2.2.1 _ hlk) (fun _ h9 => h9) (by rw [List.getElem?_map, hw]; rfl) hd k
theorem q_ret (HR : Rep D X bs s h H) (g1 : ∀ q : Nat, q < bs → H[q]? = s.heap[q]?) (z : Int32) : ∀ t : State, t.heap = H → s.WarmedH t.vm → PQ D X bs (some (.int z)) h args s (.returned (some (.int z))) t := fun t ht hW => ⟨rfl, by rw [ht]; exact HR.moved hW.alike, fun q hq => by rw [ht]; exact g1 q hq⟩
def PCs (D : va_G) (X : Nat → Nat) (bs : Nat) (E : pX) (h : List pC) (n a : Nat) (b : Nat → Int32) (U : State) : Prop := PCx D X bs E h U ∧ STR bs n a b U U.heap
theorem PCs.same {n a : Nat} {b : Nat → Int32} {u U : State} (hv : u.vm = U.vm) (hh : U.heap = u.heap) (hp : PCs D X bs E h n a b u) : PCs D X bs E h n a b U := ⟨hp.1.same hv hh, hp.2.to (by rw [hv]; exact Vm.Alike.refl _) (fun q _ => by rw [hh])⟩
theorem PCs.at {n a : Nat} {b : Nat → Int32} (C : Cx p s m args meth c D X bs E M) (HR : Rep D X bs s h H) (g1 : ∀ q : Nat, q < bs → H[q]? = s.heap[q]?) (hs : STR bs n a b s s.heap) (U : State) (hU : U.heap = H) (hW : s.WarmedH U.vm) : PCs D X bs E h n a b U := ⟨cx_at C HR g1 U hU hW, hs.to hW.alike (fun q hq => by rw [hU]; exact g1 q hq)⟩
theorem q_retN (HR : Rep D X bs s h H) (g1 : ∀ q : Nat, q < bs → H[q]? = s.heap[q]?) : ∀ t : State, t.heap = H → s.WarmedH t.vm → PQ D X bs none h args s (.returned none) t := fun t ht hW => ⟨rfl, by rw [ht]; exact HR.moved hW.alike, fun q hq => by rw [ht]; exact g1 q hq⟩
def PCv (D : va_G) (X : Nat → Nat) (bs : Nat) (E : pX) (h : List pC) (n a : Nat) (b : Nat → Int32) (U : State) : Prop := PCx D X bs E h U ∧ va_T .byte a n (fun j => .int (b j)) (fun q => bs ≤ q) U U.heap
theorem PCv.same {n a : Nat} {b : Nat → Int32} {u U : State} (hv : u.vm = U.vm) (hh : U.heap = u.heap) (hp : PCv D X bs E h n a b u) : PCv D X bs E h n a b U := ⟨hp.1.same hv hh, (hp.2.moved (by rw [hv]; exact Vm.Alike.refl _)).kept (fun q _ _ => by rw [hh])⟩
theorem PCv.at {n a : Nat} {b : Nat → Int32} (C : Cx p s m args meth c D X bs E M) (HR : Rep D X bs s h H) (g1 : ∀ q : Nat, q < bs → H[q]? = s.heap[q]?) (hs : va_T .byte a n (fun j => .int (b j)) (fun q => bs ≤ q) s s.heap) (U : State) (hU : U.heap = H) (hW : s.WarmedH U.vm) : PCv D X bs E h n a b U := ⟨cx_at C HR g1 U hU hW, (hs.moved hW.alike).kept (fun q _ hq => by rw [hU]; exact g1 q (Nat.not_le.mp hq))⟩
theorem coder_c (n a : Nat) (b : Nat → Int32) (d : Nat) : Met l (m_y mJ_coder) (pws mJ_coder) (prm d 0 0) (va_Pc [.ref a] (PCs D X bs E h n a b)) (PQ D X bs (some (.int (0))) h) 0 0 (fun q => bs ≤ q) := by
  refine open_c (av := [.ref a]) (h := h) (E := E) (by decide +kernel) (by decide) (fun U hU => hU.1) ?_
  intro p e R s m below meth c r1 r2 r3 r4 C HR hS hret hlocks
  have hS0 : va_S (fun q => bs ≤ q) s.heap s.heap [] := vaS_of HR HR (fun _ _ => rfl) (fun _ hx => by cases hx)
  have hL := lv_entry [.ref a] (n := m_l mJ_coder) (Nat.le_of_ble_eq_true rfl)
  have hz := C.2.2.2.2.2.2.2.2.cs
  refine va_gets C.1 C.2.1 hz hS0 C.2.2.2.1 (C.2.2.2.2.1 _ (utb 777 (by decide +kernel) (by decide +kernel))) (fun _ hx => hx) (show decode (m_b mJ_coder) 0 = .ok (.getstatic 38, 3) by decide +kernel) ?_
  refine lv_if_eq C.1 C.2.1 (tgt := 13) (show decode (m_b mJ_coder) 3 = .ok (.ifCond .eq 10, 3) by decide +kernel) (by decide) (fun hx => absurd hx (by decide)) (fun _ => ?_)
  refine lv_aload_n C.1 C.2.1 (i := 0) (x := a) (show decode (m_b mJ_coder) 6 = .ok (.aload_n 0, 1) by decide +kernel) rfl (lv_at hL 0 rfl) ?_
  refine vk_getf C.1 C.2.1 hS.2.2.1 hS0 C.2.2.2.1 (C.2.2.2.2.1 _ (utb 1562 (by decide +kernel) (by decide +kernel))) (fun _ hx => hx) (show decode (m_b mJ_coder) 7 = .ok (.getfield 15, 3) by decide +kernel) ?_
  refine lv_goto C.1 C.2.1 (tgt := 14) (show decode (m_b mJ_coder) 10 = .ok (.goto 4, 3) by decide +kernel) (by decide) ?_
  exact W.zret (ty := .byte) C.1 C.2.1 hret rfl (q_ret HR (fun _ _ => rfl) 0) (fun _ hx => by cases hx) (show decode (m_b mJ_coder) 14 = .ok (.ireturn, 1) by decide +kernel) hlocks
theorem isLatin1_c (n a : Nat) (b : Nat → Int32) (d : Nat) : Met l (m_y mJ_isLatin1) (pws mJ_isLatin1) (prm d 0 0) (va_Pc [.ref a] (PCs D X bs E h n a b)) (PQ D X bs (some (.int (1))) h) 0 0 (fun q => bs ≤ q) := by
  refine open_c (av := [.ref a]) (h := h) (E := E) (by decide +kernel) (by decide) (fun U hU => hU.1) ?_
  intro p e R s m below meth c r1 r2 r3 r4 C HR hS hret hlocks
  have hS0 : va_S (fun q => bs ≤ q) s.heap s.heap [] := vaS_of HR HR (fun _ _ => rfl) (fun _ hx => by cases hx)
  have hL := lv_entry [.ref a] (n := m_l mJ_isLatin1) (Nat.le_of_ble_eq_true rfl)
  have hz := C.2.2.2.2.2.2.2.2.cs
  refine va_gets C.1 C.2.1 hz hS0 C.2.2.2.1 (C.2.2.2.2.1 _ (utb 777 (by decide +kernel) (by decide +kernel))) (fun _ hx => hx) (show decode (m_b mJ_isLatin1) 0 = .ok (.getstatic 38, 3) by decide +kernel) ?_
  refine lv_if_eq C.1 C.2.1 (tgt := 17) (show decode (m_b mJ_isLatin1) 3 = .ok (.ifCond .eq 14, 3) by decide +kernel) (by decide) (fun hx => absurd hx (by decide)) (fun _ => ?_)
  refine lv_aload_n C.1 C.2.1 (i := 0) (x := a) (show decode (m_b mJ_isLatin1) 6 = .ok (.aload_n 0, 1) by decide +kernel) rfl (lv_at hL 0 rfl) ?_
  refine vk_getf C.1 C.2.1 hS.2.2.1 hS0 C.2.2.2.1 (C.2.2.2.2.1 _ (utb 1562 (by decide +kernel) (by decide +kernel))) (fun _ hx => hx) (show decode (m_b mJ_isLatin1) 7 = .ok (.getfield 15, 3) by decide +kernel) ?_
  refine lv_if_ne C.1 C.2.1 (tgt := 17) (show decode (m_b mJ_isLatin1) 10 = .ok (.ifCond .ne 7, 3) by decide +kernel) (by decide) (fun hx => absurd rfl hx) (fun _ => ?_)
  refine lv_iconst C.1 C.2.1 (v := 1) (show decode (m_b mJ_isLatin1) 13 = .ok (.iconst 1, 1) by decide +kernel) (by decide) ?_
  refine lv_goto C.1 C.2.1 (tgt := 18) (show decode (m_b mJ_isLatin1) 14 = .ok (.goto 4, 3) by decide +kernel) (by decide) ?_
  exact W.zret (ty := .boolean) C.1 C.2.1 hret rfl (q_ret HR (fun _ _ => rfl) 1) (fun _ hx => by cases hx) (show decode (m_b mJ_isLatin1) 18 = .ok (.ireturn, 1) by decide +kernel) hlocks
theorem STR.recv {n a : Nat} {b : Nat → Int32} (hs : STR bs n a b s s.heap) (g1 : ∀ q : Nat, q < bs → H[q]? = s.heap[q]?) : ∃ cellB : Cell, H[a]? = some cellB ∧ cellB.vm.isStatics = false ∧ s.vm.findClass "java/lang/String" = some cellB.cls := by
  obtain ⟨cell, k1, k2, k3, k4⟩ := hs.1
  exact ⟨cell, by rw [g1 a (Nat.not_le.mp k4)]; exact k1, k2, k3⟩
theorem length_c (n a : Nat) (b : Nat → Int32) (d : Nat) (hd : 1 ≤ d) (hn : n < 2 ^ 31) : Met l (m_y mJ_length) (pws mJ_length) (prm d 0 0) (va_Pc [.ref a] (PCs D X bs E h n a b)) (PQ D X bs (some (.int (Int32.ofNat n))) h) 0 0 (fun q => bs ≤ q) := by
  obtain ⟨f, rfl⟩ : ∃ f, d = f + 1 := ⟨d - 1, by omega⟩
  refine open_c (av := [.ref a]) (h := h) (E := E) (by decide +kernel) (by decide) (fun U hU => hU.1) ?_
  intro p e R s m below meth c r1 r2 r3 r4 C HR hS hret hlocks
  have hS0 : va_S (fun q => bs ≤ q) s.heap s.heap [] := vaS_of HR HR (fun _ _ => rfl) (fun _ hx => by cases hx)
  have hL := lv_entry [.ref a] (n := m_l mJ_length) (Nat.le_of_ble_eq_true rfl)
  obtain ⟨v, hv, hT⟩ := hS.2.2.2
  refine lv_aload_n C.1 C.2.1 (i := 0) (x := a) (show decode (m_b mJ_length) 0 = .ok (.aload_n 0, 1) by decide +kernel) rfl (lv_at hL 0 rfl) ?_
  refine vk_getf C.1 C.2.1 hv hS0 C.2.2.2.1 (C.2.2.2.2.1 _ (utb 1561 (by decide +kernel) (by decide +kernel))) (fun _ hx => hx) (show decode (m_b mJ_length) 1 = .ok (.getfield 9, 3) by decide +kernel) ?_
  refine va_tlen C.1 C.2.1 hT hS0 rfl (show decode (m_b mJ_length) 4 = .ok (.arraylength, 1) by decide +kernel) ?_
  refine lv_aload_n C.1 C.2.1 (i := 0) (x := a) (show decode (m_b mJ_length) 5 = .ok (.aload_n 0, 1) by decide +kernel) rfl (lv_at hL 0 rfl) ?_
  refine callV_w (N := mJ_coder) (d := f) (As := []) (rest := [.int (Int32.ofNat n)]) C (show decode (m_b mJ_length) 6 = .ok (.invokevirtual 335, 3) by decide +kernel) (utb 773 (by decide +kernel) (by decide +kernel)) (utb 774 (by decide +kernel) (by decide +kernel)) (utb 775 (by decide +kernel) (by decide +kernel)) (utb 78 (by decide +kernel) (by decide +kernel)) (utb 776 (by decide +kernel) (by decide +kernel)) ⟨by decide +kernel, by decide +kernel, (show (parseMethodDescriptor (m_y mJ_coder).desc).map (fun d => d.parameters.length) = some 0 by decide +kernel)⟩ ⟨by omega, by show 8 + (1 + 11) + 40 * f ≤ R.locals; omega, by omega, by omega⟩ (coder_c n a b f) (fun u U hv hh hp => hp.same hv hh) (STR.recv hS.2 (fun _ _ => rfl)) (PCs.at C HR (fun _ _ => rfl) hS.2) hL.1 (Nat.le_of_ble_eq_true rfl) (fun _ _ => rfl) (fun _ hx => by cases hx) ?_
  intro H1 locs1 HR1 gA1 gB1
  refine lv_ishr C.1 C.2.1 (x := Int32.ofNat n) (y := 0) (rest := []) (show decode (m_b mJ_length) 9 = .ok (.ishr, 1) by decide +kernel) ?_
  rw [show Int32.ofNat n >>> ((0 : Int32) &&& 31) = Int32.ofNat n from sc_shr0 hn]
  exact W.iret C.1 C.2.1 hret (q_ret HR1 gA1 _) gB1 (show decode (m_b mJ_length) 10 = .ok (.ireturn, 1) by decide +kernel) hlocks
theorem pCheckN_c (i n : Int32) (v : Nat) (d : Nat) (hi : ¬ i < 0) (hn : i < n) : Met l (m_y mJ_pCheck) (pws mJ_pCheck) (prm d 0 0) (va_Pc [.int i, .int n, .null] (PCx D X bs E h)) (PQ D X bs (some (.int (i))) h) 0 0 (fun q => bs ≤ q) := by
  refine open_c (av := [.int i, .int n, .null]) (h := h) (E := E) (by decide +kernel) (by decide) (fun U hU => hU) ?_
  intro p e R s m below meth c r1 r2 r3 r4 C HR hS hret hlocks
  have hS0 : va_S (fun q => bs ≤ q) s.heap s.heap [] := vaS_of HR HR (fun _ _ => rfl) (fun _ hx => by cases hx)
  have hL := lv_entry [.int i, .int n, .null] (n := m_l mJ_pCheck) (Nat.le_of_ble_eq_true rfl)
  refine lv_iload_n C.1 C.2.1 (i := 0) (x := i) (show decode (m_b mJ_pCheck) 0 = .ok (.iload_n 0, 1) by decide +kernel) rfl (lv_at hL 0 rfl) ?_
  refine lv_if_lt C.1 C.2.1 (tgt := 9) (show decode (m_b mJ_pCheck) 1 = .ok (.ifCond .lt 8, 3) by decide +kernel) (by decide) (fun hx => absurd hx hi) (fun _ => ?_)
  refine lv_iload_n C.1 C.2.1 (i := 0) (x := i) (show decode (m_b mJ_pCheck) 4 = .ok (.iload_n 0, 1) by decide +kernel) rfl (lv_at hL 0 rfl) ?_
  refine lv_iload_n C.1 C.2.1 (i := 1) (x := n) (show decode (m_b mJ_pCheck) 5 = .ok (.iload_n 1, 1) by decide +kernel) rfl (lv_at hL 1 rfl) ?_
  refine lv_icmp_lt C.1 C.2.1 (tgt := 16) (show decode (m_b mJ_pCheck) 6 = .ok (.if_icmp .lt 10, 3) by decide +kernel) (by decide) (fun _ => ?_) (fun hx => absurd hn hx)
  refine lv_iload_n C.1 C.2.1 (i := 0) (x := i) (show decode (m_b mJ_pCheck) 16 = .ok (.iload_n 0, 1) by decide +kernel) rfl (lv_at hL 0 rfl) ?_
  exact W.iret C.1 C.2.1 hret (q_ret HR (fun _ _ => rfl) _) (fun _ hx => by cases hx) (show decode (m_b mJ_pCheck) 17 = .ok (.ireturn, 1) by decide +kernel) hlocks
theorem pCheckR_c (i n : Int32) (v : Nat) (d : Nat) (hi : ¬ i < 0) (hn : i < n) : Met l (m_y mJ_pCheck) (pws mJ_pCheck) (prm d 0 0) (va_Pc [.int i, .int n, .ref v] (PCx D X bs E h)) (PQ D X bs (some (.int (i))) h) 0 0 (fun q => bs ≤ q) := by
  refine open_c (av := [.int i, .int n, .ref v]) (h := h) (E := E) (by decide +kernel) (by decide) (fun U hU => hU) ?_
  intro p e R s m below meth c r1 r2 r3 r4 C HR hS hret hlocks
  have hS0 : va_S (fun q => bs ≤ q) s.heap s.heap [] := vaS_of HR HR (fun _ _ => rfl) (fun _ hx => by cases hx)
  have hL := lv_entry [.int i, .int n, .ref v] (n := m_l mJ_pCheck) (Nat.le_of_ble_eq_true rfl)
  refine lv_iload_n C.1 C.2.1 (i := 0) (x := i) (show decode (m_b mJ_pCheck) 0 = .ok (.iload_n 0, 1) by decide +kernel) rfl (lv_at hL 0 rfl) ?_
  refine lv_if_lt C.1 C.2.1 (tgt := 9) (show decode (m_b mJ_pCheck) 1 = .ok (.ifCond .lt 8, 3) by decide +kernel) (by decide) (fun hx => absurd hx hi) (fun _ => ?_)
  refine lv_iload_n C.1 C.2.1 (i := 0) (x := i) (show decode (m_b mJ_pCheck) 4 = .ok (.iload_n 0, 1) by decide +kernel) rfl (lv_at hL 0 rfl) ?_
  refine lv_iload_n C.1 C.2.1 (i := 1) (x := n) (show decode (m_b mJ_pCheck) 5 = .ok (.iload_n 1, 1) by decide +kernel) rfl (lv_at hL 1 rfl) ?_
  refine lv_icmp_lt C.1 C.2.1 (tgt := 16) (show decode (m_b mJ_pCheck) 6 = .ok (.if_icmp .lt 10, 3) by decide +kernel) (by decide) (fun _ => ?_) (fun hx => absurd hn hx)
  refine lv_iload_n C.1 C.2.1 (i := 0) (x := i) (show decode (m_b mJ_pCheck) 16 = .ok (.iload_n 0, 1) by decide +kernel) rfl (lv_at hL 0 rfl) ?_
  exact W.iret C.1 C.2.1 hret (q_ret HR (fun _ _ => rfl) _) (fun _ hx => by cases hx) (show decode (m_b mJ_pCheck) 17 = .ok (.ireturn, 1) by decide +kernel) hlocks
theorem sCheck_c (i n : Int32) (d : Nat) (hd : 1 ≤ d) (hi : ¬ i < 0) (hn : i < n) : Met l (m_y mJ_checkIndex) (pws mJ_checkIndex) (prm d 0 0) (va_Pc [.int i, .int n] (PCx D X bs E h)) (PQ D X bs none h) 0 0 (fun q => bs ≤ q) := by
  obtain ⟨f, rfl⟩ : ∃ f, d = f + 1 := ⟨d - 1, by omega⟩
  refine open_c (av := [.int i, .int n]) (h := h) (E := E) (by decide +kernel) (by decide) (fun U hU => hU) ?_
  intro p e R s m below meth c r1 r2 r3 r4 C HR hS hret hlocks
  have hS0 : va_S (fun q => bs ≤ q) s.heap s.heap [] := vaS_of HR HR (fun _ _ => rfl) (fun _ hx => by cases hx)
  have hL := lv_entry [.int i, .int n] (n := m_l mJ_checkIndex) (Nat.le_of_ble_eq_true rfl)
  refine lv_iload_n C.1 C.2.1 (i := 0) (x := i) (show decode (m_b mJ_checkIndex) 0 = .ok (.iload_n 0, 1) by decide +kernel) rfl (lv_at hL 0 rfl) ?_
  refine lv_iload_n C.1 C.2.1 (i := 1) (x := n) (show decode (m_b mJ_checkIndex) 1 = .ok (.iload_n 1, 1) by decide +kernel) rfl (lv_at hL 1 rfl) ?_
  rcases C.2.2.2.2.2.2.2.2.sio with hz | ⟨v, hz⟩
  · refine va_gets C.1 C.2.1 hz hS0 C.2.2.2.1 (C.2.2.2.2.1 _ (utb 793 (by decide +kernel) (by decide +kernel))) (fun _ hx => hx) (show decode (m_b mJ_checkIndex) 2 = .ok (.getstatic 1053, 3) by decide +kernel) ?_
    refine callS_w (N := mJ_pCheck) (d := f) (As := [.int i, .int n, .null]) (rest := []) C (show decode (m_b mJ_checkIndex) 5 = .ok (.invokestatic 1059, 3) by decide +kernel) (utb 795 (by decide +kernel) (by decide +kernel)) (utb 796 (by decide +kernel) (by decide +kernel)) (utb 80 (by decide +kernel) (by decide +kernel)) (utb 797 (by decide +kernel) (by decide +kernel)) ⟨by decide +kernel, by decide +kernel, (show (parseMethodDescriptor (m_y mJ_pCheck).desc).map (fun d => d.parameters.length) = some 3 by decide +kernel)⟩ ⟨by omega, by show 8 + (3 + 11) + 40 * f ≤ R.locals; omega, by omega, by omega⟩ (pCheckN_c i n 0 f hi hn) (fun u U hv hh hp => hp.same hv hh) (cx_at C HR (fun _ _ => rfl)) hL.1 (Nat.le_of_ble_eq_true rfl) (fun _ _ => rfl) (fun _ hx => by cases hx) ?_
    intro H1 locs1 HR1 gA1 gB1
    refine lv_pop C.1 C.2.1 (show decode (m_b mJ_checkIndex) 8 = .ok (.pop, 1) by decide +kernel) rfl ?_
    exact W.vret C.1 C.2.1 hret (q_retN HR1 gA1) gB1 (show decode (m_b mJ_checkIndex) 9 = .ok (.return_, 1) by decide +kernel) hlocks
  · refine va_gets C.1 C.2.1 hz hS0 C.2.2.2.1 (C.2.2.2.2.1 _ (utb 793 (by decide +kernel) (by decide +kernel))) (fun _ hx => hx) (show decode (m_b mJ_checkIndex) 2 = .ok (.getstatic 1053, 3) by decide +kernel) ?_
    refine callS_w (N := mJ_pCheck) (d := f) (As := [.int i, .int n, .ref v]) (rest := []) C (show decode (m_b mJ_checkIndex) 5 = .ok (.invokestatic 1059, 3) by decide +kernel) (utb 795 (by decide +kernel) (by decide +kernel)) (utb 796 (by decide +kernel) (by decide +kernel)) (utb 80 (by decide +kernel) (by decide +kernel)) (utb 797 (by decide +kernel) (by decide +kernel)) ⟨by decide +kernel, by decide +kernel, (show (parseMethodDescriptor (m_y mJ_pCheck).desc).map (fun d => d.parameters.length) = some 3 by decide +kernel)⟩ ⟨by omega, by show 8 + (3 + 11) + 40 * f ≤ R.locals; omega, by omega, by omega⟩ (pCheckR_c i n v f hi hn) (fun u U hv hh hp => hp.same hv hh) (cx_at C HR (fun _ _ => rfl)) hL.1 (Nat.le_of_ble_eq_true rfl) (fun _ _ => rfl) (fun _ hx => by cases hx) ?_
    intro H1 locs1 HR1 gA1 gB1
    refine lv_pop C.1 C.2.1 (show decode (m_b mJ_checkIndex) 8 = .ok (.pop, 1) by decide +kernel) rfl ?_
    exact W.vret C.1 C.2.1 hret (q_retN HR1 gA1) gB1 (show decode (m_b mJ_checkIndex) 9 = .ok (.return_, 1) by decide +kernel) hlocks
theorem lCharAt_c (n a : Nat) (b : Nat → Int32) (k : Nat) (d : Nat) (hd : 2 ≤ d) (hn : n < 2 ^ 31) (hk : k < n) : Met l (m_y mJ_lCharAt) (pws mJ_lCharAt) (prm d 0 0) (va_Pc [.ref a, .int (Int32.ofNat k)] (PCv D X bs E h n a b)) (PQ D X bs (some (.int (b k &&& 255))) h) 0 0 (fun q => bs ≤ q) := by
  obtain ⟨f, rfl⟩ : ∃ f, d = f + 1 := ⟨d - 1, by omega⟩
  refine open_c (av := [.ref a, .int (Int32.ofNat k)]) (h := h) (E := E) (by decide +kernel) (by decide) (fun U hU => hU.1) ?_
  intro p e R s m below meth c r1 r2 r3 r4 C HR hS hret hlocks
  have hS0 : va_S (fun q => bs ≤ q) s.heap s.heap [] := vaS_of HR HR (fun _ _ => rfl) (fun _ hx => by cases hx)
  have hL := lv_entry [.ref a, .int (Int32.ofNat k)] (n := m_l mJ_lCharAt) (Nat.le_of_ble_eq_true rfl)
  refine lv_iload_n C.1 C.2.1 (i := 1) (x := Int32.ofNat k) (show decode (m_b mJ_lCharAt) 0 = .ok (.iload_n 1, 1) by decide +kernel) rfl (lv_at hL 1 rfl) ?_
  refine lv_aload_n C.1 C.2.1 (i := 0) (x := a) (show decode (m_b mJ_lCharAt) 1 = .ok (.aload_n 0, 1) by decide +kernel) rfl (lv_at hL 0 rfl) ?_
  refine va_tlen C.1 C.2.1 hS.2 hS0 rfl (show decode (m_b mJ_lCharAt) 2 = .ok (.arraylength, 1) by decide +kernel) ?_
  refine callS_w (N := mJ_checkIndex) (d := f) (As := [.int (Int32.ofNat k), .int (Int32.ofNat n)]) (rest := []) C (show decode (m_b mJ_lCharAt) 3 = .ok (.invokestatic 9, 3) by decide +kernel) (utb 790 (by decide +kernel) (by decide +kernel)) (utb 791 (by decide +kernel) (by decide +kernel)) (utb 78 (by decide +kernel) (by decide +kernel)) (utb 792 (by decide +kernel) (by decide +kernel)) ⟨by decide +kernel, by decide +kernel, (show (parseMethodDescriptor (m_y mJ_checkIndex).desc).map (fun d => d.parameters.length) = some 2 by decide +kernel)⟩ ⟨by omega, by show 8 + (2 + 11) + 40 * f ≤ R.locals; omega, by omega, by omega⟩ (sCheck_c (Int32.ofNat k) (Int32.ofNat n) f (by omega) (nI_pos (by omega)) (nI_lt hk hn)) (fun u U hv hh hp => hp.same hv hh) (cx_at C HR (fun _ _ => rfl)) hL.1 (Nat.le_of_ble_eq_true rfl) (fun _ _ => rfl) (fun _ hx => by cases hx) ?_
  intro H1 locs1 HR1 gA1 gB1
  refine lv_aload_n C.1 C.2.1 (i := 0) (x := a) (show decode (m_b mJ_lCharAt) 6 = .ok (.aload_n 0, 1) by decide +kernel) rfl (lv_at hL 0 rfl) ?_
  refine lv_iload_n C.1 C.2.1 (i := 1) (x := Int32.ofNat k) (show decode (m_b mJ_lCharAt) 7 = .ok (.iload_n 1, 1) by decide +kernel) rfl (lv_at hL 1 rfl) ?_
  refine va_tb C.1 C.2.1 hS.2 (vaS_of HR HR1 gA1 gB1) (i := Int32.ofNat k) (nI_in hk hn) (v := .int (b k)) (by show Value.int (b (nI k).toNatClampNeg) = _; rw [nI_clamp (by omega)]) (show decode (m_b mJ_lCharAt) 8 = .ok (.baload, 1) by decide +kernel) ?_
  refine lv_sipush C.1 C.2.1 (v := 255) (show decode (m_b mJ_lCharAt) 9 = .ok (.sipush 255, 3) by decide +kernel) (by decide) ?_
  refine lv_iand C.1 C.2.1 (show decode (m_b mJ_lCharAt) 12 = .ok (.iand, 1) by decide +kernel) ?_
  refine lv_i2c C.1 C.2.1 (show decode (m_b mJ_lCharAt) 13 = .ok (.i2c, 1) by decide +kernel) (sc_c2 _) ?_
  exact W.zret (ty := .char) C.1 C.2.1 hret (sc_nar _) (q_ret HR1 gA1 _) gB1 (show decode (m_b mJ_lCharAt) 14 = .ok (.ireturn, 1) by decide +kernel) hlocks
theorem charAt_c (n a : Nat) (b : Nat → Int32) (k : Nat) (d : Nat) (hd : 3 ≤ d) (hn : n < 2 ^ 31) (hk : k < n) : Met l (m_y mJ_charAt) (pws mJ_charAt) (prm d 0 0) (va_Pc [.ref a, .int (Int32.ofNat k)] (PCs D X bs E h n a b)) (PQ D X bs (some (.int (b k &&& 255))) h) 0 0 (fun q => bs ≤ q) := by
  obtain ⟨f, rfl⟩ : ∃ f, d = f + 1 := ⟨d - 1, by omega⟩
  refine open_c (av := [.ref a, .int (Int32.ofNat k)]) (h := h) (E := E) (by decide +kernel) (by decide) (fun U hU => hU.1) ?_
  intro p e R s m below meth c r1 r2 r3 r4 C HR hS hret hlocks
  have hS0 : va_S (fun q => bs ≤ q) s.heap s.heap [] := vaS_of HR HR (fun _ _ => rfl) (fun _ hx => by cases hx)
  have hL := lv_entry [.ref a, .int (Int32.ofNat k)] (n := m_l mJ_charAt) (Nat.le_of_ble_eq_true rfl)
  obtain ⟨v, hv, hT⟩ := hS.2.2.2
  refine lv_aload_n C.1 C.2.1 (i := 0) (x := a) (show decode (m_b mJ_charAt) 0 = .ok (.aload_n 0, 1) by decide +kernel) rfl (lv_at hL 0 rfl) ?_
  refine callV_w (N := mJ_isLatin1) (d := f) (As := []) (rest := []) C (show decode (m_b mJ_charAt) 1 = .ok (.invokevirtual 492, 3) by decide +kernel) (utb 783 (by decide +kernel) (by decide +kernel)) (utb 784 (by decide +kernel) (by decide +kernel)) (utb 785 (by decide +kernel) (by decide +kernel)) (utb 78 (by decide +kernel) (by decide +kernel)) (utb 786 (by decide +kernel) (by decide +kernel)) ⟨by decide +kernel, by decide +kernel, (show (parseMethodDescriptor (m_y mJ_isLatin1).desc).map (fun d => d.parameters.length) = some 0 by decide +kernel)⟩ ⟨by omega, by show 8 + (1 + 11) + 40 * f ≤ R.locals; omega, by omega, by omega⟩ (isLatin1_c n a b f) (fun u U hv hh hp => hp.same hv hh) (STR.recv hS.2 (fun _ _ => rfl)) (PCs.at C HR (fun _ _ => rfl) hS.2) hL.1 (Nat.le_of_ble_eq_true rfl) (fun _ _ => rfl) (fun _ hx => by cases hx) ?_
  intro H1 locs1 HR1 gA1 gB1
  refine lv_if_eq C.1 C.2.1 (tgt := 16) (show decode (m_b mJ_charAt) 4 = .ok (.ifCond .eq 12, 3) by decide +kernel) (by decide) (fun hx => absurd hx (by decide)) (fun _ => ?_)
  refine lv_aload_n C.1 C.2.1 (i := 0) (x := a) (show decode (m_b mJ_charAt) 7 = .ok (.aload_n 0, 1) by decide +kernel) rfl (lv_at hL 0 rfl) ?_
  refine vk_getf C.1 C.2.1 hv (vaS_of HR HR1 gA1 gB1) C.2.2.2.1 (C.2.2.2.2.1 _ (utb 1561 (by decide +kernel) (by decide +kernel))) (fun _ hx => hx) (show decode (m_b mJ_charAt) 8 = .ok (.getfield 9, 3) by decide +kernel) ?_
  refine lv_iload_n C.1 C.2.1 (i := 1) (x := Int32.ofNat k) (show decode (m_b mJ_charAt) 11 = .ok (.iload_n 1, 1) by decide +kernel) rfl (lv_at hL 1 rfl) ?_
  refine callS_w (N := mJ_lCharAt) (d := f) (As := [.ref v, .int (Int32.ofNat k)]) (rest := []) C (show decode (m_b mJ_charAt) 12 = .ok (.invokestatic 495, 3) by decide +kernel) (utb 787 (by decide +kernel) (by decide +kernel)) (utb 788 (by decide +kernel) (by decide +kernel)) (utb 79 (by decide +kernel) (by decide +kernel)) (utb 789 (by decide +kernel) (by decide +kernel)) ⟨by decide +kernel, by decide +kernel, (show (parseMethodDescriptor (m_y mJ_lCharAt).desc).map (fun d => d.parameters.length) = some 2 by decide +kernel)⟩ ⟨by omega, by show 8 + (2 + 11) + 40 * f ≤ R.locals; omega, by omega, by omega⟩ (lCharAt_c n v b k f (by omega) hn hk) (fun u U hv hh hp => hp.same hv hh) (PCv.at C HR1 gA1 hT) hL.1 (Nat.le_of_ble_eq_true rfl) gA1 gB1 ?_
  intro H2 locs2 HR2 gA2 gB2
  exact W.zret (ty := .char) C.1 C.2.1 hret (sc_nar _) (q_ret HR2 gA2 _) gB2 (show decode (m_b mJ_charAt) 15 = .ok (.ireturn, 1) by decide +kernel) hlocks
theorem canEnc1_c (u : Int32) (d : Nat) (hi : ¬ u < 0) (hj : ¬ 255 < u) : Met l (m_y mJ_canEncode) (pws mJ_canEncode) (prm d 0 0) (va_Pc [.int u] (PCx D X bs E h)) (PQ D X bs (some (.int (1))) h) 0 0 (fun q => bs ≤ q) := by
  refine open_c (av := [.int u]) (h := h) (E := E) (by decide +kernel) (by decide) (fun U hU => hU) ?_
  intro p e R s m below meth c r1 r2 r3 r4 C HR hS hret hlocks
  have hS0 : va_S (fun q => bs ≤ q) s.heap s.heap [] := vaS_of HR HR (fun _ _ => rfl) (fun _ hx => by cases hx)
  have hL := lv_entry [.int u] (n := m_l mJ_canEncode) (Nat.le_of_ble_eq_true rfl)
  refine lv_iload_n C.1 C.2.1 (i := 0) (x := u) (show decode (m_b mJ_canEncode) 0 = .ok (.iload_n 0, 1) by decide +kernel) rfl (lv_at hL 0 rfl) ?_
  refine lv_if_lt C.1 C.2.1 (tgt := 15) (show decode (m_b mJ_canEncode) 1 = .ok (.ifCond .lt 14, 3) by decide +kernel) (by decide) (fun hx => absurd hx hi) (fun _ => ?_)
  refine lv_iload_n C.1 C.2.1 (i := 0) (x := u) (show decode (m_b mJ_canEncode) 4 = .ok (.iload_n 0, 1) by decide +kernel) rfl (lv_at hL 0 rfl) ?_
  refine lv_sipush C.1 C.2.1 (v := 255) (show decode (m_b mJ_canEncode) 5 = .ok (.sipush 255, 3) by decide +kernel) (by decide) ?_
  refine lv_icmp_gt C.1 C.2.1 (tgt := 15) (show decode (m_b mJ_canEncode) 8 = .ok (.if_icmp .gt 7, 3) by decide +kernel) (by decide) (fun hx => absurd hx hj) (fun _ => ?_)
  refine lv_iconst C.1 C.2.1 (v := 1) (show decode (m_b mJ_canEncode) 11 = .ok (.iconst 1, 1) by decide +kernel) (by decide) ?_
  refine lv_goto C.1 C.2.1 (tgt := 16) (show decode (m_b mJ_canEncode) 12 = .ok (.goto 4, 3) by decide +kernel) (by decide) ?_
  exact W.zret (ty := .boolean) C.1 C.2.1 hret rfl (q_ret HR (fun _ _ => rfl) 1) (fun _ hx => by cases hx) (show decode (m_b mJ_canEncode) 16 = .ok (.ireturn, 1) by decide +kernel) hlocks
theorem canEnc0_c (u : Int32) (d : Nat) (hi : u < 0 ∨ 255 < u) : Met l (m_y mJ_canEncode) (pws mJ_canEncode) (prm d 0 0) (va_Pc [.int u] (PCx D X bs E h)) (PQ D X bs (some (.int (0))) h) 0 0 (fun q => bs ≤ q) := by
  refine open_c (av := [.int u]) (h := h) (E := E) (by decide +kernel) (by decide) (fun U hU => hU) ?_
  intro p e R s m below meth c r1 r2 r3 r4 C HR hS hret hlocks
  have hS0 : va_S (fun q => bs ≤ q) s.heap s.heap [] := vaS_of HR HR (fun _ _ => rfl) (fun _ hx => by cases hx)
  have hL := lv_entry [.int u] (n := m_l mJ_canEncode) (Nat.le_of_ble_eq_true rfl)
  refine lv_iload_n C.1 C.2.1 (i := 0) (x := u) (show decode (m_b mJ_canEncode) 0 = .ok (.iload_n 0, 1) by decide +kernel) rfl (lv_at hL 0 rfl) ?_
  by_cases hi0 : u < 0
  · refine lv_if_lt C.1 C.2.1 (tgt := 15) (show decode (m_b mJ_canEncode) 1 = .ok (.ifCond .lt 14, 3) by decide +kernel) (by decide) (fun _ => ?_) (fun hx => absurd hi0 hx)
    refine lv_iconst C.1 C.2.1 (v := 0) (show decode (m_b mJ_canEncode) 15 = .ok (.iconst 0, 1) by decide +kernel) (by decide) ?_
    exact W.zret (ty := .boolean) C.1 C.2.1 hret rfl (q_ret HR (fun _ _ => rfl) 0) (fun _ hx => by cases hx) (show decode (m_b mJ_canEncode) 16 = .ok (.ireturn, 1) by decide +kernel) hlocks
  · refine lv_if_lt C.1 C.2.1 (tgt := 15) (show decode (m_b mJ_canEncode) 1 = .ok (.ifCond .lt 14, 3) by decide +kernel) (by decide) (fun hx => absurd hx hi0) (fun _ => ?_)
    refine lv_iload_n C.1 C.2.1 (i := 0) (x := u) (show decode (m_b mJ_canEncode) 4 = .ok (.iload_n 0, 1) by decide +kernel) rfl (lv_at hL 0 rfl) ?_
    refine lv_sipush C.1 C.2.1 (v := 255) (show decode (m_b mJ_canEncode) 5 = .ok (.sipush 255, 3) by decide +kernel) (by decide) ?_
    refine lv_icmp_gt C.1 C.2.1 (tgt := 15) (show decode (m_b mJ_canEncode) 8 = .ok (.if_icmp .gt 7, 3) by decide +kernel) (by decide) (fun _ => ?_) (fun hx => absurd (hi.resolve_left hi0) hx)
    refine lv_iconst C.1 C.2.1 (v := 0) (show decode (m_b mJ_canEncode) 15 = .ok (.iconst 0, 1) by decide +kernel) (by decide) ?_
    exact W.zret (ty := .boolean) C.1 C.2.1 hret rfl (q_ret HR (fun _ _ => rfl) 0) (fun _ hx => by cases hx) (show decode (m_b mJ_canEncode) 16 = .ok (.ireturn, 1) by decide +kernel) hlocks
/-- where a byte first stands -/
def ixG (b : Nat → Int32) (x : Int32) : Nat → Nat → Int32
  | 0, _ => -1
  | m + 1, k => if b k = x then Int32.ofNat k else ixG b x m (k + 1)
theorem lIndexOfChar_c (n a : Nat) (b : Nat → Int32) (u : Int32) (d : Nat) (hn : n < 2 ^ 31) : Met l (m_y mJ_lIndexOfChar) (pws mJ_lIndexOfChar) (prm d 0 0) (va_Pc [.ref a, .int u, .int 0, .int (Int32.ofNat n)] (PCv D X bs E h n a b)) (PQ D X bs (some (.int (ixG b u.toInt8.toInt32 n 0))) h) 0 0 (fun q => bs ≤ q) := by
  refine open_c (av := [.ref a, .int u, .int 0, .int (Int32.ofNat n)]) (h := h) (E := E) (by decide +kernel) (by decide) (fun U hU => hU.1) ?_
  intro p e R s m below meth c r1 r2 r3 r4 C HR hS hret hlocks
  have hS0 : va_S (fun q => bs ≤ q) s.heap s.heap [] := vaS_of HR HR (fun _ _ => rfl) (fun _ hx => by cases hx)
  have hL := lv_entry [.ref a, .int u, .int 0, .int (Int32.ofNat n)] (n := m_l mJ_lIndexOfChar) (Nat.le_of_ble_eq_true rfl)
  refine lv_iload_n C.1 C.2.1 (i := 1) (x := u) (show decode (m_b mJ_lIndexOfChar) 0 = .ok (.iload_n 1, 1) by decide +kernel) rfl (lv_at hL 1 rfl) ?_
  refine lv_i2b C.1 C.2.1 (show decode (m_b mJ_lIndexOfChar) 1 = .ok (.i2b, 1) by decide +kernel) rfl ?_
  refine lv_istore C.1 C.2.1 (i := 4) (nL := m_l mJ_lIndexOfChar) (x := u.toInt8.toInt32) (lv' := [(4, .int (u.toInt8.toInt32)), (0, .ref a), (1, .int u), (2, .int 0), (3, .int (Int32.ofNat n))]) (show decode (m_b mJ_lIndexOfChar) 2 = .ok (.istore 4, 2) by decide +kernel) hL (by decide) rfl ?_
  intro ls1 hL1
  refine lv_iload_n C.1 C.2.1 (i := 2) (x := 0) (show decode (m_b mJ_lIndexOfChar) 4 = .ok (.iload_n 2, 1) by decide +kernel) rfl (lv_at hL1 3 rfl) ?_
  refine lv_istore C.1 C.2.1 (i := 5) (nL := m_l mJ_lIndexOfChar) (x := 0) (lv' := [(5, .int 0), (4, .int (u.toInt8.toInt32)), (0, .ref a), (1, .int u), (2, .int 0), (3, .int (Int32.ofNat n))]) (show decode (m_b mJ_lIndexOfChar) 5 = .ok (.istore 5, 2) by decide +kernel) hL1 (by decide) rfl ?_
  intro ls2 hL2
  have loop : ∀ (m1 k : Nat), k + m1 = n → ixG b u.toInt8.toInt32 n 0 = ixG b u.toInt8.toInt32 m1 k → ∀ ls : Array Slot, lv_has ls (m_l mJ_lIndexOfChar) [(5, .int (Int32.ofNat k)), (4, .int u.toInt8.toInt32), (0, .ref a), (1, .int u), (2, .int 0), (3, .int (Int32.ofNat n))] → W p l e R s m ([.ref a, .int u, .int 0, .int (Int32.ofNat n)] : List Value).toArray below meth c s.heap [] 0 0 (MQ below (PQ D X bs (some (.int (ixG b u.toInt8.toInt32 n 0))) h) ([.ref a, .int u, .int 0, .int (Int32.ofNat n)] : List Value).toArray s 0 0 (fun q => bs ≤ q)) (F0 m 7 ls []) := by
    intro m1
    induction m1 with
    | zero =>
      intro k hk hr ls hl
      refine lv_iload C.1 C.2.1 (i := 5) (x := Int32.ofNat k) (show decode (m_b mJ_lIndexOfChar) 7 = .ok (.iload 5, 2) by decide +kernel) (lv_at hl 0 rfl) ?_
      refine lv_iload_n C.1 C.2.1 (i := 3) (x := Int32.ofNat n) (show decode (m_b mJ_lIndexOfChar) 9 = .ok (.iload_n 3, 1) by decide +kernel) rfl (lv_at hl 5 rfl) ?_
      refine lv_icmp_ge C.1 C.2.1 (tgt := 31) (show decode (m_b mJ_lIndexOfChar) 10 = .ok (.if_icmp .ge 21, 3) by decide +kernel) (by decide) (fun _ => ?_) (fun hx => absurd (nI_le (by omega) (by omega)) hx)
      rw [hr]
      refine lv_iconst C.1 C.2.1 (v := -1) (show decode (m_b mJ_lIndexOfChar) 31 = .ok (.iconst (-1), 1) by decide +kernel) (by decide) ?_
      exact W.iret C.1 C.2.1 hret (q_ret HR (fun _ _ => rfl) _) (fun _ hx => by cases hx) (show decode (m_b mJ_lIndexOfChar) 32 = .ok (.ireturn, 1) by decide +kernel) hlocks
    | succ m1 ih =>
      intro k hk hr ls hl
      refine lv_iload C.1 C.2.1 (i := 5) (x := Int32.ofNat k) (show decode (m_b mJ_lIndexOfChar) 7 = .ok (.iload 5, 2) by decide +kernel) (lv_at hl 0 rfl) ?_
      refine lv_iload_n C.1 C.2.1 (i := 3) (x := Int32.ofNat n) (show decode (m_b mJ_lIndexOfChar) 9 = .ok (.iload_n 3, 1) by decide +kernel) rfl (lv_at hl 5 rfl) ?_
      refine lv_icmp_ge C.1 C.2.1 (tgt := 31) (show decode (m_b mJ_lIndexOfChar) 10 = .ok (.if_icmp .ge 21, 3) by decide +kernel) (by decide) (fun hx => absurd hx (nI_ge (by omega) (by omega))) (fun _ => ?_)
      refine lv_aload_n C.1 C.2.1 (i := 0) (x := a) (show decode (m_b mJ_lIndexOfChar) 13 = .ok (.aload_n 0, 1) by decide +kernel) rfl (lv_at hl 2 rfl) ?_
      refine lv_iload C.1 C.2.1 (i := 5) (x := Int32.ofNat k) (show decode (m_b mJ_lIndexOfChar) 14 = .ok (.iload 5, 2) by decide +kernel) (lv_at hl 0 rfl) ?_
      refine va_tb C.1 C.2.1 hS.2 hS0 (i := Int32.ofNat k) (nI_in (by omega) hn) (v := .int (b k)) (by show Value.int (b (nI k).toNatClampNeg) = _; rw [nI_clamp (by omega)]) (show decode (m_b mJ_lIndexOfChar) 16 = .ok (.baload, 1) by decide +kernel) ?_
      refine lv_iload C.1 C.2.1 (i := 4) (x := u.toInt8.toInt32) (show decode (m_b mJ_lIndexOfChar) 17 = .ok (.iload 4, 2) by decide +kernel) (lv_at hl 1 rfl) ?_
      rw [ixG] at hr
      by_cases hb : b k = u.toInt8.toInt32
      · rw [if_pos hb] at hr
        refine lv_icmp_ne C.1 C.2.1 (tgt := 25) (show decode (m_b mJ_lIndexOfChar) 19 = .ok (.if_icmp .ne 6, 3) by decide +kernel) (by decide) (fun hx => absurd hb hx) (fun _ => ?_)
        refine lv_iload C.1 C.2.1 (i := 5) (x := Int32.ofNat k) (show decode (m_b mJ_lIndexOfChar) 22 = .ok (.iload 5, 2) by decide +kernel) (lv_at hl 0 rfl) ?_
        rw [hr]
        exact W.iret C.1 C.2.1 hret (q_ret HR (fun _ _ => rfl) _) (fun _ hx => by cases hx) (show decode (m_b mJ_lIndexOfChar) 24 = .ok (.ireturn, 1) by decide +kernel) hlocks
      · rw [if_neg hb] at hr
        refine lv_icmp_ne C.1 C.2.1 (tgt := 25) (show decode (m_b mJ_lIndexOfChar) 19 = .ok (.if_icmp .ne 6, 3) by decide +kernel) (by decide) (fun _ => ?_) (fun hx => absurd hx hb)
        refine lv_iinc C.1 C.2.1 (k := 0) (v := Int32.ofNat (k + 1)) (lv' := [(5, .int (Int32.ofNat (k + 1))), (4, .int u.toInt8.toInt32), (0, .ref a), (1, .int u), (2, .int 0), (3, .int (Int32.ofNat n))]) (show decode (m_b mJ_lIndexOfChar) 25 = .ok (.iinc 5 1, 3) by decide +kernel) hl rfl (nI_succ k).symm (by decide) rfl ?_
        intro ls2 hl2
        refine lv_goto C.1 C.2.1 (tgt := 7) (show decode (m_b mJ_lIndexOfChar) 28 = .ok (.goto (-21), 3) by decide +kernel) (by decide) ?_
        exact ih (k + 1) (by omega) hr ls2 hl2
  exact loop n 0 (by omega) rfl _ hL2
def ixO (b : Nat → Int32) (n : Nat) (u : Int32) : Int32 := if u < 0 ∨ 255 < u then -1 else ixG b u.toInt8.toInt32 n 0
theorem lIndexOf_c (n a : Nat) (b : Nat → Int32) (u : Int32) (d : Nat) (hd : 1 ≤ d) (h0 : 0 < n) (hn : n < 2 ^ 31) : Met l (m_y mJ_lIndexOf) (pws mJ_lIndexOf) (prm d 0 0) (va_Pc [.ref a, .int u, .int 0, .int (Int32.ofNat n)] (PCv D X bs E h n a b)) (PQ D X bs (some (.int (ixO b n u))) h) 0 0 (fun q => bs ≤ q) := by
  obtain ⟨f, rfl⟩ : ∃ f, d = f + 1 := ⟨d - 1, by omega⟩
  refine open_c (av := [.ref a, .int u, .int 0, .int (Int32.ofNat n)]) (h := h) (E := E) (by decide +kernel) (by decide) (fun U hU => hU.1) ?_
  intro p e R s m below meth c r1 r2 r3 r4 C HR hS hret hlocks
  have hS0 : va_S (fun q => bs ≤ q) s.heap s.heap [] := vaS_of HR HR (fun _ _ => rfl) (fun _ hx => by cases hx)
  have hL := lv_entry [.ref a, .int u, .int 0, .int (Int32.ofNat n)] (n := m_l mJ_lIndexOf) (Nat.le_of_ble_eq_true rfl)
  refine lv_iload_n C.1 C.2.1 (i := 1) (x := u) (show decode (m_b mJ_lIndexOf) 0 = .ok (.iload_n 1, 1) by decide +kernel) rfl (lv_at hL 1 rfl) ?_
  unfold ixO
  by_cases hu : u < 0 ∨ 255 < u
  · rw [if_pos hu]
    refine callS_w (N := mJ_canEncode) (d := f) (As := [.int u]) (rest := []) C (show decode (m_b mJ_lIndexOf) 1 = .ok (.invokestatic 88, 3) by decide +kernel) (utb 886 (by decide +kernel) (by decide +kernel)) (utb 887 (by decide +kernel) (by decide +kernel)) (utb 79 (by decide +kernel) (by decide +kernel)) (utb 888 (by decide +kernel) (by decide +kernel)) ⟨by decide +kernel, by decide +kernel, (show (parseMethodDescriptor (m_y mJ_canEncode).desc).map (fun d => d.parameters.length) = some 1 by decide +kernel)⟩ ⟨by omega, by show 8 + (1 + 11) + 40 * f ≤ R.locals; omega, by omega, by omega⟩ (canEnc0_c u f hu) (fun u U hv hh hp => hp.same hv hh) (cx_at C HR (fun _ _ => rfl)) hL.1 (Nat.le_of_ble_eq_true rfl) (fun _ _ => rfl) (fun _ hx => by cases hx) ?_
    intro H1 locs1 HR1 gA1 gB1
    refine lv_if_ne C.1 C.2.1 (tgt := 9) (show decode (m_b mJ_lIndexOf) 4 = .ok (.ifCond .ne 5, 3) by decide +kernel) (by decide) (fun hx => absurd rfl hx) (fun _ => ?_)
    refine lv_iconst C.1 C.2.1 (v := -1) (show decode (m_b mJ_lIndexOf) 7 = .ok (.iconst (-1), 1) by decide +kernel) (by decide) ?_
    exact W.iret C.1 C.2.1 hret (q_ret HR1 gA1 _) gB1 (show decode (m_b mJ_lIndexOf) 8 = .ok (.ireturn, 1) by decide +kernel) hlocks
  · rw [if_neg hu]
    refine callS_w (N := mJ_canEncode) (d := f) (As := [.int u]) (rest := []) C (show decode (m_b mJ_lIndexOf) 1 = .ok (.invokestatic 88, 3) by decide +kernel) (utb 886 (by decide +kernel) (by decide +kernel)) (utb 887 (by decide +kernel) (by decide +kernel)) (utb 79 (by decide +kernel) (by decide +kernel)) (utb 888 (by decide +kernel) (by decide +kernel)) ⟨by decide +kernel, by decide +kernel, (show (parseMethodDescriptor (m_y mJ_canEncode).desc).map (fun d => d.parameters.length) = some 1 by decide +kernel)⟩ ⟨by omega, by show 8 + (1 + 11) + 40 * f ≤ R.locals; omega, by omega, by omega⟩ (canEnc1_c u f (fun q => hu (Or.inl q)) (fun q => hu (Or.inr q))) (fun u U hv hh hp => hp.same hv hh) (cx_at C HR (fun _ _ => rfl)) hL.1 (Nat.le_of_ble_eq_true rfl) (fun _ _ => rfl) (fun _ hx => by cases hx) ?_
    intro H1 locs1 HR1 gA1 gB1
    refine lv_if_ne C.1 C.2.1 (tgt := 9) (show decode (m_b mJ_lIndexOf) 4 = .ok (.ifCond .ne 5, 3) by decide +kernel) (by decide) (fun _ => ?_) (fun hx => absurd hx (by decide))
    refine lv_iload_n C.1 C.2.1 (i := 2) (x := 0) (show decode (m_b mJ_lIndexOf) 9 = .ok (.iload_n 2, 1) by decide +kernel) rfl (lv_at hL 2 rfl) ?_
    refine lv_iconst C.1 C.2.1 (v := 0) (show decode (m_b mJ_lIndexOf) 10 = .ok (.iconst 0, 1) by decide +kernel) (by decide) ?_
    refine va_mmax C.1 C.2.1 (by rw [C.2.2.1]; exact hL.1.symm) C.2.2.2.1 (C.2.2.2.2.1 _ (utb 889 (by decide +kernel) (by decide +kernel))) (C.2.2.2.2.1 _ (utb 442 (by decide +kernel) (by decide +kernel))) (C.2.2.2.2.1 _ (utb 75 (by decide +kernel) (by decide +kernel))) (C.2.2.2.2.1 _ (utb 443 (by decide +kernel) (by decide +kernel))) (by omega) (by show 0 + 13 ≤ R.locals; omega) (by omega) (by omega) (show decode (m_b mJ_lIndexOf) 11 = .ok (.invokestatic 92, 3) by decide +kernel) ?_
    rw [ite_self]
    refine lv_istore_n C.1 C.2.1 (i := 2) (nL := m_l mJ_lIndexOf) (x := 0) (lv' := [(2, .int 0), (0, .ref a), (1, .int u), (3, .int (Int32.ofNat n))]) (show decode (m_b mJ_lIndexOf) 14 = .ok (.istore_n 2, 1) by decide +kernel) rfl hL (by decide) rfl ?_
    intro ls2 hL2
    refine lv_iload_n C.1 C.2.1 (i := 3) (x := Int32.ofNat n) (show decode (m_b mJ_lIndexOf) 15 = .ok (.iload_n 3, 1) by decide +kernel) rfl (lv_at hL2 3 rfl) ?_
    refine lv_aload_n C.1 C.2.1 (i := 0) (x := a) (show decode (m_b mJ_lIndexOf) 16 = .ok (.aload_n 0, 1) by decide +kernel) rfl (lv_at hL2 1 rfl) ?_
    refine va_tlen C.1 C.2.1 hS.2 (vaS_of HR HR1 gA1 gB1) rfl (show decode (m_b mJ_lIndexOf) 17 = .ok (.arraylength, 1) by decide +kernel) ?_
    refine va_mmin C.1 C.2.1 (by rw [C.2.2.1]; exact hL2.1.symm) C.2.2.2.1 (C.2.2.2.2.1 _ (utb 890 (by decide +kernel) (by decide +kernel))) (C.2.2.2.2.1 _ (utb 439 (by decide +kernel) (by decide +kernel))) (C.2.2.2.2.1 _ (utb 75 (by decide +kernel) (by decide +kernel))) (C.2.2.2.2.1 _ (utb 440 (by decide +kernel) (by decide +kernel))) (by omega) (by show 0 + 13 ≤ R.locals; omega) (by omega) (by omega) (show decode (m_b mJ_lIndexOf) 18 = .ok (.invokestatic 38, 3) by decide +kernel) ?_
    rw [ite_self]
    refine lv_istore_n C.1 C.2.1 (i := 3) (nL := m_l mJ_lIndexOf) (x := Int32.ofNat n) (lv' := [(3, .int (Int32.ofNat n)), (2, .int 0), (0, .ref a), (1, .int u)]) (show decode (m_b mJ_lIndexOf) 21 = .ok (.istore_n 3, 1) by decide +kernel) rfl hL2 (by decide) rfl ?_
    intro ls3 hL3
    refine lv_iload_n C.1 C.2.1 (i := 2) (x := 0) (show decode (m_b mJ_lIndexOf) 22 = .ok (.iload_n 2, 1) by decide +kernel) rfl (lv_at hL3 1 rfl) ?_
    refine lv_iload_n C.1 C.2.1 (i := 3) (x := Int32.ofNat n) (show decode (m_b mJ_lIndexOf) 23 = .ok (.iload_n 3, 1) by decide +kernel) rfl (lv_at hL3 0 rfl) ?_
    refine lv_icmp_lt C.1 C.2.1 (tgt := 29) (show decode (m_b mJ_lIndexOf) 24 = .ok (.if_icmp .lt 5, 3) by decide +kernel) (by decide) (fun _ => ?_) (fun hx => absurd (nI_lt h0 hn) hx)
    refine lv_aload_n C.1 C.2.1 (i := 0) (x := a) (show decode (m_b mJ_lIndexOf) 29 = .ok (.aload_n 0, 1) by decide +kernel) rfl (lv_at hL3 2 rfl) ?_
    refine lv_iload_n C.1 C.2.1 (i := 1) (x := u) (show decode (m_b mJ_lIndexOf) 30 = .ok (.iload_n 1, 1) by decide +kernel) rfl (lv_at hL3 3 rfl) ?_
    refine lv_iload_n C.1 C.2.1 (i := 2) (x := 0) (show decode (m_b mJ_lIndexOf) 31 = .ok (.iload_n 2, 1) by decide +kernel) rfl (lv_at hL3 1 rfl) ?_
    refine lv_iload_n C.1 C.2.1 (i := 3) (x := Int32.ofNat n) (show decode (m_b mJ_lIndexOf) 32 = .ok (.iload_n 3, 1) by decide +kernel) rfl (lv_at hL3 0 rfl) ?_
    refine callS_w (N := mJ_lIndexOfChar) (d := f) (As := [.ref a, .int u, .int 0, .int (Int32.ofNat n)]) (rest := []) C (show decode (m_b mJ_lIndexOf) 33 = .ok (.invokestatic 95, 3) by decide +kernel) (utb 891 (by decide +kernel) (by decide +kernel)) (utb 892 (by decide +kernel) (by decide +kernel)) (utb 79 (by decide +kernel) (by decide +kernel)) (utb 893 (by decide +kernel) (by decide +kernel)) ⟨by decide +kernel, by decide +kernel, (show (parseMethodDescriptor (m_y mJ_lIndexOfChar).desc).map (fun d => d.parameters.length) = some 4 by decide +kernel)⟩ ⟨by omega, by show 8 + (6 + 11) + 40 * f ≤ R.locals; omega, by omega, by omega⟩ (lIndexOfChar_c n a b u f hn) (fun u U hv hh hp => hp.same hv hh) (PCv.at C HR1 gA1 hS.2) hL3.1 (Nat.le_of_ble_eq_true rfl) gA1 gB1 ?_
    intro H4 locs4 HR4 gA4 gB4
    exact W.iret C.1 C.2.1 hret (q_ret HR4 gA4 _) gB4 (show decode (m_b mJ_lIndexOf) 36 = .ok (.ireturn, 1) by decide +kernel) hlocks
theorem indexOf2_c (n a : Nat) (b : Nat → Int32) (u : Int32) (d : Nat) (hd : 2 ≤ d) (h0 : 0 < n) (hn : n < 2 ^ 31) : Met l (m_y mJ_indexOf2) (pws mJ_indexOf2) (prm d 0 0) (va_Pc [.ref a, .int u, .int 0] (PCs D X bs E h n a b)) (PQ D X bs (some (.int (ixO b n u))) h) 0 0 (fun q => bs ≤ q) := by
  obtain ⟨f, rfl⟩ : ∃ f, d = f + 1 := ⟨d - 1, by omega⟩
  refine open_c (av := [.ref a, .int u, .int 0]) (h := h) (E := E) (by decide +kernel) (by decide) (fun U hU => hU.1) ?_
  intro p e R s m below meth c r1 r2 r3 r4 C HR hS hret hlocks
  have hS0 : va_S (fun q => bs ≤ q) s.heap s.heap [] := vaS_of HR HR (fun _ _ => rfl) (fun _ hx => by cases hx)
  have hL := lv_entry [.ref a, .int u, .int 0] (n := m_l mJ_indexOf2) (Nat.le_of_ble_eq_true rfl)
  obtain ⟨v, hv, hT⟩ := hS.2.2.2
  refine lv_aload_n C.1 C.2.1 (i := 0) (x := a) (show decode (m_b mJ_indexOf2) 0 = .ok (.aload_n 0, 1) by decide +kernel) rfl (lv_at hL 0 rfl) ?_
  refine callV_w (N := mJ_isLatin1) (d := f) (As := []) (rest := []) C (show decode (m_b mJ_indexOf2) 1 = .ok (.invokevirtual 492, 3) by decide +kernel) (utb 783 (by decide +kernel) (by decide +kernel)) (utb 784 (by decide +kernel) (by decide +kernel)) (utb 785 (by decide +kernel) (by decide +kernel)) (utb 78 (by decide +kernel) (by decide +kernel)) (utb 786 (by decide +kernel) (by decide +kernel)) ⟨by decide +kernel, by decide +kernel, (show (parseMethodDescriptor (m_y mJ_isLatin1).desc).map (fun d => d.parameters.length) = some 0 by decide +kernel)⟩ ⟨by omega, by show 8 + (1 + 11) + 40 * f ≤ R.locals; omega, by omega, by omega⟩ (isLatin1_c n a b f) (fun u U hv hh hp => hp.same hv hh) (STR.recv hS.2 (fun _ _ => rfl)) (PCs.at C HR (fun _ _ => rfl) hS.2) hL.1 (Nat.le_of_ble_eq_true rfl) (fun _ _ => rfl) (fun _ hx => by cases hx) ?_
  intro H1 locs1 HR1 gA1 gB1
  refine lv_if_eq C.1 C.2.1 (tgt := 23) (show decode (m_b mJ_indexOf2) 4 = .ok (.ifCond .eq 19, 3) by decide +kernel) (by decide) (fun hx => absurd hx (by decide)) (fun _ => ?_)
  refine lv_aload_n C.1 C.2.1 (i := 0) (x := a) (show decode (m_b mJ_indexOf2) 7 = .ok (.aload_n 0, 1) by decide +kernel) rfl (lv_at hL 0 rfl) ?_
  refine vk_getf C.1 C.2.1 hv (vaS_of HR HR1 gA1 gB1) C.2.2.2.1 (C.2.2.2.2.1 _ (utb 1561 (by decide +kernel) (by decide +kernel))) (fun _ hx => hx) (show decode (m_b mJ_indexOf2) 8 = .ok (.getfield 9, 3) by decide +kernel) ?_
  refine lv_iload_n C.1 C.2.1 (i := 1) (x := u) (show decode (m_b mJ_indexOf2) 11 = .ok (.iload_n 1, 1) by decide +kernel) rfl (lv_at hL 1 rfl) ?_
  refine lv_iload_n C.1 C.2.1 (i := 2) (x := 0) (show decode (m_b mJ_indexOf2) 12 = .ok (.iload_n 2, 1) by decide +kernel) rfl (lv_at hL 2 rfl) ?_
  refine lv_aload_n C.1 C.2.1 (i := 0) (x := a) (show decode (m_b mJ_indexOf2) 13 = .ok (.aload_n 0, 1) by decide +kernel) rfl (lv_at hL 0 rfl) ?_
  refine callV_w (N := mJ_length) (d := f) (As := []) (rest := [.int 0, .int u, .ref v]) C (show decode (m_b mJ_indexOf2) 14 = .ok (.invokevirtual 505, 3) by decide +kernel) (utb 882 (by decide +kernel) (by decide +kernel)) (utb 770 (by decide +kernel) (by decide +kernel)) (utb 771 (by decide +kernel) (by decide +kernel)) (utb 78 (by decide +kernel) (by decide +kernel)) (utb 772 (by decide +kernel) (by decide +kernel)) ⟨by decide +kernel, by decide +kernel, (show (parseMethodDescriptor (m_y mJ_length).desc).map (fun d => d.parameters.length) = some 0 by decide +kernel)⟩ ⟨by omega, by show 8 + (1 + 11) + 40 * f ≤ R.locals; omega, by omega, by omega⟩ (length_c n a b f (by omega) hn) (fun u U hv hh hp => hp.same hv hh) (STR.recv hS.2 gA1) (PCs.at C HR1 gA1 hS.2) hL.1 (Nat.le_of_ble_eq_true rfl) gA1 gB1 ?_
  intro H2 locs2 HR2 gA2 gB2
  refine callS_w (N := mJ_lIndexOf) (d := f) (As := [.ref v, .int u, .int 0, .int (Int32.ofNat n)]) (rest := []) C (show decode (m_b mJ_indexOf2) 17 = .ok (.invokestatic 637, 3) by decide +kernel) (utb 883 (by decide +kernel) (by decide +kernel)) (utb 884 (by decide +kernel) (by decide +kernel)) (utb 79 (by decide +kernel) (by decide +kernel)) (utb 885 (by decide +kernel) (by decide +kernel)) ⟨by decide +kernel, by decide +kernel, (show (parseMethodDescriptor (m_y mJ_lIndexOf).desc).map (fun d => d.parameters.length) = some 4 by decide +kernel)⟩ ⟨by omega, by show 8 + (4 + 11) + 40 * f ≤ R.locals; omega, by omega, by omega⟩ (lIndexOf_c n v b u f (by omega) h0 hn) (fun u U hv hh hp => hp.same hv hh) (PCv.at C HR2 gA2 hT) hL.1 (Nat.le_of_ble_eq_true rfl) gA2 gB2 ?_
  intro H3 locs3 HR3 gA3 gB3
  refine lv_goto C.1 C.2.1 (tgt := 36) (show decode (m_b mJ_indexOf2) 20 = .ok (.goto 16, 3) by decide +kernel) (by decide) ?_
  exact W.iret C.1 C.2.1 hret (q_ret HR3 gA3 _) gB3 (show decode (m_b mJ_indexOf2) 36 = .ok (.ireturn, 1) by decide +kernel) hlocks
theorem indexOf1_c (n a : Nat) (b : Nat → Int32) (u : Int32) (d : Nat) (hd : 3 ≤ d) (h0 : 0 < n) (hn : n < 2 ^ 31) : Met l (m_y mJ_indexOf1) (pws mJ_indexOf1) (prm d 0 0) (va_Pc [.ref a, .int u] (PCs D X bs E h n a b)) (PQ D X bs (some (.int (ixO b n u))) h) 0 0 (fun q => bs ≤ q) := by
  obtain ⟨f, rfl⟩ : ∃ f, d = f + 1 := ⟨d - 1, by omega⟩
  refine open_c (av := [.ref a, .int u]) (h := h) (E := E) (by decide +kernel) (by decide) (fun U hU => hU.1) ?_
  intro p e R s m below meth c r1 r2 r3 r4 C HR hS hret hlocks
  have hS0 : va_S (fun q => bs ≤ q) s.heap s.heap [] := vaS_of HR HR (fun _ _ => rfl) (fun _ hx => by cases hx)
  have hL := lv_entry [.ref a, .int u] (n := m_l mJ_indexOf1) (Nat.le_of_ble_eq_true rfl)
  refine lv_aload_n C.1 C.2.1 (i := 0) (x := a) (show decode (m_b mJ_indexOf1) 0 = .ok (.aload_n 0, 1) by decide +kernel) rfl (lv_at hL 0 rfl) ?_
  refine lv_iload_n C.1 C.2.1 (i := 1) (x := u) (show decode (m_b mJ_indexOf1) 1 = .ok (.iload_n 1, 1) by decide +kernel) rfl (lv_at hL 1 rfl) ?_
  refine lv_iconst C.1 C.2.1 (v := 0) (show decode (m_b mJ_indexOf1) 2 = .ok (.iconst 0, 1) by decide +kernel) (by decide) ?_
  refine callV_w (N := mJ_indexOf2) (d := f) (As := [.int u, .int 0]) (rest := []) C (show decode (m_b mJ_indexOf1) 3 = .ok (.invokevirtual 633, 3) by decide +kernel) (utb 878 (by decide +kernel) (by decide +kernel)) (utb 879 (by decide +kernel) (by decide +kernel)) (utb 880 (by decide +kernel) (by decide +kernel)) (utb 78 (by decide +kernel) (by decide +kernel)) (utb 881 (by decide +kernel) (by decide +kernel)) ⟨by decide +kernel, by decide +kernel, (show (parseMethodDescriptor (m_y mJ_indexOf2).desc).map (fun d => d.parameters.length) = some 2 by decide +kernel)⟩ ⟨by omega, by show 8 + (3 + 11) + 40 * f ≤ R.locals; omega, by omega, by omega⟩ (indexOf2_c n a b u f (by omega) h0 hn) (fun u U hv hh hp => hp.same hv hh) (STR.recv hS.2 (fun _ _ => rfl)) (PCs.at C HR (fun _ _ => rfl) hS.2) hL.1 (Nat.le_of_ble_eq_true rfl) (fun _ _ => rfl) (fun _ hx => by cases hx) ?_
  intro H1 locs1 HR1 gA1 gB1
  exact W.iret C.1 C.2.1 hret (q_ret HR1 gA1 _) gB1 (show decode (m_b mJ_indexOf1) 6 = .ok (.ireturn, 1) by decide +kernel) hlocks
end WRD
