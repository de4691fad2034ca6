/-! ===== the three words of the reader: their lengths; isWord where the length does not fit; keyRead (word places printed by program) ===== -/
theorem utb {w : Cond} (i : Nat) (h1 : lw_tbl[i]? = some w) (h2 : uword w = true) : w ∈ utbl := List.mem_filter.mpr ⟨List.mem_of_getElem? h1, h2⟩
theorem ltb {w : Cond} (i : Nat) (h1 : lw_tbl[i]? = some w) : w ∈ lw_tbl := List.mem_of_getElem? h1
def STR (bs n a : Nat) (b : Nat → Int32) (U : State) (H : Heap) : Prop := va_O "java/lang/String" a (fun q => bs ≤ q) U H ∧ va_OF "java/lang/String" "coder" "B" (.int 0) a (fun q => bs ≤ q) U H ∧ ∃ v : Nat, va_OF "java/lang/String" "value" "[B" (.ref v) a (fun q => bs ≤ q) U H ∧ va_T .byte v n (fun j => .int (b j)) (fun q => bs ≤ q) U H
theorem STR.to {bs n a : Nat} {b : Nat → Int32} {u U : State} {H H1 : Heap} (hvm : u.vm.Alike U.vm) (hl : ∀ q : Nat, q < bs → H1[q]? = H[q]?) (h : STR bs n a b u H) : STR bs n a b U H1 := by
  have hk : ∀ a : Nat, a < H.size → ¬ bs ≤ a → H1[a]? = H[a]? := fun a _ hb => hl a (Nat.not_le.mp hb)
  obtain ⟨h1, h2, v, h3, h4⟩ := h
  exact ⟨(h1.moved hvm).kept hk, (h2.moved hvm).kept hk, v, (h3.moved hvm).kept hk, (h4.moved hvm).kept hk⟩
theorem str_of {A : Array Value} {s0 : State} {t : Term} {n : Nat} {b : Nat → Int32} (hn : n < 2 ^ 31) (hex : (Cond.exactly t "java/lang/String").before A s0 = true) (hco : (Cond.eq (.field t "java/lang/String" "coder" "B") (.int 0)).before A s0 = true) (har : (Cond.arrayOf (.field t "java/lang/String" "value" "[B") .byte).before A s0 = true)
    (hle : (Cond.eq (.length (.field t "java/lang/String" "value" "[B")) (.int (Int32.ofNat n))).before A s0 = true) (hel : ∀ j : Nat, j < n → (Cond.eq (.elem (.field t "java/lang/String" "value" "[B") (.int (Int32.ofNat j))) (.int (b j))).before A s0 = true) : ∃ a : Nat, t.eval A s0 none [] s0 = some (.ref a) ∧ STR s0.heap.size n a b s0 s0.heap := by
  have hA : ∀ a : Nat, a < s0.heap.size → ¬ (fun q : Nat => s0.heap.size ≤ q) a := fun a h1 h2 => absurd h1 (Nat.not_lt.mpr h2)
  obtain ⟨a, c, cA, kA, q1, q2, q3, q4, q5, q6, -⟩ := Cond.exactly_spec (args := A) (first := s0) (o := none) (s := s0) (idx := []) (t := t) (cls := "java/lang/String") hex
  obtain ⟨v, ht, hT⟩ := va_Tof (f := fun j => .int (b j)) (A := fun q : Nat => s0.heap.size ≤ q) hn har (va_eqt hle) (fun j hj => va_eqt (hel j hj)) hA
  exact ⟨a, q1, ⟨cA, q3, q5, by rw [q6]; exact q2, hA a (Array.getElem?_eq_some_iff.mp q3).1⟩, vk_OFof q1 (va_eqt hco) hA, v, vk_OFof q1 ht hA, hT⟩
def bW0 : Nat → Int32 := fun j => ([103, 97, 105, 110] : List Int32).getD j 0
def bW1 : Nat → Int32 := fun j => ([102, 101, 101] : List Int32).getD j 0
def bW2 : Nat → Int32 := fun j => ([102, 105, 110, 101] : List Int32).getD j 0
theorem GS.words {bs : Nat} {U : State} (h : GS bs U) : va_Z "java/lang/String" "COMPACT_STRINGS" "Z" (.int 1) (fun q => bs ≤ q) U U.heap ∧ ∃ a0 a1 a2 : Nat, STR bs 4 a0 bW0 U U.heap ∧ STR bs 3 a1 bW1 U U.heap ∧ STR bs 4 a2 bW2 U U.heap ∧ vk_R "StoneSheets$Reader" 79 "gain" a0 U ∧ vk_R "StoneSheets$Reader" 85 "fee" a1 U ∧ vk_R "StoneSheets$Reader" 87 "fine" a2 U := by
  obtain ⟨A, s0, hts, hg, hW, rfl, hl⟩ := h
  have hs := flat_of_before _ hg
  have hA : ∀ a : Nat, a < s0.heap.size → ¬ (fun q : Nat => s0.heap.size ≤ q) a := fun a h1 h2 => absurd h1 (Nat.not_lt.mpr h2)
  have hk : ∀ a : Nat, a < s0.heap.size → ¬ s0.heap.size ≤ a → U.heap[a]? = s0.heap[a]? := fun a h1 _ => hl a h1
  have c1 : (Cond.eq (.static "java/lang/String" "COMPACT_STRINGS" "Z") (.int 1)).before A s0 = true := hs _ (by decide +kernel)
  have c2 : (Cond.laysStatic "java/lang/String" "COMPACT_STRINGS" "Z").before A s0 = true := hts _ (ltb 778 (by decide +kernel))
  have c3 : (Cond.initialized "java/lang/String").before A s0 = true := hts _ (ltb 78 (by decide +kernel))
  have hz := va_Zof (A := fun q : Nat => s0.heap.size ≤ q) c2 c3 (va_eqi c1) hA
  obtain ⟨a0, e0, s0_⟩ := str_of (A := A) (s0 := s0) (t := .string "StoneSheets$Reader" 79) (n := 4) (b := bW0) (by decide) (hs _ (by decide +kernel)) (hs _ (by decide +kernel)) (hs _ (by decide +kernel)) (hs _ (by decide +kernel)) (fun j hj => by
    match j, hj with
    | 0, _ => exact hs _ (by decide +kernel)
    | 1, _ => exact hs _ (by decide +kernel)
    | 2, _ => exact hs _ (by decide +kernel)
    | 3, _ => exact hs _ (by decide +kernel))
  obtain ⟨a1, e1, s1_⟩ := str_of (A := A) (s0 := s0) (t := .string "StoneSheets$Reader" 85) (n := 3) (b := bW1) (by decide) (hs _ (by decide +kernel)) (hs _ (by decide +kernel)) (hs _ (by decide +kernel)) (hs _ (by decide +kernel)) (fun j hj => by
    match j, hj with
    | 0, _ => exact hs _ (by decide +kernel)
    | 1, _ => exact hs _ (by decide +kernel)
    | 2, _ => exact hs _ (by decide +kernel))
  obtain ⟨a2, e2, s2_⟩ := str_of (A := A) (s0 := s0) (t := .string "StoneSheets$Reader" 87) (n := 4) (b := bW2) (by decide) (hs _ (by decide +kernel)) (hs _ (by decide +kernel)) (hs _ (by decide +kernel)) (hs _ (by decide +kernel)) (fun j hj => by
    match j, hj with
    | 0, _ => exact hs _ (by decide +kernel)
    | 1, _ => exact hs _ (by decide +kernel)
    | 2, _ => exact hs _ (by decide +kernel)
    | 3, _ => exact hs _ (by decide +kernel))
  refine ⟨(hz.moved hW.alike).kept hk, a0, a1, a2, s0_.to hW.alike hl, s1_.to hW.alike hl, s2_.to hW.alike hl, ?_, ?_, ?_⟩
  · exact (vk_R.of (A := A) (hts _ (ltb 764 (by decide +kernel))) e0).warm hW
  · exact (vk_R.of (A := A) (hts _ (ltb 817 (by decide +kernel))) e1).warm hW
  · exact (vk_R.of (A := A) (hts _ (ltb 818 (by decide +kernel))) e2).warm hW
def mJ_length : pM := (⟨"java/lang/String", "length", "()I"⟩, prog_14_method_54_code, 1, some .int, 1, 99, [])
def mJ_coder : pM := (⟨"java/lang/String", "coder", "()B"⟩, prog_14_method_152_code, 1, some .byte, 1, 99, [])
section WRD
variable {p : Program} {l : Launch} {e : Env} {R : Room} {s : State} {m : MethodId} {args : Array Value} {below : List Frame} {meth : Method} {c : Code} {Q : State → Prop} {D : va_G} {X : Nat → Nat} {bs : Nat} {E : pX} {M N : pM}
variable {pc y index : Nat} {h h1 : List pC} {cells slots d : Nat} {r : Option Value} {H : Heap} {locs : List Loc} {ls : Array Slot} {rest : List Value}
/-- a contract out of a walk of the body -/
theorem open_c {av : List Value} {Pc0 : State → Prop} (hy : plainName (m_y M).cls = true) (hk : m_k M ≠ 2) (hP : ∀ U, Pc0 U → PCx D X bs E h U)
    (body : ∀ (p : Program) (e : Env) (R : Room) (s : State) (m : MethodId) (below : List Frame) (meth : Method) (c : Code), R.frames = d → R.locals = 40 * d → R.cells = 0 → R.slots = 0 → Cx p s m av.toArray meth c D X bs E M → Rep D X bs s h s.heap → Pc0 s → meth.sig.returnType = m_r M → meth.locks = false →
      W p l e R s m av.toArray below meth c s.heap [] 0 0 (MQ below (PQ D X bs r h1) av.toArray s 0 0 (fun q => bs ≤ q)) (F0 m 0 ((lg_sl av ++ List.replicate (m_l M - (lg_sl av).length) Slot.unset).toArray) [])) : Met l (m_y M) (pws M) (prm d 0 0) (va_Pc av Pc0) (PQ D X bs r h1) 0 0 (fun q => bs ≤ q) := by
  refine Met.ofW (cc := m_b M) (maxL := m_l M) (ret := m_r M) hy rfl ?_
  intro p e s m args below meth c s₁ B hml hv
  obtain ⟨rfl, hp0⟩ := hv
  obtain ⟨hR, hK, hE, hN, hG⟩ := hP _ hp0
  have hts : ∀ w ∈ pws M, w.before av.toArray s = true := atoms_spec (ws := pws M) B.pre
  have C : Cx p s m av.toArray meth c D X bs E M := ⟨B.exec, B.bytes, hml, findClass_of_methodNamed B.named, fun w hw => (by
    obtain ⟨hw1, hw2⟩ := List.mem_filter.mp hw
    by_cases hg : goodWord w = true
    · exact hts w (List.mem_cons_of_mem _ (List.mem_filter.mpr ⟨hw1, hg⟩))
    · have hn : nword w = true := by
        unfold uword at hw2
        rw [show goodWord w = false by simpa using hg, Bool.false_or] at hw2
        exact hw2
      exact nword_same hn rfl (hN w hw hn)), hK, hE, fun h2 => absurd h2 hk, hG⟩
  rw [lg_entry_eq]
  exact body p e (headSpec (pws M) (prm d 0 0)).room s m below meth c rfl rfl rfl rfl C hR hp0 B.returns B.notSynchronized
/-- a call of an instance method by its contract, at the machine's own values -/
theorem callV_w {b : Addr} {As : List Value} {SP : State → Prop} (C : Cx p s m args meth c D X bs E M) (hd : decode (m_b M) pc = .ok (.invokevirtual index, 3)) (w1 : Cond.methodLink (m_y M).cls index (m_y N) ∈ utbl) (w2 : Cond.instanceMethod (m_y N) ∈ utbl) (w3 : Cond.selects (m_y N).cls (m_y N) (m_y N) ∈ utbl) (w4 : Cond.initialized (m_y N).cls ∈ utbl) (w5 : Cond.code (m_y N) (m_b N) (m_l N) (m_r N) ∈ utbl)
    (hy : (m_y N).cls ≠ "java/lang/invoke/MethodHandle" ∧ (m_y N).cls ≠ "java/lang/invoke/VarHandle" ∧ (parseMethodDescriptor (m_y N).desc).map (fun d => d.parameters.length) = some As.length) (hroom : d + 1 ≤ R.frames ∧ 8 + (m_l N + 11) + 40 * d ≤ R.locals ∧ cells ≤ R.cells ∧ slots ≤ R.slots)
    (hM : Met l (m_y N) (pws N) (prm d 0 0) (va_Pc (.ref b :: As) SP) (PQ D X bs r h1) 0 0 (fun q => bs ≤ q)) (hb : ∀ u U : State, u.vm = U.vm → U.heap = u.heap → SP u → SP U)
    (hrecv : ∃ cellB : Cell, H[b]? = some cellB ∧ cellB.vm.isStatics = false ∧ s.vm.findClass (m_y N).cls = some cellB.cls) (hSP : ∀ U : State, U.heap = H → s.WarmedH U.vm → SP U) (hls : ls.size = m_l M) (h8 : (rest.map fun v => v.category).sum ≤ 8) (g1 : ∀ q : Nat, q < bs → H[q]? = s.heap[q]?) (g2 : ∀ x ∈ locs, bs ≤ x.base)
    (kk : ∀ (H1 : Heap) (locs1 : List Loc), Rep D X bs s h1 H1 → (∀ q : Nat, q < bs → H1[q]? = s.heap[q]?) → (∀ x ∈ locs1, bs ≤ x.base) → W p l e R s m args below meth c H1 locs1 cells slots Q (F0 m (pc + 3) ls ((r.map (emb X bs)).toList ++ rest))) : W p l e R s m args below meth c H locs cells slots Q (F0 m pc ls (As.reverse ++ .ref b :: rest)) := by
  have S : CallFix p m c (m_b M) (m_l M) s args utbl (m_y M).cls := ⟨C.1, C.2.1, C.2.2.1, C.2.2.2.1, C.2.2.2.2.1⟩
  have hp : PreV s H (m_y N).cls b (va_Pc (.ref b :: As) SP) As := ⟨fun a U g mk q => ⟨q.1, hb U (U.calling g mk a) rfl rfl q.2⟩, hrecv, fun U hU hW => ⟨rfl, hSP U hU hW⟩⟩
  have cw := cwV (R := R) (s := s) (args := args) (own := (m_y M).cls) (C := (m_y N).cls) (index := index) (rm := prm d 0 0) (mc := 0) (ms := 0) As.length C.2.2.2.2.1 (ws := pws N) (fun w hw => by
    rcases List.mem_append.mp hw with hw | hw
    · rcases List.mem_cons.mp hw with rfl | hw
      · exact ⟨w1, Or.inl rfl⟩
      · rcases List.mem_cons.mp hw with rfl | hw
        · exact ⟨w2, Or.inl rfl⟩
        · rcases List.mem_cons.mp hw with rfl | hw
          · exact ⟨w3, Or.inl rfl⟩
          · rw [List.mem_singleton.mp hw]; exact ⟨w4, Or.inl rfl⟩
    · rcases List.mem_cons.mp hw with rfl | hw
      · exact ⟨w5, Or.inl rfl⟩
      · exact ⟨good_u hw, good_g hw⟩) rfl rfl rfl ⟨rfl, hy.1, hy.2.1, hy.2.2⟩ ⟨hroom.1, hroom.2.1⟩
  have hr := va_runV (e := e) (below := below) (meth := meth) (H := H) (locs := locs) (cells := cells) (slots := slots) (g := F0 m pc ls (As.reverse ++ .ref b :: rest)) (rest := rest) S hM cw hp rfl rfl hls rfl (lv_room h8) hd ⟨hroom.2.2.1, hroom.2.2.2⟩
  intro T hT Z
  obtain ⟨v, st₀, t, T', Lc, h0, Z', hL, e1, e2, ⟨hv, hRp, hlow⟩, stp⟩ := hr T hT Z
  have hv : v = r.map (emb X bs) := Outcome.returned.inj hv
  have hal : s.vm.Alike t.vm := by rw [← e2]; exact Z'.warmed.alike
  obtain ⟨t2, a1, b1⟩ := kk T'.heap (locs ++ Lc) (by rw [e1]; exact hRp.moved hal.symm) (fun q hq => by rw [e1, hlow q hq, h0]; exact g1 q hq) (fun z hz => by
    rcases List.mem_append.mp hz with hz | hz
    · exact g2 z hz
    · exact hL z hz) T' rfl Z'
  refine ⟨t2, stp t2 ?_, b1⟩
  rw [hv]
  exact a1
theorem vaS_of (HR0 : Rep D X bs s h s.heap) (HR : Rep D X bs s h H) (g1 : ∀ q : Nat, q < bs → H[q]? = s.heap[q]?) (g2 : ∀ x ∈ locs, bs ≤ x.base) : va_S (fun q => bs ≤ q) s.heap H locs := ⟨by rw [HR0.1, HR.1]; exact Nat.le_refl _, fun q _ hb => g1 q (Nat.not_le.mp hb), g2⟩
theorem getf_w {n a : Nat} {o : Nat × List Value} {w : Value} {q : vw_C} (C : Cx p s m args meth c D X bs E M) (HR : Rep D X bs s h H) (ho : pobj h a = some o) (hq : pcls[o.1]? = some q) (hy : y < q.2.2) (hw : o.2[y]? = some w) (hlk : Cond.fieldLink (m_y M).cls n (q.2.1 y).1 (q.2.1 y).2.1 (q.2.1 y).2.2.1 ∈ utbl) (hd : decode (m_b M) pc = .ok (.getfield n, 3))
    (k : W p l e R s m args below meth c H locs cells slots Q (F0 m (pc + 3) ls (emb X bs w :: rest))) : W p l e R s m args below meth c H locs cells slots Q (F0 m pc ls (.ref (bs + a) :: rest)) := by
  obtain ⟨r0, hr0, hlen, hOB⟩ := HR.2 a _ (pobj_at ho)
  cases hr0.symm.trans hq
  obtain ⟨C0, T0, N0⟩ := q
  have hP : va_P D pcls [(bs + a, .inr (o.1, o.2.map (emb X bs)))] H := fun j q hj => by
    have hz : j < 1 := (List.getElem?_eq_some_iff.mp hj).1
    rw [show j = 0 by omega] at hj
    cases hj
    exact ⟨_, hq, hOB.to (fun k _ => (vpV_map X bs o.2 k).symm)⟩
  exact va_get (D := D) (ci := o.1) (v := emb X bs w) (tys := []) C.1 C.2.1 C.2.2.2.2.1 (pcl_ok o.1 _ hq).1 C.2.2.2.1 C.2.2.2.2.2.1 hP 0 rfl hq y hy (C.2.2.2.2.1 _ hlk) (fun _ h9 => h9) (by rw [List.getElem?_map, hw]; rfl) hd k
theorem q_ret (HR : Rep D X bs s h H) (g1 : ∀ q : Nat, q < bs → H[q]? = s.heap[q]?) (z : Int32) : ∀ t : State, t.heap = H → s.WarmedH t.vm → PQ D X bs (some (.int z)) h args s (.returned (some (.int z))) t := fun t ht hW => ⟨rfl, by rw [ht]; exact HR.moved hW.alike, fun q hq => by rw [ht]; exact g1 q hq⟩
def PCs (D : va_G) (X : Nat → Nat) (bs : Nat) (E : pX) (h : List pC) (n a : Nat) (b : Nat → Int32) (U : State) : Prop := PCx D X bs E h U ∧ STR bs n a b U U.heap
theorem PCs.same {n a : Nat} {b : Nat → Int32} {u U : State} (hv : u.vm = U.vm) (hh : U.heap = u.heap) (hp : PCs D X bs E h n a b u) : PCs D X bs E h n a b U := ⟨hp.1.same hv hh, hp.2.to (by rw [hv]; exact Vm.Alike.refl _) (fun q _ => by rw [hh])⟩
theorem PCs.at {n a : Nat} {b : Nat → Int32} (C : Cx p s m args meth c D X bs E M) (HR : Rep D X bs s h H) (g1 : ∀ q : Nat, q < bs → H[q]? = s.heap[q]?) (hs : STR bs n a b s s.heap) (U : State) (hU : U.heap = H) (hW : s.WarmedH U.vm) : PCs D X bs E h n a b U := ⟨cx_at C HR g1 U hU hW, hs.to hW.alike (fun q hq => by rw [hU]; exact g1 q hq)⟩
theorem coder_c (n a : Nat) (b : Nat → Int32) (d : Nat) : Met l (m_y mJ_coder) (pws mJ_coder) (prm d 0 0) (va_Pc [.ref a] (PCs D X bs E h n a b)) (PQ D X bs (some (.int 0)) h) 0 0 (fun q => bs ≤ q) := by
  refine open_c (h := h) (E := E) (by decide +kernel) (by decide) (fun U hU => hU.1) ?_
  intro p e R s m below meth c r1 r2 r3 r4 C HR hS hret hlocks
  obtain ⟨hz, -⟩ := C.2.2.2.2.2.2.2.2.words
  have hS0 : va_S (fun q => bs ≤ q) s.heap s.heap [] := vaS_of HR HR (fun _ _ => rfl) (fun _ hx => by cases hx)
  refine va_gets C.1 C.2.1 hz hS0 C.2.2.2.1 (C.2.2.2.2.1 _ (utb 777 (by decide +kernel) (by decide +kernel))) (fun _ hx => hx) (show decode (m_b mJ_coder) 0 = .ok (.getstatic 38, 3) by decide +kernel) ?_
  refine lv_if_eq C.1 C.2.1 (tgt := 13) (show decode (m_b mJ_coder) 3 = .ok (.ifCond .eq 10, 3) by decide +kernel) (by decide) (fun hx => absurd hx (by decide)) (fun _ => ?_)
  refine lv_aload_n C.1 C.2.1 (i := 0) (x := a) (show decode (m_b mJ_coder) 6 = .ok (.aload_n 0, 1) by decide +kernel) rfl rfl ?_
  refine vk_getf C.1 C.2.1 hS.2.2.1 hS0 C.2.2.2.1 (C.2.2.2.2.1 _ (utb 1562 (by decide +kernel) (by decide +kernel))) (fun _ hx => hx) (show decode (m_b mJ_coder) 7 = .ok (.getfield 15, 3) by decide +kernel) ?_
  refine lv_goto C.1 C.2.1 (tgt := 14) (show decode (m_b mJ_coder) 10 = .ok (.goto 4, 3) by decide +kernel) (by decide) ?_
  exact W.zret (ty := .byte) C.1 C.2.1 hret rfl (q_ret HR (fun _ _ => rfl) 0) (fun _ hx => by cases hx) (show decode (m_b mJ_coder) 14 = .ok (.ireturn, 1) by decide +kernel) hlocks
theorem length_c (n a : Nat) (b : Nat → Int32) (d : Nat) (hd : 1 ≤ d) : Met l (m_y mJ_length) (pws mJ_length) (prm d 0 0) (va_Pc [.ref a] (PCs D X bs E h n a b)) (PQ D X bs (some (.int (Int32.ofNat n))) h) 0 0 (fun q => bs ≤ q) := by
  refine open_c (h := h) (E := E) (by decide +kernel) (by decide) (fun U hU => hU.1) ?_
  intro p e R s m below meth c r1 r2 r3 r4 C HR hS hret hlocks
  obtain ⟨v, hv, hT⟩ := hS.2.2.2
  have hS0 : va_S (fun q => bs ≤ q) s.heap s.heap [] := vaS_of HR HR (fun _ _ => rfl) (fun _ hx => by cases hx)
  refine lv_aload_n C.1 C.2.1 (i := 0) (x := a) (show decode (m_b mJ_length) 0 = .ok (.aload_n 0, 1) by decide +kernel) rfl rfl ?_
  refine vk_getf C.1 C.2.1 hv hS0 C.2.2.2.1 (C.2.2.2.2.1 _ (utb 1561 (by decide +kernel) (by decide +kernel))) (fun _ hx => hx) (show decode (m_b mJ_length) 1 = .ok (.getfield 9, 3) by decide +kernel) ?_
  refine va_tlen C.1 C.2.1 hT hS0 rfl (show decode (m_b mJ_length) 4 = .ok (.arraylength, 1) by decide +kernel) ?_
  refine lv_aload_n C.1 C.2.1 (i := 0) (x := a) (show decode (m_b mJ_length) 5 = .ok (.aload_n 0, 1) by decide +kernel) rfl rfl ?_
  obtain ⟨cell, k1, k2, k3, -⟩ := hS.2.1
  obtain ⟨f, rfl⟩ : ∃ f, d = f + 1 := ⟨d - 1, by omega⟩
  refine callV_w (N := mJ_coder) (d := f) (As := []) (rest := [.int (Int32.ofNat n)]) C (show decode (m_b mJ_length) 6 = .ok (.invokevirtual 335, 3) by decide +kernel) (utb 773 (by decide +kernel) (by decide +kernel)) (utb 774 (by decide +kernel) (by decide +kernel)) (utb 775 (by decide +kernel) (by decide +kernel)) (utb 78 (by decide +kernel) (by decide +kernel)) (utb 776 (by decide +kernel) (by decide +kernel)) ⟨by decide +kernel, by decide +kernel, (show (parseMethodDescriptor (m_y mJ_coder).desc).map (fun d => d.parameters.length) = some 0 by decide +kernel)⟩ ⟨by omega, by show 8 + (1 + 11) + 40 * f ≤ R.locals; omega, by omega, by omega⟩ (coder_c n a b f) (fun u U hv hh hp => hp.same hv hh) ⟨cell, k1, k2, k3⟩ (PCs.at C HR (fun _ _ => rfl) hS.2) rfl (Nat.le_of_ble_eq_true rfl) (fun _ _ => rfl) (fun _ hx => by cases hx) ?_
  intro H1 locs1 HR1 g1 g2
  refine lv_ishr C.1 C.2.1 (x := Int32.ofNat n) (y := 0) (rest := []) (show decode (m_b mJ_length) 9 = .ok (.ishr, 1) by decide +kernel) ?_
  rw [show ((0 : Int32) &&& 31) = 0 by decide, Int32.shiftRight_zero]
  exact W.iret C.1 C.2.1 hret (q_ret HR1 g1 _) g2 (show decode (m_b mJ_length) 10 = .ok (.ireturn, 1) by decide +kernel) hlocks
theorem isWord_c (n a : Nat) (b : Nat → Int32) (d : Nat) (hd : 2 ≤ d) {k : Nat} {fs : List Value} {sv pv : Int32} (ho : pobj h k = some (2, fs)) (h3 : fs[3]? = some (.int sv)) (h4 : fs[4]? = some (.int pv)) (hne : ¬ pv - sv = Int32.ofNat n) : Met l (m_y mX2_isWord) (pws mX2_isWord) (prm d 0 0) (va_Pc [.ref (bs + k), .ref a] (PCs D X bs E h n a b)) (PQ D X bs (some (.int 0)) h) 0 0 (fun q => bs ≤ q) := by
  refine open_c (h := h) (E := E) (by decide +kernel) (by decide) (fun U hU => hU.1) ?_
  intro p e R s m below meth c r1 r2 r3 r4 C HR hS hret hlocks
  refine lv_aload_n C.1 C.2.1 (i := 0) (x := bs + k) (show decode (m_b mX2_isWord) 0 = .ok (.aload_n 0, 1) by decide +kernel) rfl rfl ?_
  refine getf_w (y := 4) (w := .int pv) C HR ho rfl (by decide) h4 (utb 233 (by decide +kernel) (by decide +kernel)) (show decode (m_b mX2_isWord) 1 = .ok (.getfield 22, 3) by decide +kernel) ?_
  refine lv_aload_n C.1 C.2.1 (i := 0) (x := bs + k) (show decode (m_b mX2_isWord) 4 = .ok (.aload_n 0, 1) by decide +kernel) rfl rfl ?_
  refine getf_w (y := 3) (w := .int sv) C HR ho rfl (by decide) h3 (utb 232 (by decide +kernel) (by decide +kernel)) (show decode (m_b mX2_isWord) 5 = .ok (.getfield 35, 3) by decide +kernel) ?_
  refine lv_isub C.1 C.2.1 (x := pv) (y := sv) (rest := []) (show decode (m_b mX2_isWord) 8 = .ok (.isub, 1) by decide +kernel) ?_
  refine lv_aload_n C.1 C.2.1 (i := 1) (x := a) (show decode (m_b mX2_isWord) 9 = .ok (.aload_n 1, 1) by decide +kernel) rfl rfl ?_
  obtain ⟨cell, k1, k2, k3, -⟩ := hS.2.1
  obtain ⟨f, rfl⟩ : ∃ f, d = f + 1 := ⟨d - 1, by omega⟩
  refine callV_w (N := mJ_length) (d := f) (As := []) (rest := [.int (pv - sv)]) C (show decode (m_b mX2_isWord) 10 = .ok (.invokevirtual 89, 3) by decide +kernel) (utb 769 (by decide +kernel) (by decide +kernel)) (utb 770 (by decide +kernel) (by decide +kernel)) (utb 771 (by decide +kernel) (by decide +kernel)) (utb 78 (by decide +kernel) (by decide +kernel)) (utb 772 (by decide +kernel) (by decide +kernel)) ⟨by decide +kernel, by decide +kernel, (show (parseMethodDescriptor (m_y mJ_length).desc).map (fun d => d.parameters.length) = some 0 by decide +kernel)⟩ ⟨by omega, by show 8 + (1 + 11) + 40 * f ≤ R.locals; omega, by omega, by omega⟩ (length_c n a b f (by omega)) (fun u U hv hh hp => hp.same hv hh) ⟨cell, k1, k2, k3⟩ (PCs.at C HR (fun _ _ => rfl) hS.2) rfl (Nat.le_of_ble_eq_true rfl) (fun _ _ => rfl) (fun _ hx => by cases hx) ?_
  intro H1 locs1 HR1 g1 g2
  refine lv_icmp_eq C.1 C.2.1 (x := pv - sv) (y := Int32.ofNat n) (rest := []) (tgt := 18) (show decode (m_b mX2_isWord) 13 = .ok (.if_icmp .eq 5, 3) by decide +kernel) (by decide) (fun hx => absurd hx hne) (fun _ => ?_)
  refine lv_iconst C.1 C.2.1 (v := 0) (show decode (m_b mX2_isWord) 16 = .ok (.iconst 0, 1) by decide +kernel) (by decide) ?_
  exact W.zret (ty := .boolean) C.1 C.2.1 hret rfl (q_ret HR1 g1 0) g2 (show decode (m_b mX2_isWord) 17 = .ok (.ireturn, 1) by decide +kernel) hlocks
theorem keyRead_c (d : Nat) (hd : 3 ≤ d) {k : Nat} {fs : List Value} {sv pv : Int32} (ho : pobj h k = some (2, fs)) (h3 : fs[3]? = some (.int sv)) (h4 : fs[4]? = some (.int pv)) (hn4 : ¬ pv - sv = 4) (hn3 : ¬ pv - sv = 3) : Cn l E mX2_keyRead d [.ref k] h (some (.int (-1))) h 0 0 := by
  intro D X bs
  refine open_c (av := [.ref (bs + k)]) (h := h) (E := E) (by decide +kernel) (by decide) (fun U hU => hU) ?_
  intro p e R s m below meth c r1 r2 r3 r4 C HR hS hret hlocks
  obtain ⟨-, a0, a1, a2, s0, s1, s2, v0, v1, v2⟩ := C.2.2.2.2.2.2.2.2.words
  obtain ⟨f, rfl⟩ : ∃ f, d = f + 1 := ⟨d - 1, by omega⟩
  have recv : ∀ H : Heap, Rep D X bs s h H → ∃ cellB : Cell, H[bs + k]? = some cellB ∧ cellB.vm.isStatics = false ∧ s.vm.findClass (m_y mX2_isWord).cls = some cellB.cls := by
    intro H HR
    obtain ⟨r0, hr0, hlen, cell, q1, q2, q3, -⟩ := HR.2 k _ (pobj_at ho)
    have hr0 : pcls[2]? = some r0 := hr0
    have b5 : r0.1 = "StoneSheets$Reader" := by
      cases hr0
      rfl
    refine ⟨cell, q1, by rw [q3]; rfl, ?_⟩
    rw [show (m_y mX2_isWord).cls = r0.1 from b5.symm, q2]
    exact (C.2.2.2.2.2.1.1 _ r0 hr0).2.1
  have one : ∀ (n a : Nat) (b : Nat → Int32) (pc t : Nat) (H : Heap) (locs : List Loc), STR bs n a b s s.heap → ¬ pv - sv = Int32.ofNat n → decode (m_b mX2_keyRead) pc = .ok (.invokevirtual 81, 3) → (∃ off : Int, decode (m_b mX2_keyRead) (pc + 3) = .ok (.ifCond .eq off, 3) ∧ ((pc + 3 : Nat) : Int) + off = (t : Int)) → Rep D X bs s h H → (∀ q : Nat, q < bs → H[q]? = s.heap[q]?) → (∀ x ∈ locs, bs ≤ x.base) →
      (∀ (H1 : Heap) (locs1 : List Loc), Rep D X bs s h H1 → (∀ q : Nat, q < bs → H1[q]? = s.heap[q]?) → (∀ x ∈ locs1, bs ≤ x.base) → W p l e R s m ([Value.ref (bs + k)] : List Value).toArray below meth c H1 locs1 0 0 (MQ below (PQ D X bs (some (.int (-1))) h) ([Value.ref (bs + k)] : List Value).toArray s 0 0 (fun q => bs ≤ q)) (F0 m t #[.val (.ref (bs + k))] [])) →
      W p l e R s m ([Value.ref (bs + k)] : List Value).toArray below meth c H locs 0 0 (MQ below (PQ D X bs (some (.int (-1))) h) ([Value.ref (bs + k)] : List Value).toArray s 0 0 (fun q => bs ≤ q)) (F0 m pc #[.val (.ref (bs + k))] [.ref a, .ref (bs + k)]) := by
    intro n a b pc t H locs hS hne hdc hif HR g1 g2 kk
    obtain ⟨off, hif, ht⟩ := hif
    refine callV_w (N := mX2_isWord) (d := f) (As := [.ref a]) (rest := []) C hdc (utb 765 (by decide +kernel) (by decide +kernel)) (utb 767 (by decide +kernel) (by decide +kernel)) (utb 8 (by decide +kernel) (by decide +kernel)) (utb 71 (by decide +kernel) (by decide +kernel)) (utb 768 (by decide +kernel) (by decide +kernel)) ⟨by decide +kernel, by decide +kernel, (show (parseMethodDescriptor (m_y mX2_isWord).desc).map (fun d => d.parameters.length) = some 1 by decide +kernel)⟩ ⟨by omega, by show 8 + (3 + 11) + 40 * f ≤ R.locals; omega, by omega, by omega⟩ (isWord_c n a b f (by omega) ho h3 h4 hne) (fun u U hv hh hp => hp.same hv hh) (recv H HR) (PCs.at C HR g1 hS) rfl (Nat.le_of_ble_eq_true rfl) g1 g2 ?_
    intro H1 locs1 HR1 k1 k2
    exact lv_if_eq C.1 C.2.1 (x := 0) (rest := []) (tgt := t) hif ht (fun _ => kk H1 locs1 HR1 k1 k2) (fun hx => absurd rfl hx)
  refine lv_aload_n C.1 C.2.1 (i := 0) (x := bs + k) (show decode (m_b mX2_keyRead) 0 = .ok (.aload_n 0, 1) by decide +kernel) rfl rfl ?_
  refine va_ldcS C.1 C.2.1 C.2.2.2.1 v0 (show decode (m_b mX2_keyRead) 1 = .ok (.ldc 79, 2) by decide +kernel) ?_
  refine one 4 a0 bW0 3 11 s.heap [] s0 hn4 (by decide +kernel) ⟨5, by decide +kernel, by decide⟩ HR (fun _ _ => rfl) (fun _ hx => by cases hx) ?_
  intro H1 locs1 HR1 k1 k2
  refine lv_aload_n C.1 C.2.1 (i := 0) (x := bs + k) (show decode (m_b mX2_keyRead) 11 = .ok (.aload_n 0, 1) by decide +kernel) rfl rfl ?_
  refine va_ldcS C.1 C.2.1 C.2.2.2.1 v1 (show decode (m_b mX2_keyRead) 12 = .ok (.ldc 85, 2) by decide +kernel) ?_
  refine one 3 a1 bW1 14 22 H1 locs1 s1 hn3 (by decide +kernel) ⟨5, by decide +kernel, by decide⟩ HR1 k1 k2 ?_
  intro H2 locs2 HR2 k1 k2
  refine lv_aload_n C.1 C.2.1 (i := 0) (x := bs + k) (show decode (m_b mX2_keyRead) 22 = .ok (.aload_n 0, 1) by decide +kernel) rfl rfl ?_
  refine va_ldcS C.1 C.2.1 C.2.2.2.1 v2 (show decode (m_b mX2_keyRead) 23 = .ok (.ldc 87, 2) by decide +kernel) ?_
  refine one 4 a2 bW2 25 35 H2 locs2 s2 hn4 (by decide +kernel) ⟨7, by decide +kernel, by decide⟩ HR2 k1 k2 ?_
  intro H3 locs3 HR3 k1 k2
  refine lv_iconst C.1 C.2.1 (v := -1) (show decode (m_b mX2_keyRead) 35 = .ok (.iconst (-1), 1) by decide +kernel) (by decide) ?_
  exact W.iret C.1 C.2.1 hret (q_ret HR3 k1 _) k2 (show decode (m_b mX2_keyRead) 36 = .ok (.ireturn, 1) by decide +kernel) hlocks
end WRD
theorem pcall_recv {P : List pM} {t : pE} {st : List Value} {h : List pC} {N : pM} {as rest : List Value} (hc : pcall P t st h = some (N, as, rest)) (hk : m_k N = 1) : ∃ (b : Nat) (as' : List Value) (o : Nat × List Value), as = .ref b :: as' ∧ pobj h b = some o ∧ o.1 = m_c N := by
  unfold pcall at hc
  split at hc
  · split at hc
    · split at hc
      · rename_i hcond
        cases hc
        exact absurd (hcond.1.symm.trans hk) (by decide)
      · cases hc
    · cases hc
  · split at hc
    · split at hc
      · split at hc
        · rename_i o ho
          split at hc
          · rename_i hcond
            cases hc
            exact ⟨_, _, o, rfl, ho, hcond.2.1⟩
          · cases hc
        · cases hc
      · cases hc
    · cases hc
  · split at hc
    · split at hc
      · split at hc
        · rename_i hcond
          cases hc
          exact absurd (hcond.1.symm.trans hk) (by decide)
        · cases hc
      · cases hc
    · cases hc
  · cases hc
set_option maxRecDepth 100000 in
theorem prim_one : prog.filter (fun M => (m_code M).isEmpty && (m_c M == 2 && m_l M == 1)) = [mX2_keyRead] := by rfl
/-- the contracts of the methods that are no tables, as far as they are called on new objects -/
theorem hV_ok {l : Launch} {E : pX} : ∀ M ∈ prog, m_code M = [] → ∀ (as : List Value) (h : List pC) (r : Option Value), pV0 M as h = some r → (∃ (t : pE) (st rest : List Value), pcall prog t st h = some (M, as, rest)) → ∀ d : Nat, 6 ≤ d → Cn l E M d as h r h 0 0 := by
  intro M hM hc as h r hv hcall d hd
  unfold pV0 at hv
  split at hv
  · rename_i hcl
    have hm : M ∈ prog.filter (fun M => (m_code M).isEmpty && (m_c M == 2 && m_l M == 1)) := List.mem_filter.mpr ⟨hM, by rw [hc, hcl.1, hcl.2]; rfl⟩
    rw [prim_one] at hm
    obtain rfl := List.mem_singleton.mp hm
    obtain ⟨t, st, rest, hp⟩ := hcall
    obtain ⟨b, as', ⟨ci, fs⟩, rfl, ho, hci⟩ := pcall_recv hp rfl
    obtain rfl : ci = 2 := hci
    cases as' with
    | cons u us => cases hv
    | nil =>
      dsimp only at hv
      rw [ho] at hv
      dsimp only at hv
      split at hv
      · rename_i sv pv h3 h4
        split at hv
        · cases hv
        · rename_i hn
          cases hv
          exact keyRead_c d (by omega) ho h3 h4 (fun q => hn (Or.inl q)) (fun q => hn (Or.inr q))
      · cases hv
  · cases hv
