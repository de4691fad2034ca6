/-! ===== calls, and a whole run ===== -/
theorem good_u {w : Cond} (h : w ∈ gtbl) : w ∈ utbl := by
  obtain ⟨h1, h2⟩ := List.mem_filter.mp h
  exact List.mem_filter.mpr ⟨h1, by unfold uword; rw [h2]; rfl⟩
theorem good_g {w : Cond} (h : w ∈ gtbl) : (w.onTables && w.keeps) = true ∨ ∃ ty, w = .arrayClass ty := good_of_word (List.mem_filter.mp h).2
def PCx (D : va_G) (X : Nat → Nat) (bs : Nat) (E : pX) (h : List pC) (U : State) : Prop := Rep D X bs U h U.heap ∧ va_K D pcls [] U ∧ (∀ (k : Nat) (x : Nat × (Nat → Int32)), E k = some x → va_X (X k) x.1 x.2 U U.heap ∧ X k < bs) ∧ (∀ w ∈ utbl, nword w = true → w.before #[] U = true) ∧ GS bs U
def PQ (D : va_G) (X : Nat → Nat) (bs : Nat) (r : Option Value) (h' : List pC) : Array Value → State → Outcome → State → Prop := fun _ st o t => o = .returned (r.map (emb X bs)) ∧ Rep D X bs t h' t.heap ∧ ∀ q : Nat, q < bs → t.heap[q]? = st.heap[q]?
def pws (M : pM) : List Cond := .code (m_y M) (m_b M) (m_l M) (m_r M) :: gtbl
def prm (d k n : Nat) : Room := { frames := d, cells := k, slots := n, locals := 40 * d }
/-- a method's contract: from the cells h, with these arguments, it answers r, the cells behind it are h' -/
def Cn (l : Launch) (E : pX) (M : pM) (d : Nat) (as : List Value) (h : List pC) (r : Option Value) (h' : List pC) (k n : Nat) : Prop :=
  ∀ (D : va_G) (X : Nat → Nat) (bs : Nat), Met l (m_y M) (pws M) (prm d k n) (va_Pc (as.map (emb X bs)) (PCx D X bs E h)) (PQ D X bs r h') k n (fun q => bs ≤ q)
theorem nword_same {w : Cond} (hw : nword w = true) {A A' : Array Value} {u U : State} (h : u.vm = U.vm) (hb : w.before A u = true) : w.before A' U = true := by
  unfold nword at hw
  split at hw
  · exact va_tabs rfl h hb
  · exact (va_AO.moved (u := u) (U := U) (by rw [h]; exact Vm.Alike.refl U.vm) hb)
  · cases hw
theorem nword_warm {w : Cond} (hw : nword w = true) {A A' : Array Value} {u U : State} (h : u.WarmedH U.vm) (hb : w.before A u = true) : w.before A' U = true := by
  unfold nword at hw
  split at hw
  · exact va_Nw.use rfl (va_Nw.warmM h (va_Nw.of rfl hb))
  · exact (va_AO.moved (u := u) (U := U) h.alike hb)
  · cases hw
theorem PCx.same {D : va_G} {X : Nat → Nat} {bs : Nat} {E : pX} {h : List pC} {u U : State} (hv : u.vm = U.vm) (hh : U.heap = u.heap) (hp : PCx D X bs E h u) : PCx D X bs E h U := by
  obtain ⟨h1, h2, h3, h4, h5⟩ := hp
  have hvm : u.vm.Alike U.vm := by rw [hv]; exact Vm.Alike.refl U.vm
  exact ⟨by rw [hh]; exact h1.moved hvm, h2.moved hvm, fun k x hk => ⟨by rw [hh]; exact (h3 k x hk).1.moved hvm, (h3 k x hk).2⟩, fun w hw hn => nword_same hn hv (h4 w hw hn), h5.same hv hh⟩
theorem fr_blind (av : List Value) (D : va_G) (X : Nat → Nat) (bs : Nat) (E : pX) (h : List pC) : FrameBlind (va_Pc av (PCx D X bs E h)) := fun a U g mk q => ⟨q.1, q.2.same (u := U) (U := U.calling g mk a) rfl rfl⟩
section PWE
variable {p : Program} {l : Launch} {e : Env} {R : Room} {s : State} {m : MethodId} {args : Array Value} {below : List Frame} {meth : Method} {c : Code} {Q : State → Prop} {D : va_G} {X : Nat → Nat} {bs : Nat} {E : pX} {P : List pM} {M N : pM}
variable {i pc x y : Nat} {v : Value} {ts : List Nat} {L L' : pL} {st st' r : List Value} {h h1 : List pC} {cells slots k1 n1 d : Nat} {r1 : Option Value}
theorem cx_at {H : Heap} (C : Cx p s m args meth c D X bs E M) (HR : Rep D X bs s h H) (g1 : ∀ q : Nat, q < bs → H[q]? = s.heap[q]?) (U : State) (hU : U.heap = H) (hW : s.WarmedH U.vm) : PCx D X bs E h U := by
  refine ⟨by rw [hU]; exact HR.moved hW.alike, C.2.2.2.2.2.1.moved hW.alike, fun k x hk => ?_, fun w hw hn => nword_warm hn hW (C.2.2.2.2.1 w hw), C.2.2.2.2.2.2.2.2.warm hW (fun q hq => by rw [hU]; exact g1 q hq)⟩
  obtain ⟨q1, q2⟩ := C.2.2.2.2.2.2.1 k x hk
  exact ⟨(q1.moved hW.alike).kept (by rw [hU]; exact g1 _ q2), q2⟩
theorem run_go {H : Heap} {locs : List Loc} {ls : Array Slot} {st0 rest : List Value} {a : Array Value} (hr : va_Run p l e R s m args below meth c H locs cells slots k1 n1 (F0 m pc ls st0) (rest.map (emb X bs)) (PQ D X bs r1 h1 a) (fun q => bs ≤ q))
    (HL : LH X bs ls (m_l M) L) (g1 : ∀ q : Nat, q < bs → H[q]? = s.heap[q]?) (g2 : ∀ x ∈ locs, bs ≤ x.base) (hn : pcOf (m_code M) (i + 1) = pc + 3)
    (kk : PW p l e R s m args below meth c Q D X bs M (i + 1) L (r1.toList ++ rest) h1 (cells + k1) (slots + n1)) : W p l e R s m args below meth c H locs cells slots Q (F0 m pc ls st0) := by
  intro T hT Z
  obtain ⟨v, st₀, t, T', Lc, h0, Z', hL, e1, e2, ⟨hv, hRp, hlow⟩, stp⟩ := hr T hT Z
  have hv : v = r1.map (emb X bs) := Outcome.returned.inj hv
  have hal : s.vm.Alike t.vm := by rw [← e2]; exact Z'.warmed.alike
  obtain ⟨t2, a1, b1⟩ := kk T'.heap (locs ++ Lc) ls (by rw [e1]; exact hRp.moved hal.symm) HL (fun q hq => by rw [e1, hlow q hq, h0]; exact g1 q hq) (fun z hz => by
    rcases List.mem_append.mp hz with hz | hz
    · exact g2 z hz
    · exact hL z hz) T' rfl Z'
  refine ⟨t2, stp t2 ?_, b1⟩
  rw [hn] at a1
  have hst : (r1.toList ++ rest).map (emb X bs) = v.toList ++ rest.map (emb X bs) := by
    rw [hv, List.map_append]
    cases r1 <;> rfl
  rw [hst] at a1
  exact a1
theorem pmB_s (h : pmB N = true) : plainName (m_y N).cls = true ∧ (m_y N).cls ≠ "java/lang/invoke/MethodHandle" ∧ (m_y N).cls ≠ "java/lang/invoke/VarHandle" ∧ (m_l N ≤ 21 ∧ pcOf (m_code N) 0 = 0) ∧ (m_k N = 1 → (pcls[m_c N]?).map (fun q => q.1) = some (m_y N).cls) ∧ (m_k N = 2 → (m_y N).name = "<init>" ∧ m_r N = none) := by
  unfold pmB at h
  rw [Bool.and_eq_true, Bool.and_eq_true, Bool.and_eq_true, Bool.and_eq_true] at h
  obtain ⟨h1, h2, h3, h4, h5⟩ := h
  refine ⟨h1, of_decide_eq_true h2, of_decide_eq_true h3, of_decide_eq_true h4, fun hk => ?_, fun hk => ?_⟩
  · rw [hk] at h5
    exact of_decide_eq_true h5
  · rw [hk] at h5
    have h5 : (decide (2 = 2) && (decide ((m_y N).name = "<init>") && decide (m_r N = none))) = true := h5
    rw [Bool.and_eq_true, Bool.and_eq_true] at h5
    exact ⟨of_decide_eq_true h5.2.1, of_decide_eq_true h5.2.2⟩
theorem pws_in (hN : ∀ w ∈ pmw N, w ∈ utbl) : GoodIn utbl (pws N) := by
  intro w hw
  rcases List.mem_cons.mp hw with rfl | hw
  · refine ⟨hN _ ?_, Or.inl rfl⟩
    unfold pmw
    split <;> exact List.mem_cons_self
  · exact ⟨good_u hw, good_g hw⟩
theorem stk_split {st : List Value} {y b : Nat} {r : List Value} (h : st.drop y = .ref b :: r) : st.map (emb X bs) = (((st.take y).reverse).map (emb X bs)).reverse ++ .ref (bs + b) :: r.map (emb X bs) ∧ (((st.take y).reverse).map (emb X bs)).length = y := by
  constructor
  · have h2 := List.take_append_drop y st
    rw [h] at h2
    rw [← List.map_reverse, List.reverse_reverse]
    conv => lhs; rw [← h2]
    rw [List.map_append]
    rfl
  · have hl : y < st.length := by
      have := congrArg List.length h
      rw [List.length_drop, List.length_cons] at this
      omega
    rw [List.length_map, List.length_reverse, List.length_take]
    omega
theorem stk_splitS {st : List Value} {y : Nat} (h : y ≤ st.length) : st.map (emb X bs) = (((st.take y).reverse).map (emb X bs)).reverse ++ (st.drop y).map (emb X bs) ∧ (((st.take y).reverse).map (emb X bs)).length = y := by
  constructor
  · rw [← List.map_reverse, List.reverse_reverse, ← List.map_append, List.take_append_drop]
  · rw [List.length_map, List.length_reverse, List.length_take]
    omega
theorem sum8 {r : List Value} (h : pcs r ≤ 8) : ((r.map (emb X bs)).map fun v => v.category).sum ≤ 8 := by
  rw [emb_pcs]
  exact h
theorem plk_nn {own : String} {k : Nat} {z : MethodName} {v : Value} (h : v ≠ .null) : plk own k z v = .methodLinkNest own k z "StoneSheets" := by cases v <;> first | rfl | exact absurd rfl h
theorem call_go {t : pE} {as rest : List Value} (B : SWc p s m args meth c D X bs E P M i t) (hc : pcall P t st h = some (N, as, rest)) (hN : WFm P N) (hM : Cn l E N d as h r1 h1 k1 n1) (hR : d + 1 ≤ R.frames ∧ 40 * (d + 1) ≤ R.locals ∧ cells + k1 ≤ R.cells ∧ slots + n1 ≤ R.slots)
    (kk : PW p l e R s m args below meth c Q D X bs M (i + 1) L (r1.toList ++ rest) h1 (cells + k1) (slots + n1)) : PW p l e R s m args below meth c Q D X bs M i L st h cells slots := by
  obtain ⟨pc, ins, x, y, v, ts⟩ := t
  obtain ⟨C, he, hd0, hn0, ha0, hl⟩ := B
  intro H locs ls HR HL g1 g2
  rw [show pcOf (m_code M) i = pc from pcOf_at he]
  obtain ⟨hNe, hNb, hNw⟩ := hN
  obtain ⟨b1, b2, b3, ⟨b4, b40⟩, b5, b6⟩ := pmB_s hNb
  have hroom : (prm d k1 n1).frames + 1 ≤ R.frames ∧ 8 + (m_l N + 11) + (prm d k1 n1).locals ≤ R.locals := ⟨hR.1, by show 8 + (m_l N + 11) + 40 * d ≤ R.locals; omega⟩
  have S : CallFix p m c (m_b M) (m_l M) s args utbl (m_y M).cls := ⟨C.1, C.2.1, C.2.2.1, C.2.2.2.1, C.2.2.2.2.1⟩
  have hts := C.2.2.2.2.1
  have hG : GoodIn utbl (pws N) := pws_in hNw
  have hls : ls.size = m_l M := HL.1.1
  unfold pcall at hc
  split at hc
  · -- invokestatic
    rename_i n hin
    obtain rfl : ins = .invokestatic n := hin
    split at hc
    · rename_i N' hx
      have hx : P[x]? = some N' := hx
      split at hc
      · rename_i hcond
        cases hc
        obtain ⟨c1, c2, c3⟩ := hcond
        have c2 : y ≤ st.length := c2
        have c3 : pcs (st.drop y) ≤ 8 := c3
        have hd : decode (m_b M) pc = .ok (.invokestatic n, 3) := of_decide_eq_true hd0
        have hn : pcOf (m_code M) (i + 1) = pc + 3 := of_decide_eq_true hn0
        have ha : pnn P x y = true := ha0
        unfold pnn at ha
        rw [hx] at ha
        have ha := of_decide_eq_true ha
        have hl2 : plnk P (m_y M).cls (pc, .invokestatic n, x, y, v, ts) = [plk (m_y M).cls n (m_y N) v] := by
          show (match P[x]? with
            | some N => [plk (m_y M).cls n (m_y N) v]
            | none => pnlk (m_y M).cls n x) = _
          rw [hx]
        rw [hl2] at hl
        have hlk := hl _ List.mem_cons_self
        have hk0 : pmw N = [.code (m_y N) (m_b N) (m_l N) (m_r N), .static (m_y N), .initialized (m_y N).cls] := by unfold pmw; rw [c1]; rfl
        rw [hk0] at hNw
        have w2 := hNw _ (List.mem_cons_of_mem _ List.mem_cons_self)
        have w3 := hNw _ (List.mem_cons_of_mem _ (List.mem_cons_of_mem _ List.mem_cons_self))
        obtain ⟨sp1, sp2⟩ := stk_splitS (X := X) (bs := bs) c2
        have hp : PreS s H (va_Pc ((((st.take y).reverse)).map (emb X bs)) (PCx D X bs E h)) (((st.take y).reverse).map (emb X bs)) := ⟨fr_blind _ D X bs E h, fun U hU hW => ⟨rfl, cx_at C HR g1 U hU hW⟩⟩
        by_cases hv : v = .null
        · subst hv
          have cw := va_cwS (R := R) (s := s) (args := args) (own := (m_y M).cls) (index := n) (rm := prm d k1 n1) (mc := k1) (ms := n1) y hts (ws := pws N) (fun w hw => by
            rcases List.mem_append.mp hw with hw | hw
            · rcases List.mem_cons.mp hw with rfl | hw
              · exact ⟨hlk, Or.inl rfl⟩
              · rcases List.mem_cons.mp hw with rfl | hw
                · exact ⟨w2, Or.inl rfl⟩
                · rw [List.mem_singleton.mp hw]; exact ⟨w3, Or.inl rfl⟩
            · exact hG w hw) rfl rfl rfl ⟨b2, b3, ha⟩ hroom
          exact run_go (va_runS S (hM D X bs) cw hp rfl sp2 hls sp1 (lv_room (sum8 c3)) hd ⟨hR.2.2.1, hR.2.2.2⟩) HL g1 g2 hn kk
        · rw [plk_nn hv] at hlk
          have cw := va_cnB (R := R) (s := s) (args := args) (own := (m_y M).cls) (host := "StoneSheets") (index := n) (rm := prm d k1 n1) (mc := k1) (ms := n1) y hts (ws := pws N) hG rfl rfl rfl (va_Nw.of rfl (hts _ hlk)) (hts _ w3) ⟨b2, b3, ha⟩ hroom
          exact run_go (va_runSN S (hM D X bs) ⟨cw, hts _ w2, trivial⟩ hp rfl sp2 hls sp1 (lv_room (sum8 c3)) hd ⟨hR.2.2.1, hR.2.2.2⟩) HL g1 g2 hn kk
      · cases hc
    · cases hc
  · -- invokevirtual
    rename_i n hin
    obtain rfl : ins = .invokevirtual n := hin
    split at hc
    · rename_i N' hx
      have hx : P[x]? = some N' := hx
      split at hc
      · rename_i b r hdr
        have hdr : st.drop y = .ref b :: r := hdr
        split at hc
        · rename_i o ho
          split at hc
          · rename_i hcond
            cases hc
            obtain ⟨c1, c2, c3⟩ := hcond
            have hd : decode (m_b M) pc = .ok (.invokevirtual n, 3) := of_decide_eq_true hd0
            have hn : pcOf (m_code M) (i + 1) = pc + 3 := of_decide_eq_true hn0
            have ha : pnn P x y = true := ha0
            unfold pnn at ha
            rw [hx] at ha
            have ha := of_decide_eq_true ha
            have hl2 : plnk P (m_y M).cls (pc, .invokevirtual n, x, y, v, ts) = [.methodLink (m_y M).cls n (m_y N)] := by
              show (match P[x]? with
                | some N => [Cond.methodLink (m_y M).cls n (m_y N)]
                | none => []) = _
              rw [hx]
            rw [hl2] at hl
            have hlk := hl _ List.mem_cons_self
            have hk0 : pmw N = [.code (m_y N) (m_b N) (m_l N) (m_r N), .instanceMethod (m_y N), .selects (m_y N).cls (m_y N) (m_y N), .initialized (m_y N).cls] := by unfold pmw; rw [c1]; rfl
            rw [hk0] at hNw
            have w2 := hNw _ (List.mem_cons_of_mem _ List.mem_cons_self)
            have w3 := hNw _ (List.mem_cons_of_mem _ (List.mem_cons_of_mem _ List.mem_cons_self))
            have w4 := hNw _ (List.mem_cons_of_mem _ (List.mem_cons_of_mem _ (List.mem_cons_of_mem _ List.mem_cons_self)))
            obtain ⟨sp1, sp2⟩ := stk_split (X := X) (bs := bs) hdr
            have hrecv : ∃ cellB : Cell, H[bs + b]? = some cellB ∧ cellB.vm.isStatics = false ∧ s.vm.findClass (m_y N).cls = some cellB.cls := by
              obtain ⟨r0, hr0, hlen, cell, q1, q2, q3, -⟩ := HR.2 b _ (pobj_at ho)
              have b5 := b5 c1
              rw [← c2, hr0] at b5
              have b5 : r0.1 = (m_y N).cls := Option.some.inj b5
              refine ⟨cell, q1, by rw [q3]; rfl, ?_⟩
              rw [← b5, q2]
              exact (C.2.2.2.2.2.1.1 _ r0 hr0).2.1
            have hp : PreV s H (m_y N).cls (bs + b) (va_Pc ((Value.ref b :: (st.take y).reverse).map (emb X bs)) (PCx D X bs E h)) (((st.take y).reverse).map (emb X bs)) := ⟨fr_blind _ D X bs E h, hrecv, fun U hU hW => ⟨rfl, cx_at C HR g1 U hU hW⟩⟩
            have cw := cwV (R := R) (s := s) (args := args) (own := (m_y M).cls) (C := (m_y N).cls) (index := n) (rm := prm d k1 n1) (mc := k1) (ms := n1) y hts (ws := pws N) (fun w hw => by
              rcases List.mem_append.mp hw with hw | hw
              · rcases List.mem_cons.mp hw with rfl | hw
                · exact ⟨hlk, Or.inl rfl⟩
                · rcases List.mem_cons.mp hw with rfl | hw
                  · exact ⟨w2, Or.inl rfl⟩
                  · rcases List.mem_cons.mp hw with rfl | hw
                    · exact ⟨w3, Or.inl rfl⟩
                    · rw [List.mem_singleton.mp hw]; exact ⟨w4, Or.inl rfl⟩
              · exact hG w hw) rfl rfl rfl ⟨rfl, b2, b3, ha⟩ hroom
            exact run_go (va_runV S (hM D X bs) cw hp rfl sp2 hls sp1 (lv_room (sum8 c3)) hd ⟨hR.2.2.1, hR.2.2.2⟩) HL g1 g2 hn kk
          · cases hc
        · cases hc
      · cases hc
    · cases hc
  · -- invokespecial
    rename_i n hin
    obtain rfl : ins = .invokespecial n := hin
    split at hc
    · rename_i N' hx
      have hx : P[x]? = some N' := hx
      split at hc
      · rename_i b r hdr
        have hdr : st.drop y = .ref b :: r := hdr
        split at hc
        · rename_i hcond
          cases hc
          obtain ⟨c1, c3⟩ := hcond
          have hd : decode (m_b M) pc = .ok (.invokespecial n, 3) := of_decide_eq_true hd0
          have hn : pcOf (m_code M) (i + 1) = pc + 3 := of_decide_eq_true hn0
          have ha : pnn P x y = true := ha0
          unfold pnn at ha
          rw [hx] at ha
          have ha := of_decide_eq_true ha
          have hl2 : plnk P (m_y M).cls (pc, .invokespecial n, x, y, v, ts) = [plk (m_y M).cls n (m_y N) v] := by
            show (match P[x]? with
              | some N => [plk (m_y M).cls n (m_y N) v]
              | none => [Cond.methodLink (m_y M).cls n Lib.objectInit, .instanceMethod Lib.objectInit, .code Lib.objectInit ⟨#[0xb1]⟩ 1 none]) = _
            rw [hx]
          rw [hl2] at hl
          have hlk := hl _ List.mem_cons_self
          have hk0 : pmw N = [.code (m_y N) (m_b N) (m_l N) (m_r N), .instanceMethod (m_y N), .initialized (m_y N).cls] := by unfold pmw; rw [c1]; rfl
          rw [hk0] at hNw
          have w2 := hNw _ (List.mem_cons_of_mem _ List.mem_cons_self)
          have w3 := hNw _ (List.mem_cons_of_mem _ (List.mem_cons_of_mem _ List.mem_cons_self))
          obtain ⟨hinit, hret⟩ := b6 c1
          obtain ⟨sp1, sp2⟩ := stk_split (X := X) (bs := bs) hdr
          have hp : PreS s H (va_Pc ((Value.ref b :: (st.take y).reverse).map (emb X bs)) (PCx D X bs E h)) (.ref (bs + b) :: ((st.take y).reverse).map (emb X bs)) := ⟨fr_blind _ D X bs E h, fun U hU hW => ⟨rfl, cx_at C HR g1 U hU hW⟩⟩
          have hw : pws N = .code (m_y N) (m_b N) (m_l N) none :: gtbl := by unfold pws; rw [hret]
          by_cases hv : v = .null
          · subst hv
            have cw := cwI (R := R) (s := s) (args := args) (own := (m_y M).cls) (index := n) (rm := prm d k1 n1) (mc := k1) (ms := n1) y hts (ws := pws N) hG hw rfl rfl (hts _ w3) (hts _ hlk) (hts _ w2) hinit ⟨b2, b3, ha⟩ hroom
            exact run_go (va_runI S (hM D X bs) cw hp rfl sp2 hls sp1 (lv_room (sum8 c3)) hd ⟨hR.2.2.1, hR.2.2.2⟩) HL g1 g2 hn kk
          · rw [plk_nn hv] at hlk
            have cw := va_cnB (R := R) (s := s) (args := args) (own := (m_y M).cls) (host := "StoneSheets") (index := n) (rm := prm d k1 n1) (mc := k1) (ms := n1) y hts (ws := pws N) hG hw rfl rfl (va_Nw.of rfl (hts _ hlk)) (hts _ w3) ⟨b2, b3, ha⟩ hroom
            exact run_go (va_runIN S (hM D X bs) ⟨cw, hinit, hts _ w2⟩ hp rfl sp2 hls sp1 (lv_room (sum8 c3)) hd ⟨hR.2.2.1, hR.2.2.2⟩) HL g1 g2 hn kk
        · cases hc
      · cases hc
    · cases hc
  · cases hc
end PWE
theorem pcall_in {P : List pM} {t : pE} {st : List Value} {h : List pC} {N : pM} {as rest : List Value} (hc : pcall P t st h = some (N, as, rest)) : N ∈ P := by
  unfold pcall at hc
  split at hc
  · split at hc
    · rename_i hx
      split at hc
      · cases hc
        exact List.mem_of_getElem? hx
      · cases hc
    · cases hc
  · split at hc
    · rename_i hx
      split at hc
      · split at hc
        · split at hc
          · cases hc
            exact List.mem_of_getElem? hx
          · cases hc
        · cases hc
      · cases hc
    · cases hc
  · split at hc
    · rename_i hx
      split at hc
      · split at hc
        · cases hc
          exact List.mem_of_getElem? hx
        · cases hc
      · cases hc
    · cases hc
  · cases hc
theorem ret_ok {p : Program} {l : Launch} {e : Env} {R : Room} {s : State} {m : MethodId} {args : Array Value} {below : List Frame} {meth : Method} {c : Code} {D : va_G} {X : Nat → Nat} {bs : Nat} {E : pX} {M : pM} (C : Cx p s m args meth c D X bs E M) (hr : meth.sig.returnType = m_r M) (hlocks : meth.locks = false) {i : Nat} {L : pL} {st : List Value} {h : List pC} {t : pE} {r : Option Value} {cells slots : Nat}
    (he : (m_code M)[i]? = some t) (hd : pwdec (m_b M) t = true) (hp : pret M t st = some r) : PW p l e R s m args below meth c (MQ below (PQ D X bs r h) args s cells slots (fun q => bs ≤ q)) D X bs M i L st h cells slots := by
  obtain ⟨pc, ins, x, y, v, ts⟩ := t
  intro H locs ls HR HL g1 g2
  rw [show pcOf (m_code M) i = pc from pcOf_at he]
  have q0 : ∀ (w : Option Value) (t : State), t.heap = H → s.WarmedH t.vm → PQ D X bs w h args s (.returned (w.map (emb X bs))) t := fun w t ht hW => ⟨rfl, by rw [ht]; exact HR.moved hW.alike, fun q hq => by rw [ht]; exact g1 q hq⟩
  unfold pret at hp
  split at hp
  · rename_i hin
    obtain rfl : ins = .return_ := hin
    have hd : decode (m_b M) pc = .ok (.return_, 1) := of_decide_eq_true hd
    split at hp
    · rename_i hm
      cases hp
      exact W.vret C.1 C.2.1 (hr.trans hm) (q0 none) g2 hd hlocks
    · cases hp
  · rename_i z hin
    obtain rfl : ins = .ireturn := hin
    have hd : decode (m_b M) pc = .ok (.ireturn, 1) := of_decide_eq_true hd
    split at hp
    · rename_i hm
      cases hp
      exact W.iret C.1 C.2.1 (hr.trans hm) (q0 (some (.int z))) g2 hd hlocks
    · rename_i hm
      split at hp
      · rename_i hz
        cases hp
        exact W.zret (ty := .boolean) C.1 C.2.1 (hr.trans hm) (by rcases hz with rfl | rfl <;> rfl) (q0 (some (.int z))) g2 hd hlocks
      · cases hp
    · cases hp
  · rename_i hin
    obtain rfl : ins = .areturn := hin
    have hd : decode (m_b M) pc = .ok (.areturn, 1) := of_decide_eq_true hd
    split at hp
    · rename_i cn hm
      cases hp
      exact W.aret C.1 C.2.1 (hr.trans hm) (Or.inl ⟨cn, rfl⟩) (Or.inl rfl) (q0 (some .null)) g2 hd hlocks
    · cases hp
  · rename_i a hin
    obtain rfl : ins = .areturn := hin
    have hd : decode (m_b M) pc = .ok (.areturn, 1) := of_decide_eq_true hd
    split at hp
    · rename_i cn hm
      cases hp
      exact W.aret C.1 C.2.1 (hr.trans hm) (Or.inl ⟨cn, rfl⟩) (Or.inr ⟨bs + a, rfl⟩) (q0 (some (.ref a))) g2 hd hlocks
    · cases hp
  · cases hp
theorem wfe_at {P : List pM} {M : pM} (hW : WFe P M) {i : Nat} {t : pE} (he : (m_code M)[i]? = some t) : pwdec (m_b M) t = true ∧ pwnext (m_code M) i t = true ∧ pwarg P M t = true ∧ ∀ w ∈ plnk P (m_y M).cls t, w ∈ utbl := by
  have h := pwAll_at (m_code M) 0 i t hW.1 he
  rw [Nat.zero_add, Bool.and_eq_true, Bool.and_eq_true] at h
  exact ⟨h.1, h.2.1, h.2.2, fun w hw => hW.2 w (List.mem_flatMap.mpr ⟨t, List.mem_of_getElem? he, hw⟩)⟩
/-- what a run of the pure machine with fuel f says of the machine -/
def Snd (l : Launch) (P : List pM) (E : pX) (V : pV) (f : Nat) : Prop :=
  ∀ (d : Nat) (M : pM) (i : Nat) (L : pL) (st : List Value) (h : List pC) (r : Option Value) (h' : List pC) (k n : Nat), pexec P E V f d M i L st h = some (r, h', k, n) → WFe P M →
    ∀ (p : Program) (e : Env) (R : Room) (s : State) (m : MethodId) (args : Array Value) (below : List Frame) (meth : Method) (c : Code) (Q : State → Prop) (D : va_G) (X : Nat → Nat) (bs : Nat), Cx p s m args meth c D X bs E M → d ≤ R.frames → 40 * d ≤ R.locals →
    ∀ mc ms cells slots : Nat, cells + k = mc → slots + n = ms → mc ≤ R.cells → ms ≤ R.slots →
    (∀ (i : Nat) (L : pL) (st : List Value) (t : pE), (m_code M)[i]? = some t → pret M t st = some r → PW p l e R s m args below meth c Q D X bs M i L st h' mc ms) → PW p l e R s m args below meth c Q D X bs M i L st h cells slots
theorem cn_of {l : Launch} {P : List pM} {E : pX} {V : pV} {f : Nat} (hS : Snd l P E V f) {d : Nat} {M : pM} {as : List Value} {h h' : List pC} {r : Option Value} {k n : Nat} (hM : WFm P M) (hlen : (pexp as).length ≤ m_l M) (hx : pexec P E V f d M 0 (pent (m_l M) as) [] h = some (r, h', k, n)) : Cn l E M d as h r h' k n := by
  intro D X bs
  obtain ⟨hMe, hMb, hMw⟩ := hM
  obtain ⟨b1, b2, b3, ⟨b4, b40⟩, b5, b6⟩ := pmB_s hMb
  refine Met.ofW (cc := m_b M) (maxL := m_l M) (ret := m_r M) b1 rfl ?_
  intro p e s m args below meth c s₁ B hml hv
  obtain ⟨rfl, hR, hK, hE, hN, hG⟩ := hv
  have hts : ∀ w ∈ pws M, w.before ((as.map (emb X bs)).toArray) s = true := atoms_spec (ws := pws M) B.pre
  have C : Cx p s m ((as.map (emb X bs)).toArray) meth c D X bs E M := ⟨B.exec, B.bytes, hml, findClass_of_methodNamed B.named, fun w hw => (by
    obtain ⟨hw1, hw2⟩ := List.mem_filter.mp hw
    by_cases hg : goodWord w = true
    · exact hts w (List.mem_cons_of_mem _ (List.mem_filter.mpr ⟨hw1, hg⟩))
    · have hn : nword w = true := by
        unfold uword at hw2
        rw [show goodWord w = false by simpa using hg, Bool.false_or] at hw2
        exact hw2
      exact nword_same hn rfl (hN w hw hn)), hK, hE, fun hk => (name_of_methodNamed B.named B.method).1.trans (b6 hk).1, hG⟩
  have hH := LH.entry X bs (m_l M) as hlen
  rw [lg_entry_eq]
  have key := hS d M 0 (pent (m_l M) as) [] h r h' k n hx hMe p e (headSpec (pws M) (prm d k n)).room s m ((as.map (emb X bs)).toArray) below meth c (MQ below (PQ D X bs r h') ((as.map (emb X bs)).toArray) s k n (fun q => bs ≤ q)) D X bs C (Nat.le_refl _) (Nat.le_refl _) k n 0 0 (Nat.zero_add _) (Nat.zero_add _) (Nat.le_refl _) (Nat.le_refl _)
    (fun i L st t he hp => ret_ok C B.returns B.notSynchronized he (wfe_at hMe he).1 hp) s.heap [] _ hR hH (fun _ _ => rfl) (fun x hx => by cases hx)
  rw [b40] at key
  exact key
theorem snd {l : Launch} {P : List pM} {E : pX} {V : pV} (hP : ∀ M ∈ P, WFm P M) (hPl : P.length ≤ 90000) (hV : ∀ M ∈ P, m_code M = [] → ∀ (as : List Value) (h : List pC) (r : Option Value), V M as h = some r → (∃ (t : pE) (st rest : List Value), pcall P t st h = some (M, as, rest)) → ∀ d : Nat, 6 ≤ d → Cn l E M d as h r h 0 0) : ∀ f : Nat, Snd l P E V f := by
  intro f
  induction f with
  | zero =>
    intro d M i L st h r h' k n hx
    cases hx
  | succ f ih =>
    intro d M i L st h r h' k n hx hMe p e R s m args below meth c Q D X bs C hR1 hR2 mc ms cells slots hcm hsm hcR hsR hret
    cases d with
    | zero => cases hx
    | succ d =>
      unfold pexec at hx
      split at hx
      · cases hx
      · rename_i t he
        obtain ⟨wd, wn, wa, wl⟩ := wfe_at hMe he
        have B : SWc p s m args meth c D X bs E P M i t := ⟨C, he, wd, wn, wa, wl⟩
        split at hx
        · rename_i rr hpr
          cases hx
          rw [← hcm, ← hsm] at hret
          exact hret i L st t he hpr
        · split at hx
          · rename_i N as rest hpc
            have hN := hP N (pcall_in hpc)
            split at hx
            · rename_i hcode
              split at hx
              · rename_i h6
                split at hx
                · rename_i r1 hv
                  have hM := hV N (pcall_in hpc) hcode as h r1 hv ⟨_, _, _, hpc⟩ d h6
                  refine call_go B hpc hN hM ⟨by omega, by omega, by omega, by omega⟩ ?_
                  exact ih (d + 1) M (i + 1) L (r1.toList ++ rest) h r h' k n hx hMe p e R s m args below meth c Q D X bs C hR1 hR2 mc ms _ _ (by omega) (by omega) hcR hsR hret
                · cases hx
              · cases hx
            · split at hx
              · rename_i hlen
                split at hx
                · rename_i r1 h1 k1 n1 hx1
                  split at hx
                  · rename_i r2 h2 k2 n2 hx2
                    cases hx
                    have hM := cn_of ih hN hlen hx1
                    refine call_go B hpc hN hM ⟨by omega, by omega, by omega, by omega⟩ ?_
                    exact ih (d + 1) M (i + 1) L (r1.toList ++ rest) h1 r h' k2 n2 hx2 hMe p e R s m args below meth c Q D X bs C hR1 hR2 mc ms _ _ (by omega) (by omega) hcR hsR hret
                  · cases hx
                · cases hx
              · cases hx
          · split at hx
            · rename_i i1 L1 st1 h1 dk dn hst
              split at hx
              · rename_i r2 h2 k2 n2 hx2
                cases hx
                refine sw_all B (by omega) (by omega) hPl hst (by show cells + dk ≤ R.cells; omega) (by show slots + dn ≤ R.slots; omega) ?_
                exact ih (d + 1) M i1 L1 st1 h1 r h' k2 n2 hx2 hMe p e R s m args below meth c Q D X bs C hR1 hR2 mc ms _ _ (by show cells + dk + k2 = mc; omega) (by show slots + dn + n2 = ms; omega) hcR hsR hret
              · cases hx
            · cases hx
