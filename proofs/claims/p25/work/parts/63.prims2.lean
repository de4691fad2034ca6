/-! ===== isWord, keyRead, nameRead, isOf on the real machine (word places printed by program) ===== -/
section WR2
variable {p : Program} {l : Launch} {e : Env} {R : Room} {s : State} {m : MethodId} {args : Array Value} {below : List Frame} {meth : Method} {c : Code} {Q : State → Prop} {D : va_G} {X : Nat → Nat} {bs : Nat} {E : pX} {M N : pM}
variable {pc y index : Nat} {h h1 : List pC} {cells slots d : Nat} {r : Option Value} {H : Heap} {locs : List Loc} {ls : Array Slot} {rest : List Value}
theorem RA.alen {V : pV} {pc x i : Nat} {v : Value} {ts : List Nat} {L : pL} {t : Nat} {o : Nat × (Nat → Int32)} {res : pR} {P : List pM} (he : (m_code M)[i]? = some (pc, .arraylength, x, y, v, ts)) (ho : pint h t = some o) (k : RA P E V (d + 1) M (i + 1) L (.int (Int32.ofNat o.1) :: rest) h res) : RA P E V (d + 1) M i L (.ref t :: rest) h res := by
  refine RA.step0 he rfl rfl ?_ k
  show (match h[t]? with
    | some (.inl x) => pnx i L (.int (Int32.ofNat x.1) :: rest) h
    | some (.inr (.inl x)) => pnx i L (.int (Int32.ofNat x.2.1) :: rest) h
    | _ => none) = _
  unfold pint at ho
  split at ho
  · rename_i o' hz
    cases ho
    rw [hz]
    rfl
  · cases ho
/-- the byte at a place of the text -/
def bA (sz : Nat) (f : Nat → Int32) (n i : Int32) : Int32 := if i < 0 then -1 else if n ≤ i then -1 else if Int32.ofNat sz ≤ i then -1 else f i.toNatClampNeg
theorem clamp_lt {i : Int32} {sz : Nat} (h0 : ¬ i < 0) (hs : sz < 2 ^ 31) (h1 : ¬ Int32.ofNat sz ≤ i) : i.toNatClampNeg < sz := by
  obtain ⟨j, hj, rfl⟩ := nI_of h0
  rw [nI_clamp hj]
  rcases Nat.lt_or_ge j sz with q | q
  · exact q
  · exact absurd (nI_le q hj) h1
theorem byteAt_run {V : pV} {k t sz : Nat} {fs : List Value} {f : Nat → Int32} {n : Int32} (ho : pobj h k = some (2, fs)) (h0 : fs[0]? = some (.ref t)) (h1 : fs[1]? = some (.int n)) (ht : pint h t = some (sz, f)) (hs : sz < 2 ^ 31) (i : Int32) : Run prog E V (d + 1) mX2_byteAt [.ref k, .int i] h (some (.int (bA sz f n i)), h, 0, 0) := by
  refine ⟨Nat.le_of_ble_eq_true rfl, ⟨_, _, rfl⟩, ?_⟩
  have no : RA prog E V (d + 1) mX2_byteAt 16 [some (.ref k), some (.int i)] [] h (some (.int (-1)), h, 0, 0) := RA.steps 1 rfl (RA.ret rfl rfl)
  unfold bA
  refine RA.steps 1 rfl ?_
  by_cases a0 : i < 0
  · rw [if_pos a0]
    exact RA.if1T rfl (decide_eq_true a0) no
  rw [if_neg a0]
  refine RA.if1F rfl (decide_eq_false a0) ?_
  refine RA.steps 2 rfl ?_
  refine RA.getf rfl ho rfl h1 ?_
  by_cases a1 : n ≤ i
  · rw [if_pos a1]
    exact RA.if2T rfl (decide_eq_true a1) no
  rw [if_neg a1]
  refine RA.if2F rfl (decide_eq_false a1) ?_
  refine RA.steps 2 rfl ?_
  refine RA.getf rfl ho rfl h0 ?_
  refine RA.alen rfl ht ?_
  by_cases a2 : Int32.ofNat sz ≤ i
  · rw [if_pos a2]
    exact RA.if2T rfl (decide_eq_true a2) no
  rw [if_neg a2]
  refine RA.if2F rfl (decide_eq_false a2) ?_
  refine RA.steps 1 rfl ?_
  refine RA.getf rfl ho rfl h0 ?_
  refine RA.steps 1 rfl ?_
  refine RA.iald rfl ht ⟨Int32.not_lt.mp a0, clamp_lt a0 hs a2⟩ rfl ?_
  refine RA.steps 1 rfl ?_
  exact RA.ret rfl rfl
theorem recv2 {k : Nat} {fs : List Value} (C : Cx p s m args meth c D X bs E M) (HR : Rep D X bs s h H) (ho : pobj h k = some (2, fs)) : ∃ cellB : Cell, H[bs + k]? = some cellB ∧ cellB.vm.isStatics = false ∧ s.vm.findClass "StoneSheets$Reader" = some cellB.cls := by
  obtain ⟨r0, hr0, hlen, cell, q1, q2, q3, -⟩ := HR.2 k _ (pobj_at ho)
  have hr0 : pcls[2]? = some r0 := hr0
  have b5 : r0.1 = "StoneSheets$Reader" := by
    cases hr0
    rfl
  refine ⟨cell, q1, by rw [q3]; rfl, ?_⟩
  rw [← b5, q2]
  exact (C.2.2.2.2.2.1.1 _ r0 hr0).2.1
/-- the text from a place on is that word -/
def wdG (F b : Nat → Int32) : Nat → Nat → Int32
  | 0, _ => 1
  | m + 1, k => if F k = b k &&& 255 then wdG F b m (k + 1) else 0
def isW (B : Int32 → Int32) (sv pv : Int32) (n : Nat) (b : Nat → Int32) : Int32 := if pv - sv = Int32.ofNat n then wdG (fun j => B (sv + Int32.ofNat j)) b n 0 else 0
theorem isWord_c {k : Nat} {fs : List Value} {sv pv : Int32} {B : Int32 → Int32} (n a : Nat) (b : Nat → Int32) (d : Nat) (hd : 4 ≤ d) (hn : n < 2 ^ 31) (hB : ∀ f : Nat, 1 ≤ f → ∀ i : Int32, Cn l E mX2_byteAt f [.ref k, .int i] h (some (.int (B i))) h 0 0) (ho : pobj h k = some (2, fs)) (h3 : fs[3]? = some (.int sv)) (h4 : fs[4]? = some (.int pv)) : Met l (m_y mX2_isWord) (pws mX2_isWord) (prm d 0 0) (va_Pc [.ref (bs + k), .ref a] (PCs D X bs E h n a b)) (PQ D X bs (some (.int (isW B sv pv n b))) h) 0 0 (fun q => bs ≤ q) := by
  obtain ⟨f, rfl⟩ : ∃ f, d = f + 1 := ⟨d - 1, by omega⟩
  refine open_c (av := [.ref (bs + k), .ref a]) (h := h) (E := E) (by decide +kernel) (by decide) (fun U hU => hU.1) ?_
  intro p e R s m below meth c r1 r2 r3 r4 C HR hS hret hlocks
  have hS0 : va_S (fun q => bs ≤ q) s.heap s.heap [] := vaS_of HR HR (fun _ _ => rfl) (fun _ hx => by cases hx)
  have hL := lv_entry [.ref (bs + k), .ref a] (n := m_l mX2_isWord) (Nat.le_of_ble_eq_true rfl)
  refine lv_aload_n C.1 C.2.1 (i := 0) (x := bs + k) (show decode (m_b mX2_isWord) 0 = .ok (.aload_n 0, 1) by decide +kernel) rfl (lv_at hL 0 rfl) ?_
  refine getf_w (y := 4) (w := .int pv) C HR ho rfl (by decide) h4 (utb 233 (by decide +kernel) (by decide +kernel)) (show decode (m_b mX2_isWord) 1 = .ok (.getfield 22, 3) by decide +kernel) ?_
  refine lv_aload_n C.1 C.2.1 (i := 0) (x := bs + k) (show decode (m_b mX2_isWord) 4 = .ok (.aload_n 0, 1) by decide +kernel) rfl (lv_at hL 0 rfl) ?_
  refine getf_w (y := 3) (w := .int sv) C HR ho rfl (by decide) h3 (utb 232 (by decide +kernel) (by decide +kernel)) (show decode (m_b mX2_isWord) 5 = .ok (.getfield 35, 3) by decide +kernel) ?_
  refine lv_isub C.1 C.2.1 (x := pv) (y := sv) (rest := []) (show decode (m_b mX2_isWord) 8 = .ok (.isub, 1) by decide +kernel) ?_
  refine lv_aload_n C.1 C.2.1 (i := 1) (x := a) (show decode (m_b mX2_isWord) 9 = .ok (.aload_n 1, 1) by decide +kernel) rfl (lv_at hL 1 rfl) ?_
  refine callV_w (N := mJ_length) (d := f) (As := []) (rest := [.int (pv - sv)]) C (show decode (m_b mX2_isWord) 10 = .ok (.invokevirtual 89, 3) by decide +kernel) (utb 769 (by decide +kernel) (by decide +kernel)) (utb 770 (by decide +kernel) (by decide +kernel)) (utb 771 (by decide +kernel) (by decide +kernel)) (utb 78 (by decide +kernel) (by decide +kernel)) (utb 772 (by decide +kernel) (by decide +kernel)) ⟨by decide +kernel, by decide +kernel, (show (parseMethodDescriptor (m_y mJ_length).desc).map (fun d => d.parameters.length) = some 0 by decide +kernel)⟩ ⟨by omega, by show 8 + (1 + 11) + 40 * f ≤ R.locals; omega, by omega, by omega⟩ (length_c n a b f (by omega) hn) (fun u U hv hh hp => hp.same hv hh) (STR.recv hS.2 (fun _ _ => rfl)) (PCs.at C HR (fun _ _ => rfl) hS.2) hL.1 (Nat.le_of_ble_eq_true rfl) (fun _ _ => rfl) (fun _ hx => by cases hx) ?_
  intro H1 locs1 HR1 gA1 gB1
  unfold isW
  by_cases he : pv - sv = Int32.ofNat n
  · rw [if_pos he]
    refine lv_icmp_eq C.1 C.2.1 (tgt := 18) (show decode (m_b mX2_isWord) 13 = .ok (.if_icmp .eq 5, 3) by decide +kernel) (by decide) (fun _ => ?_) (fun hx => absurd he hx)
    refine lv_iconst C.1 C.2.1 (v := 0) (show decode (m_b mX2_isWord) 18 = .ok (.iconst 0, 1) by decide +kernel) (by decide) ?_
    refine lv_istore_n C.1 C.2.1 (i := 2) (nL := m_l mX2_isWord) (x := 0) (lv' := [(2, .int 0), (0, .ref (bs + k)), (1, .ref a)]) (show decode (m_b mX2_isWord) 19 = .ok (.istore_n 2, 1) by decide +kernel) rfl hL (by decide) rfl ?_
    intro ls2 hL2
    have loop : ∀ (m1 k1 : Nat), k1 + m1 = n → wdG (fun j => B (sv + Int32.ofNat j)) b n 0 = wdG (fun j => B (sv + Int32.ofNat j)) b m1 k1 → ∀ (H : Heap) (locs : List Loc) (ls : Array Slot), Rep D X bs s h H → (∀ q : Nat, q < bs → H[q]? = s.heap[q]?) → (∀ x ∈ locs, bs ≤ x.base) → lv_has ls (m_l mX2_isWord) [(2, .int (Int32.ofNat k1)), (0, .ref (bs + k)), (1, .ref a)] → W p l e R s m ([.ref (bs + k), .ref a] : List Value).toArray below meth c H locs 0 0 (MQ below (PQ D X bs (some (.int (wdG (fun j => B (sv + Int32.ofNat j)) b n 0))) h) ([.ref (bs + k), .ref a] : List Value).toArray s 0 0 (fun q => bs ≤ q)) (F0 m 20 ls []) := by
      intro m1
      induction m1 with
      | zero =>
        intro k1 hk hr H locs ls HRk gk1 gk2 hl
        refine lv_iload_n C.1 C.2.1 (i := 2) (x := Int32.ofNat k1) (show decode (m_b mX2_isWord) 20 = .ok (.iload_n 2, 1) by decide +kernel) rfl (lv_at hl 0 rfl) ?_
        refine lv_aload_n C.1 C.2.1 (i := 1) (x := a) (show decode (m_b mX2_isWord) 21 = .ok (.aload_n 1, 1) by decide +kernel) rfl (lv_at hl 2 rfl) ?_
        refine callV_w (N := mJ_length) (d := f) (As := []) (rest := [.int (Int32.ofNat k1)]) C (show decode (m_b mX2_isWord) 22 = .ok (.invokevirtual 89, 3) by decide +kernel) (utb 769 (by decide +kernel) (by decide +kernel)) (utb 770 (by decide +kernel) (by decide +kernel)) (utb 771 (by decide +kernel) (by decide +kernel)) (utb 78 (by decide +kernel) (by decide +kernel)) (utb 772 (by decide +kernel) (by decide +kernel)) ⟨by decide +kernel, by decide +kernel, (show (parseMethodDescriptor (m_y mJ_length).desc).map (fun d => d.parameters.length) = some 0 by decide +kernel)⟩ ⟨by omega, by show 8 + (1 + 11) + 40 * f ≤ R.locals; omega, by omega, by omega⟩ (length_c n a b f (by omega) hn) (fun u U hv hh hp => hp.same hv hh) (STR.recv hS.2 gk1) (PCs.at C HRk gk1 hS.2) hl.1 (Nat.le_of_ble_eq_true rfl) gk1 gk2 ?_
        intro H3 locs3 HR3 gA3 gB3
        refine lv_icmp_ge C.1 C.2.1 (tgt := 54) (show decode (m_b mX2_isWord) 25 = .ok (.if_icmp .ge 29, 3) by decide +kernel) (by decide) (fun _ => ?_) (fun hx => absurd (nI_le (by omega) (by omega)) hx)
        rw [hr, wdG]
        refine lv_iconst C.1 C.2.1 (v := 1) (show decode (m_b mX2_isWord) 54 = .ok (.iconst 1, 1) by decide +kernel) (by decide) ?_
        exact W.zret (ty := .boolean) C.1 C.2.1 hret rfl (q_ret HR3 gA3 1) gB3 (show decode (m_b mX2_isWord) 55 = .ok (.ireturn, 1) by decide +kernel) hlocks
      | succ m1 ih =>
        intro k1 hk hr H locs ls HRk gk1 gk2 hl
        refine lv_iload_n C.1 C.2.1 (i := 2) (x := Int32.ofNat k1) (show decode (m_b mX2_isWord) 20 = .ok (.iload_n 2, 1) by decide +kernel) rfl (lv_at hl 0 rfl) ?_
        refine lv_aload_n C.1 C.2.1 (i := 1) (x := a) (show decode (m_b mX2_isWord) 21 = .ok (.aload_n 1, 1) by decide +kernel) rfl (lv_at hl 2 rfl) ?_
        refine callV_w (N := mJ_length) (d := f) (As := []) (rest := [.int (Int32.ofNat k1)]) C (show decode (m_b mX2_isWord) 22 = .ok (.invokevirtual 89, 3) by decide +kernel) (utb 769 (by decide +kernel) (by decide +kernel)) (utb 770 (by decide +kernel) (by decide +kernel)) (utb 771 (by decide +kernel) (by decide +kernel)) (utb 78 (by decide +kernel) (by decide +kernel)) (utb 772 (by decide +kernel) (by decide +kernel)) ⟨by decide +kernel, by decide +kernel, (show (parseMethodDescriptor (m_y mJ_length).desc).map (fun d => d.parameters.length) = some 0 by decide +kernel)⟩ ⟨by omega, by show 8 + (1 + 11) + 40 * f ≤ R.locals; omega, by omega, by omega⟩ (length_c n a b f (by omega) hn) (fun u U hv hh hp => hp.same hv hh) (STR.recv hS.2 gk1) (PCs.at C HRk gk1 hS.2) hl.1 (Nat.le_of_ble_eq_true rfl) gk1 gk2 ?_
        intro H3 locs3 HR3 gA3 gB3
        refine lv_icmp_ge C.1 C.2.1 (tgt := 54) (show decode (m_b mX2_isWord) 25 = .ok (.if_icmp .ge 29, 3) by decide +kernel) (by decide) (fun hx => absurd hx (nI_ge (by omega) (by omega))) (fun _ => ?_)
        refine lv_aload_n C.1 C.2.1 (i := 0) (x := bs + k) (show decode (m_b mX2_isWord) 28 = .ok (.aload_n 0, 1) by decide +kernel) rfl (lv_at hl 1 rfl) ?_
        refine lv_aload_n C.1 C.2.1 (i := 0) (x := bs + k) (show decode (m_b mX2_isWord) 29 = .ok (.aload_n 0, 1) by decide +kernel) rfl (lv_at hl 1 rfl) ?_
        refine getf_w (y := 3) (w := .int sv) C HR3 ho rfl (by decide) h3 (utb 232 (by decide +kernel) (by decide +kernel)) (show decode (m_b mX2_isWord) 30 = .ok (.getfield 35, 3) by decide +kernel) ?_
        refine lv_iload_n C.1 C.2.1 (i := 2) (x := Int32.ofNat k1) (show decode (m_b mX2_isWord) 33 = .ok (.iload_n 2, 1) by decide +kernel) rfl (lv_at hl 0 rfl) ?_
        refine lv_iadd C.1 C.2.1 (x := sv) (y := Int32.ofNat k1) (show decode (m_b mX2_isWord) 34 = .ok (.iadd, 1) by decide +kernel) ?_
        refine callV_w (N := mX2_byteAt) (d := f) (As := [.int (sv + Int32.ofNat k1)]) (rest := []) C (show decode (m_b mX2_isWord) 35 = .ok (.invokevirtual 65, 3) by decide +kernel) (utb 752 (by decide +kernel) (by decide +kernel)) (utb 754 (by decide +kernel) (by decide +kernel)) (utb 6 (by decide +kernel) (by decide +kernel)) (utb 71 (by decide +kernel) (by decide +kernel)) (utb 755 (by decide +kernel) (by decide +kernel)) ⟨by decide +kernel, by decide +kernel, (show (parseMethodDescriptor (m_y mX2_byteAt).desc).map (fun d => d.parameters.length) = some 1 by decide +kernel)⟩ ⟨by omega, by show 8 + (2 + 11) + 40 * f ≤ R.locals; omega, by omega, by omega⟩ (hB f (by omega) (sv + Int32.ofNat k1) D X bs) (fun u U hv hh hp => hp.same hv hh) (recv2 C HR3 ho) (cx_at C HR3 gA3) hl.1 (Nat.le_of_ble_eq_true rfl) gA3 gB3 ?_
        intro H4 locs4 HR4 gA4 gB4
        refine lv_aload_n C.1 C.2.1 (i := 1) (x := a) (show decode (m_b mX2_isWord) 38 = .ok (.aload_n 1, 1) by decide +kernel) rfl (lv_at hl 2 rfl) ?_
        refine lv_iload_n C.1 C.2.1 (i := 2) (x := Int32.ofNat k1) (show decode (m_b mX2_isWord) 39 = .ok (.iload_n 2, 1) by decide +kernel) rfl (lv_at hl 0 rfl) ?_
        refine callV_w (N := mJ_charAt) (d := f) (As := [.int (Int32.ofNat k1)]) (rest := [.int (B (sv + Int32.ofNat k1))]) C (show decode (m_b mX2_isWord) 40 = .ok (.invokevirtual 93, 3) by decide +kernel) (utb 779 (by decide +kernel) (by decide +kernel)) (utb 780 (by decide +kernel) (by decide +kernel)) (utb 781 (by decide +kernel) (by decide +kernel)) (utb 78 (by decide +kernel) (by decide +kernel)) (utb 782 (by decide +kernel) (by decide +kernel)) ⟨by decide +kernel, by decide +kernel, (show (parseMethodDescriptor (m_y mJ_charAt).desc).map (fun d => d.parameters.length) = some 1 by decide +kernel)⟩ ⟨by omega, by show 8 + (2 + 11) + 40 * f ≤ R.locals; omega, by omega, by omega⟩ (charAt_c n a b k1 f (by omega) hn (by omega)) (fun u U hv hh hp => hp.same hv hh) (STR.recv hS.2 gA4) (PCs.at C HR4 gA4 hS.2) hl.1 (Nat.le_of_ble_eq_true rfl) gA4 gB4 ?_
        intro H5 locs5 HR5 gA5 gB5
        rw [wdG] at hr
        by_cases hb : B (sv + Int32.ofNat k1) = b k1 &&& 255
        · rw [if_pos hb] at hr
          refine lv_icmp_eq C.1 C.2.1 (tgt := 48) (show decode (m_b mX2_isWord) 43 = .ok (.if_icmp .eq 5, 3) by decide +kernel) (by decide) (fun _ => ?_) (fun hx => absurd hb hx)
          refine lv_iinc C.1 C.2.1 (k := 0) (v := Int32.ofNat (k1 + 1)) (lv' := [(2, .int (Int32.ofNat (k1 + 1))), (0, .ref (bs + k)), (1, .ref a)]) (show decode (m_b mX2_isWord) 48 = .ok (.iinc 2 1, 3) by decide +kernel) hl rfl (nI_succ k1).symm (by decide) rfl ?_
          intro ls2 hl2
          refine lv_goto C.1 C.2.1 (tgt := 20) (show decode (m_b mX2_isWord) 51 = .ok (.goto (-31), 3) by decide +kernel) (by decide) ?_
          exact ih (k1 + 1) (by omega) hr _ _ ls2 HR5 gA5 gB5 hl2
        · rw [if_neg hb] at hr
          refine lv_icmp_eq C.1 C.2.1 (tgt := 48) (show decode (m_b mX2_isWord) 43 = .ok (.if_icmp .eq 5, 3) by decide +kernel) (by decide) (fun hx => absurd hx hb) (fun _ => ?_)
          rw [hr]
          refine lv_iconst C.1 C.2.1 (v := 0) (show decode (m_b mX2_isWord) 46 = .ok (.iconst 0, 1) by decide +kernel) (by decide) ?_
          exact W.zret (ty := .boolean) C.1 C.2.1 hret rfl (q_ret HR5 gA5 0) gB5 (show decode (m_b mX2_isWord) 47 = .ok (.ireturn, 1) by decide +kernel) hlocks
    exact loop n 0 (by omega) rfl _ _ _ HR1 gA1 gB1 hL2
  · rw [if_neg he]
    refine lv_icmp_eq C.1 C.2.1 (tgt := 18) (show decode (m_b mX2_isWord) 13 = .ok (.if_icmp .eq 5, 3) by decide +kernel) (by decide) (fun hx => absurd hx he) (fun _ => ?_)
    refine lv_iconst C.1 C.2.1 (v := 0) (show decode (m_b mX2_isWord) 16 = .ok (.iconst 0, 1) by decide +kernel) (by decide) ?_
    exact W.zret (ty := .boolean) C.1 C.2.1 hret rfl (q_ret HR1 gA1 0) gB1 (show decode (m_b mX2_isWord) 17 = .ok (.ireturn, 1) by decide +kernel) hlocks
def krV (B : Int32 → Int32) (sv pv : Int32) : Int32 := if isW B sv pv 4 bW0 = 0 then (if isW B sv pv 3 bW1 = 0 then (if isW B sv pv 4 bW2 = 0 then -1 else 2) else 1) else 0
theorem keyRead_c {k : Nat} {fs : List Value} {sv pv : Int32} {B : Int32 → Int32} (d : Nat) (hd : 5 ≤ d) (hB : ∀ f : Nat, 1 ≤ f → ∀ i : Int32, Cn l E mX2_byteAt f [.ref k, .int i] h (some (.int (B i))) h 0 0) (ho : pobj h k = some (2, fs)) (h3 : fs[3]? = some (.int sv)) (h4 : fs[4]? = some (.int pv)) : Met l (m_y mX2_keyRead) (pws mX2_keyRead) (prm d 0 0) (va_Pc [.ref (bs + k)] (PCx D X bs E h)) (PQ D X bs (some (.int (krV B sv pv))) h) 0 0 (fun q => bs ≤ q) := by
  obtain ⟨f, rfl⟩ : ∃ f, d = f + 1 := ⟨d - 1, by omega⟩
  refine open_c (av := [.ref (bs + k)]) (h := h) (E := E) (by decide +kernel) (by decide) (fun U hU => hU) ?_
  intro p e R s m below meth c r1 r2 r3 r4 C HR hS hret hlocks
  have hS0 : va_S (fun q => bs ≤ q) s.heap s.heap [] := vaS_of HR HR (fun _ _ => rfl) (fun _ hx => by cases hx)
  have hL := lv_entry [.ref (bs + k)] (n := m_l mX2_keyRead) (Nat.le_of_ble_eq_true rfl)
  have G := C.2.2.2.2.2.2.2.2
  unfold krV
  obtain ⟨a0, s0, v0⟩ := G.w0
  refine lv_aload_n C.1 C.2.1 (i := 0) (x := bs + k) (show decode (m_b mX2_keyRead) 0 = .ok (.aload_n 0, 1) by decide +kernel) rfl (lv_at hL 0 rfl) ?_
  refine va_ldcS C.1 C.2.1 C.2.2.2.1 v0 (show decode (m_b mX2_keyRead) 1 = .ok (.ldc 79, 2) by decide +kernel) ?_
  refine callV_w (N := mX2_isWord) (d := f) (As := [.ref a0]) (rest := []) C (show decode (m_b mX2_keyRead) 3 = .ok (.invokevirtual 81, 3) by decide +kernel) (utb 765 (by decide +kernel) (by decide +kernel)) (utb 767 (by decide +kernel) (by decide +kernel)) (utb 8 (by decide +kernel) (by decide +kernel)) (utb 71 (by decide +kernel) (by decide +kernel)) (utb 768 (by decide +kernel) (by decide +kernel)) ⟨by decide +kernel, by decide +kernel, (show (parseMethodDescriptor (m_y mX2_isWord).desc).map (fun d => d.parameters.length) = some 1 by decide +kernel)⟩ ⟨by omega, by show 8 + (3 + 11) + 40 * f ≤ R.locals; omega, by omega, by omega⟩ (isWord_c 4 a0 bW0 f (by omega) (by decide) hB ho h3 h4) (fun u U hv hh hp => hp.same hv hh) (recv2 C HR ho) (PCs.at C HR (fun _ _ => rfl) s0) hL.1 (Nat.le_of_ble_eq_true rfl) (fun _ _ => rfl) (fun _ hx => by cases hx) ?_
  intro H1 locs1 HR1 gA1 gB1
  by_cases e0 : isW B sv pv 4 bW0 = 0
  · rw [if_pos e0]
    refine lv_if_eq C.1 C.2.1 (tgt := 11) (show decode (m_b mX2_keyRead) 6 = .ok (.ifCond .eq 5, 3) by decide +kernel) (by decide) (fun _ => ?_) (fun hx => absurd e0 hx)
    obtain ⟨a1, s1, v1⟩ := G.w1
    refine lv_aload_n C.1 C.2.1 (i := 0) (x := bs + k) (show decode (m_b mX2_keyRead) 11 = .ok (.aload_n 0, 1) by decide +kernel) rfl (lv_at hL 0 rfl) ?_
    refine va_ldcS C.1 C.2.1 C.2.2.2.1 v1 (show decode (m_b mX2_keyRead) 12 = .ok (.ldc 85, 2) by decide +kernel) ?_
    refine callV_w (N := mX2_isWord) (d := f) (As := [.ref a1]) (rest := []) C (show decode (m_b mX2_keyRead) 14 = .ok (.invokevirtual 81, 3) by decide +kernel) (utb 765 (by decide +kernel) (by decide +kernel)) (utb 767 (by decide +kernel) (by decide +kernel)) (utb 8 (by decide +kernel) (by decide +kernel)) (utb 71 (by decide +kernel) (by decide +kernel)) (utb 768 (by decide +kernel) (by decide +kernel)) ⟨by decide +kernel, by decide +kernel, (show (parseMethodDescriptor (m_y mX2_isWord).desc).map (fun d => d.parameters.length) = some 1 by decide +kernel)⟩ ⟨by omega, by show 8 + (3 + 11) + 40 * f ≤ R.locals; omega, by omega, by omega⟩ (isWord_c 3 a1 bW1 f (by omega) (by decide) hB ho h3 h4) (fun u U hv hh hp => hp.same hv hh) (recv2 C HR1 ho) (PCs.at C HR1 gA1 s1) hL.1 (Nat.le_of_ble_eq_true rfl) gA1 gB1 ?_
    intro H2 locs2 HR2 gA2 gB2
    by_cases e1 : isW B sv pv 3 bW1 = 0
    · rw [if_pos e1]
      refine lv_if_eq C.1 C.2.1 (tgt := 22) (show decode (m_b mX2_keyRead) 17 = .ok (.ifCond .eq 5, 3) by decide +kernel) (by decide) (fun _ => ?_) (fun hx => absurd e1 hx)
      obtain ⟨a2, s2, v2⟩ := G.w2
      refine lv_aload_n C.1 C.2.1 (i := 0) (x := bs + k) (show decode (m_b mX2_keyRead) 22 = .ok (.aload_n 0, 1) by decide +kernel) rfl (lv_at hL 0 rfl) ?_
      refine va_ldcS C.1 C.2.1 C.2.2.2.1 v2 (show decode (m_b mX2_keyRead) 23 = .ok (.ldc 87, 2) by decide +kernel) ?_
      refine callV_w (N := mX2_isWord) (d := f) (As := [.ref a2]) (rest := []) C (show decode (m_b mX2_keyRead) 25 = .ok (.invokevirtual 81, 3) by decide +kernel) (utb 765 (by decide +kernel) (by decide +kernel)) (utb 767 (by decide +kernel) (by decide +kernel)) (utb 8 (by decide +kernel) (by decide +kernel)) (utb 71 (by decide +kernel) (by decide +kernel)) (utb 768 (by decide +kernel) (by decide +kernel)) ⟨by decide +kernel, by decide +kernel, (show (parseMethodDescriptor (m_y mX2_isWord).desc).map (fun d => d.parameters.length) = some 1 by decide +kernel)⟩ ⟨by omega, by show 8 + (3 + 11) + 40 * f ≤ R.locals; omega, by omega, by omega⟩ (isWord_c 4 a2 bW2 f (by omega) (by decide) hB ho h3 h4) (fun u U hv hh hp => hp.same hv hh) (recv2 C HR2 ho) (PCs.at C HR2 gA2 s2) hL.1 (Nat.le_of_ble_eq_true rfl) gA2 gB2 ?_
      intro H3 locs3 HR3 gA3 gB3
      by_cases e2 : isW B sv pv 4 bW2 = 0
      · rw [if_pos e2]
        refine lv_if_eq C.1 C.2.1 (tgt := 35) (show decode (m_b mX2_keyRead) 28 = .ok (.ifCond .eq 7, 3) by decide +kernel) (by decide) (fun _ => ?_) (fun hx => absurd e2 hx)
        refine lv_iconst C.1 C.2.1 (v := -1) (show decode (m_b mX2_keyRead) 35 = .ok (.iconst (-1), 1) by decide +kernel) (by decide) ?_
        exact W.iret C.1 C.2.1 hret (q_ret HR3 gA3 _) gB3 (show decode (m_b mX2_keyRead) 36 = .ok (.ireturn, 1) by decide +kernel) hlocks
      · rw [if_neg e2]
        refine lv_if_eq C.1 C.2.1 (tgt := 35) (show decode (m_b mX2_keyRead) 28 = .ok (.ifCond .eq 7, 3) by decide +kernel) (by decide) (fun hx => absurd hx e2) (fun _ => ?_)
        refine lv_iconst C.1 C.2.1 (v := 2) (show decode (m_b mX2_keyRead) 31 = .ok (.iconst 2, 1) by decide +kernel) (by decide) ?_
        refine lv_goto C.1 C.2.1 (tgt := 36) (show decode (m_b mX2_keyRead) 32 = .ok (.goto 4, 3) by decide +kernel) (by decide) ?_
        exact W.iret C.1 C.2.1 hret (q_ret HR3 gA3 _) gB3 (show decode (m_b mX2_keyRead) 36 = .ok (.ireturn, 1) by decide +kernel) hlocks
    · rw [if_neg e1]
      refine lv_if_eq C.1 C.2.1 (tgt := 22) (show decode (m_b mX2_keyRead) 17 = .ok (.ifCond .eq 5, 3) by decide +kernel) (by decide) (fun hx => absurd hx e1) (fun _ => ?_)
      refine lv_iconst C.1 C.2.1 (v := 1) (show decode (m_b mX2_keyRead) 20 = .ok (.iconst 1, 1) by decide +kernel) (by decide) ?_
      exact W.iret C.1 C.2.1 hret (q_ret HR2 gA2 _) gB2 (show decode (m_b mX2_keyRead) 21 = .ok (.ireturn, 1) by decide +kernel) hlocks
  · rw [if_neg e0]
    refine lv_if_eq C.1 C.2.1 (tgt := 11) (show decode (m_b mX2_keyRead) 6 = .ok (.ifCond .eq 5, 3) by decide +kernel) (by decide) (fun hx => absurd hx e0) (fun _ => ?_)
    refine lv_iconst C.1 C.2.1 (v := 0) (show decode (m_b mX2_keyRead) 9 = .ok (.iconst 0, 1) by decide +kernel) (by decide) ?_
    exact W.iret C.1 C.2.1 hret (q_ret HR1 gA1 _) gB1 (show decode (m_b mX2_keyRead) 10 = .ok (.ireturn, 1) by decide +kernel) hlocks
def nrT (B : Int32 → Int32) (sv pv : Int32) (n : Nat) (b : Nat → Int32) : Int32 := if pv - sv = 1 then (if ixO b n ((B sv).toUInt32 % 65536).toInt32 < 0 then -1000000005 else -(B sv)) else -1000000005
def nrV (B : Int32 → Int32) (sv pv u : Int32) : Int32 := if u = 0 then nrT B sv pv 3 bW3 else if u = 1 then nrT B sv pv 2 bW4 else nrT B sv pv 2 bW5
theorem nameRead_c {k : Nat} {fs : List Value} {sv pv : Int32} {B : Int32 → Int32} (u : Int32) (d : Nat) (hd : 5 ≤ d) (hB : ∀ f : Nat, 1 ≤ f → ∀ i : Int32, Cn l E mX2_byteAt f [.ref k, .int i] h (some (.int (B i))) h 0 0) (ho : pobj h k = some (2, fs)) (h3 : fs[3]? = some (.int sv)) (h4 : fs[4]? = some (.int pv)) : Met l (m_y mX2_nameRead) (pws mX2_nameRead) (prm d 0 0) (va_Pc [.ref (bs + k), .int u] (PCx D X bs E h)) (PQ D X bs (some (.int (nrV B sv pv u))) h) 0 0 (fun q => bs ≤ q) := by
  obtain ⟨f, rfl⟩ : ∃ f, d = f + 1 := ⟨d - 1, by omega⟩
  refine open_c (av := [.ref (bs + k), .int u]) (h := h) (E := E) (by decide +kernel) (by decide) (fun U hU => hU) ?_
  intro p e R s m below meth c r1 r2 r3 r4 C HR hS hret hlocks
  have hS0 : va_S (fun q => bs ≤ q) s.heap s.heap [] := vaS_of HR HR (fun _ _ => rfl) (fun _ hx => by cases hx)
  have hL := lv_entry [.ref (bs + k), .int u] (n := m_l mX2_nameRead) (Nat.le_of_ble_eq_true rfl)
  have G := C.2.2.2.2.2.2.2.2
  have tail : ∀ (n a : Nat) (b : Nat → Int32), 0 < n → n < 2 ^ 31 → STR bs n a b s s.heap → nrV B sv pv u = nrT B sv pv n b → W p l e R s m ([.ref (bs + k), .int u] : List Value).toArray below meth c s.heap [] 0 0 (MQ below (PQ D X bs (some (.int (nrV B sv pv u))) h) ([.ref (bs + k), .int u] : List Value).toArray s 0 0 (fun q => bs ≤ q)) (F0 m 21 ((lg_sl [.ref (bs + k), .int u] ++ List.replicate (m_l mX2_nameRead - (lg_sl [.ref (bs + k), .int u]).length) Slot.unset).toArray) [.ref a]) := by
    intro n a b hn0 hn hS hr
    rw [hr]
    unfold nrT
    refine lv_astore_n C.1 C.2.1 (i := 2) (nL := m_l mX2_nameRead) (x := a) (lv' := [(2, .ref a), (0, .ref (bs + k)), (1, .int u)]) (show decode (m_b mX2_nameRead) 21 = .ok (.astore_n 2, 1) by decide +kernel) rfl hL (by decide) rfl ?_
    intro ls1 hL1
    refine lv_aload_n C.1 C.2.1 (i := 0) (x := bs + k) (show decode (m_b mX2_nameRead) 22 = .ok (.aload_n 0, 1) by decide +kernel) rfl (lv_at hL1 1 rfl) ?_
    refine lv_aload_n C.1 C.2.1 (i := 0) (x := bs + k) (show decode (m_b mX2_nameRead) 23 = .ok (.aload_n 0, 1) by decide +kernel) rfl (lv_at hL1 1 rfl) ?_
    refine getf_w (y := 3) (w := .int sv) C HR ho rfl (by decide) h3 (utb 232 (by decide +kernel) (by decide +kernel)) (show decode (m_b mX2_nameRead) 24 = .ok (.getfield 35, 3) by decide +kernel) ?_
    refine callV_w (N := mX2_byteAt) (d := f) (As := [.int (sv)]) (rest := []) C (show decode (m_b mX2_nameRead) 27 = .ok (.invokevirtual 65, 3) by decide +kernel) (utb 752 (by decide +kernel) (by decide +kernel)) (utb 754 (by decide +kernel) (by decide +kernel)) (utb 6 (by decide +kernel) (by decide +kernel)) (utb 71 (by decide +kernel) (by decide +kernel)) (utb 755 (by decide +kernel) (by decide +kernel)) ⟨by decide +kernel, by decide +kernel, (show (parseMethodDescriptor (m_y mX2_byteAt).desc).map (fun d => d.parameters.length) = some 1 by decide +kernel)⟩ ⟨by omega, by show 8 + (2 + 11) + 40 * f ≤ R.locals; omega, by omega, by omega⟩ (hB f (by omega) (sv) D X bs) (fun u U hv hh hp => hp.same hv hh) (recv2 C HR ho) (cx_at C HR (fun _ _ => rfl)) hL1.1 (Nat.le_of_ble_eq_true rfl) (fun _ _ => rfl) (fun _ hx => by cases hx) ?_
    intro H2 locs2 HR2 gA2 gB2
    refine lv_istore_n C.1 C.2.1 (i := 3) (nL := m_l mX2_nameRead) (x := B sv) (lv' := [(3, .int (B sv)), (2, .ref a), (0, .ref (bs + k)), (1, .int u)]) (show decode (m_b mX2_nameRead) 30 = .ok (.istore_n 3, 1) by decide +kernel) rfl hL1 (by decide) rfl ?_
    intro ls3 hL3
    refine lv_aload_n C.1 C.2.1 (i := 0) (x := bs + k) (show decode (m_b mX2_nameRead) 31 = .ok (.aload_n 0, 1) by decide +kernel) rfl (lv_at hL3 2 rfl) ?_
    refine getf_w (y := 4) (w := .int pv) C HR2 ho rfl (by decide) h4 (utb 233 (by decide +kernel) (by decide +kernel)) (show decode (m_b mX2_nameRead) 32 = .ok (.getfield 22, 3) by decide +kernel) ?_
    refine lv_aload_n C.1 C.2.1 (i := 0) (x := bs + k) (show decode (m_b mX2_nameRead) 35 = .ok (.aload_n 0, 1) by decide +kernel) rfl (lv_at hL3 2 rfl) ?_
    refine getf_w (y := 3) (w := .int sv) C HR2 ho rfl (by decide) h3 (utb 232 (by decide +kernel) (by decide +kernel)) (show decode (m_b mX2_nameRead) 36 = .ok (.getfield 35, 3) by decide +kernel) ?_
    refine lv_isub C.1 C.2.1 (x := pv) (y := sv) (rest := []) (show decode (m_b mX2_nameRead) 39 = .ok (.isub, 1) by decide +kernel) ?_
    refine lv_iconst C.1 C.2.1 (v := 1) (show decode (m_b mX2_nameRead) 40 = .ok (.iconst 1, 1) by decide +kernel) (by decide) ?_
    by_cases e1 : pv - sv = 1
    · rw [if_pos e1]
      refine lv_icmp_ne C.1 C.2.1 (tgt := 58) (show decode (m_b mX2_nameRead) 41 = .ok (.if_icmp .ne 17, 3) by decide +kernel) (by decide) (fun hx => absurd e1 hx) (fun _ => ?_)
      refine lv_aload_n C.1 C.2.1 (i := 2) (x := a) (show decode (m_b mX2_nameRead) 44 = .ok (.aload_n 2, 1) by decide +kernel) rfl (lv_at hL3 1 rfl) ?_
      refine lv_iload_n C.1 C.2.1 (i := 3) (x := B sv) (show decode (m_b mX2_nameRead) 45 = .ok (.iload_n 3, 1) by decide +kernel) rfl (lv_at hL3 0 rfl) ?_
      refine lv_i2c C.1 C.2.1 (show decode (m_b mX2_nameRead) 46 = .ok (.i2c, 1) by decide +kernel) rfl ?_
      refine callV_w (N := mJ_indexOf1) (d := f) (As := [.int ((B sv).toUInt32 % 65536).toInt32]) (rest := []) C (show decode (m_b mX2_nameRead) 47 = .ok (.invokevirtual 133, 3) by decide +kernel) (utb 874 (by decide +kernel) (by decide +kernel)) (utb 875 (by decide +kernel) (by decide +kernel)) (utb 876 (by decide +kernel) (by decide +kernel)) (utb 78 (by decide +kernel) (by decide +kernel)) (utb 877 (by decide +kernel) (by decide +kernel)) ⟨by decide +kernel, by decide +kernel, (show (parseMethodDescriptor (m_y mJ_indexOf1).desc).map (fun d => d.parameters.length) = some 1 by decide +kernel)⟩ ⟨by omega, by show 8 + (2 + 11) + 40 * f ≤ R.locals; omega, by omega, by omega⟩ (indexOf1_c n a b ((B sv).toUInt32 % 65536).toInt32 f (by omega) hn0 hn) (fun u U hv hh hp => hp.same hv hh) (STR.recv hS gA2) (PCs.at C HR2 gA2 hS) hL3.1 (Nat.le_of_ble_eq_true rfl) gA2 gB2 ?_
      intro H4 locs4 HR4 gA4 gB4
      by_cases e2 : ixO b n ((B sv).toUInt32 % 65536).toInt32 < 0
      · rw [if_pos e2]
        refine lv_if_lt C.1 C.2.1 (tgt := 58) (show decode (m_b mX2_nameRead) 50 = .ok (.ifCond .lt 8, 3) by decide +kernel) (by decide) (fun _ => ?_) (fun hx => absurd e2 hx)
        refine lv_ldc C.1 C.2.1 (v := -1000000005) C.2.2.2.1 (C.2.2.2.2.1 _ (utb 866 (by decide +kernel) (by decide +kernel))) (show decode (m_b mX2_nameRead) 58 = .ok (.ldc 116, 2) by decide +kernel) ?_
        exact W.iret C.1 C.2.1 hret (q_ret HR4 gA4 _) gB4 (show decode (m_b mX2_nameRead) 60 = .ok (.ireturn, 1) by decide +kernel) hlocks
      · rw [if_neg e2]
        refine lv_if_lt C.1 C.2.1 (tgt := 58) (show decode (m_b mX2_nameRead) 50 = .ok (.ifCond .lt 8, 3) by decide +kernel) (by decide) (fun hx => absurd hx e2) (fun _ => ?_)
        refine lv_iload_n C.1 C.2.1 (i := 3) (x := B sv) (show decode (m_b mX2_nameRead) 53 = .ok (.iload_n 3, 1) by decide +kernel) rfl (lv_at hL3 0 rfl) ?_
        refine lv_ineg C.1 C.2.1 (show decode (m_b mX2_nameRead) 54 = .ok (.ineg, 1) by decide +kernel) ?_
        refine lv_goto C.1 C.2.1 (tgt := 60) (show decode (m_b mX2_nameRead) 55 = .ok (.goto 5, 3) by decide +kernel) (by decide) ?_
        exact W.iret C.1 C.2.1 hret (q_ret HR4 gA4 _) gB4 (show decode (m_b mX2_nameRead) 60 = .ok (.ireturn, 1) by decide +kernel) hlocks
    · rw [if_neg e1]
      refine lv_icmp_ne C.1 C.2.1 (tgt := 58) (show decode (m_b mX2_nameRead) 41 = .ok (.if_icmp .ne 17, 3) by decide +kernel) (by decide) (fun _ => ?_) (fun hx => absurd hx e1)
      refine lv_ldc C.1 C.2.1 (v := -1000000005) C.2.2.2.1 (C.2.2.2.2.1 _ (utb 866 (by decide +kernel) (by decide +kernel))) (show decode (m_b mX2_nameRead) 58 = .ok (.ldc 116, 2) by decide +kernel) ?_
      exact W.iret C.1 C.2.1 hret (q_ret HR2 gA2 _) gB2 (show decode (m_b mX2_nameRead) 60 = .ok (.ireturn, 1) by decide +kernel) hlocks
  refine lv_iload_n C.1 C.2.1 (i := 1) (x := u) (show decode (m_b mX2_nameRead) 0 = .ok (.iload_n 1, 1) by decide +kernel) rfl (lv_at hL 1 rfl) ?_
  by_cases u0 : u = 0
  · refine lv_if_ne C.1 C.2.1 (tgt := 9) (show decode (m_b mX2_nameRead) 1 = .ok (.ifCond .ne 8, 3) by decide +kernel) (by decide) (fun hx => absurd u0 hx) (fun _ => ?_)
    obtain ⟨a0, s0, v0⟩ := G.w3
    refine va_ldcS C.1 C.2.1 C.2.2.2.1 v0 (show decode (m_b mX2_nameRead) 4 = .ok (.ldc 127, 2) by decide +kernel) ?_
    refine lv_goto C.1 C.2.1 (tgt := 21) (show decode (m_b mX2_nameRead) 6 = .ok (.goto 15, 3) by decide +kernel) (by decide) ?_
    exact tail 3 a0 bW3 (by decide) (by decide) s0 (if_pos u0)
  · refine lv_if_ne C.1 C.2.1 (tgt := 9) (show decode (m_b mX2_nameRead) 1 = .ok (.ifCond .ne 8, 3) by decide +kernel) (by decide) (fun _ => ?_) (fun hx => absurd hx u0)
    refine lv_iload_n C.1 C.2.1 (i := 1) (x := u) (show decode (m_b mX2_nameRead) 9 = .ok (.iload_n 1, 1) by decide +kernel) rfl (lv_at hL 1 rfl) ?_
    refine lv_iconst C.1 C.2.1 (v := 1) (show decode (m_b mX2_nameRead) 10 = .ok (.iconst 1, 1) by decide +kernel) (by decide) ?_
    by_cases u1 : u = 1
    · refine lv_icmp_ne C.1 C.2.1 (tgt := 19) (show decode (m_b mX2_nameRead) 11 = .ok (.if_icmp .ne 8, 3) by decide +kernel) (by decide) (fun hx => absurd u1 hx) (fun _ => ?_)
      obtain ⟨a0, s0, v0⟩ := G.w4
      refine va_ldcS C.1 C.2.1 C.2.2.2.1 v0 (show decode (m_b mX2_nameRead) 14 = .ok (.ldc 129, 2) by decide +kernel) ?_
      refine lv_goto C.1 C.2.1 (tgt := 21) (show decode (m_b mX2_nameRead) 16 = .ok (.goto 5, 3) by decide +kernel) (by decide) ?_
      exact tail 2 a0 bW4 (by decide) (by decide) s0 ((if_neg u0).trans (if_pos u1))
    · refine lv_icmp_ne C.1 C.2.1 (tgt := 19) (show decode (m_b mX2_nameRead) 11 = .ok (.if_icmp .ne 8, 3) by decide +kernel) (by decide) (fun _ => ?_) (fun hx => absurd hx u1)
      obtain ⟨a0, s0, v0⟩ := G.w5
      refine va_ldcS C.1 C.2.1 C.2.2.2.1 v0 (show decode (m_b mX2_nameRead) 19 = .ok (.ldc 131, 2) by decide +kernel) ?_
      exact tail 2 a0 bW5 (by decide) (by decide) s0 ((if_neg u0).trans (if_neg u1))
/-- whether a kind is of another: the kinds above it, six at most -/
def ioV (u : Int32) : Nat → Int32 → Int32
  | 0, _ => 0
  | m + 1, z => if z < 0 then 0 else if 6 ≤ z then 0 else if z = u then 1 else ioV u m (aB z.toNatClampNeg)
theorem ioV_s (u : Int32) (m : Nat) (z : Int32) : ioV u (m + 1) z = if z < 0 then 0 else if 6 ≤ z then 0 else if z = u then 1 else ioV u m (aB z.toNatClampNeg) := rfl
theorem isOf_c {k : Nat} {fs : List Value} {v : Int32} (u : Int32) (d : Nat) (ho : pobj h k = some (4, fs)) (h3 : fs[0]? = some (.int v)) : Met l (m_y mX4_isOf) (pws mX4_isOf) (prm d 0 0) (va_Pc [.ref (bs + k), .int u] (PCx D X bs E h)) (PQ D X bs (some (.int (ioV u 6 v))) h) 0 0 (fun q => bs ≤ q) := by
  refine open_c (av := [.ref (bs + k), .int u]) (h := h) (E := E) (by decide +kernel) (by decide) (fun U hU => hU) ?_
  intro p e R s m below meth c r1 r2 r3 r4 C HR hS hret hlocks
  have hS0 : va_S (fun q => bs ≤ q) s.heap s.heap [] := vaS_of HR HR (fun _ _ => rfl) (fun _ hx => by cases hx)
  have hL := lv_entry [.ref (bs + k), .int u] (n := m_l mX4_isOf) (Nat.le_of_ble_eq_true rfl)
  obtain ⟨t, hz, hT⟩ := C.2.2.2.2.2.2.2.2.abv
  refine lv_aload_n C.1 C.2.1 (i := 0) (x := bs + k) (show decode (m_b mX4_isOf) 0 = .ok (.aload_n 0, 1) by decide +kernel) rfl (lv_at hL 0 rfl) ?_
  refine getf_w (y := 0) (w := .int v) C HR ho rfl (by decide) h3 (utb 156 (by decide +kernel) (by decide +kernel)) (show decode (m_b mX4_isOf) 1 = .ok (.getfield 21, 3) by decide +kernel) ?_
  refine lv_istore_n C.1 C.2.1 (i := 2) (nL := m_l mX4_isOf) (x := v) (lv' := [(2, .int v), (0, .ref (bs + k)), (1, .int u)]) (show decode (m_b mX4_isOf) 4 = .ok (.istore_n 2, 1) by decide +kernel) rfl hL (by decide) rfl ?_
  intro ls1 hL1
  refine lv_iconst C.1 C.2.1 (v := 0) (show decode (m_b mX4_isOf) 5 = .ok (.iconst 0, 1) by decide +kernel) (by decide) ?_
  refine lv_istore_n C.1 C.2.1 (i := 3) (nL := m_l mX4_isOf) (x := 0) (lv' := [(3, .int 0), (2, .int v), (0, .ref (bs + k)), (1, .int u)]) (show decode (m_b mX4_isOf) 6 = .ok (.istore_n 3, 1) by decide +kernel) rfl hL1 (by decide) rfl ?_
  intro ls2 hL2
  have loop : ∀ (m1 k1 : Nat) (z : Int32), k1 + m1 = 6 → ioV u 6 v = ioV u m1 z → ∀ ls : Array Slot, lv_has ls (m_l mX4_isOf) [(3, .int (Int32.ofNat k1)), (2, .int z), (0, .ref (bs + k)), (1, .int u)] → W p l e R s m ([.ref (bs + k), .int u] : List Value).toArray below meth c s.heap [] 0 0 (MQ below (PQ D X bs (some (.int (ioV u 6 v))) h) ([.ref (bs + k), .int u] : List Value).toArray s 0 0 (fun q => bs ≤ q)) (F0 m 7 ls []) := by
    intro m1
    induction m1 with
    | zero =>
      intro k1 z hk hr ls hl
      refine lv_iload_n C.1 C.2.1 (i := 3) (x := Int32.ofNat k1) (show decode (m_b mX4_isOf) 7 = .ok (.iload_n 3, 1) by decide +kernel) rfl (lv_at hl 0 rfl) ?_
      refine lv_bipush C.1 C.2.1 (v := 6) (show decode (m_b mX4_isOf) 8 = .ok (.bipush 6, 2) by decide +kernel) (by decide) ?_
      refine lv_icmp_ge C.1 C.2.1 (tgt := 44) (show decode (m_b mX4_isOf) 10 = .ok (.if_icmp .ge 34, 3) by decide +kernel) (by decide) (fun _ => ?_) (fun hx => absurd (nI_le (a := 6) (by omega) (by omega)) hx)
      rw [hr, ioV]
      refine lv_iconst C.1 C.2.1 (v := 0) (show decode (m_b mX4_isOf) 44 = .ok (.iconst 0, 1) by decide +kernel) (by decide) ?_
      exact W.zret (ty := .boolean) C.1 C.2.1 hret rfl (q_ret HR (fun _ _ => rfl) 0) (fun _ hx => by cases hx) (show decode (m_b mX4_isOf) 45 = .ok (.ireturn, 1) by decide +kernel) hlocks
    | succ m1 ih =>
      intro k1 z hk hr ls hl
      refine lv_iload_n C.1 C.2.1 (i := 3) (x := Int32.ofNat k1) (show decode (m_b mX4_isOf) 7 = .ok (.iload_n 3, 1) by decide +kernel) rfl (lv_at hl 0 rfl) ?_
      refine lv_bipush C.1 C.2.1 (v := 6) (show decode (m_b mX4_isOf) 8 = .ok (.bipush 6, 2) by decide +kernel) (by decide) ?_
      refine lv_icmp_ge C.1 C.2.1 (tgt := 44) (show decode (m_b mX4_isOf) 10 = .ok (.if_icmp .ge 34, 3) by decide +kernel) (by decide) (fun hx => absurd hx (nI_ge (b := 6) (by omega) (by decide))) (fun _ => ?_)
      refine lv_iload_n C.1 C.2.1 (i := 2) (x := z) (show decode (m_b mX4_isOf) 13 = .ok (.iload_n 2, 1) by decide +kernel) rfl (lv_at hl 1 rfl) ?_
      rw [ioV_s u m1 z] at hr
      by_cases c0 : z < 0
      · rw [if_pos c0] at hr
        refine lv_if_lt C.1 C.2.1 (tgt := 44) (show decode (m_b mX4_isOf) 14 = .ok (.ifCond .lt 30, 3) by decide +kernel) (by decide) (fun _ => ?_) (fun hx => absurd c0 hx)
        rw [hr]
        refine lv_iconst C.1 C.2.1 (v := 0) (show decode (m_b mX4_isOf) 44 = .ok (.iconst 0, 1) by decide +kernel) (by decide) ?_
        exact W.zret (ty := .boolean) C.1 C.2.1 hret rfl (q_ret HR (fun _ _ => rfl) 0) (fun _ hx => by cases hx) (show decode (m_b mX4_isOf) 45 = .ok (.ireturn, 1) by decide +kernel) hlocks
      · rw [if_neg c0] at hr
        refine lv_if_lt C.1 C.2.1 (tgt := 44) (show decode (m_b mX4_isOf) 14 = .ok (.ifCond .lt 30, 3) by decide +kernel) (by decide) (fun hx => absurd hx c0) (fun _ => ?_)
        refine lv_iload_n C.1 C.2.1 (i := 2) (x := z) (show decode (m_b mX4_isOf) 17 = .ok (.iload_n 2, 1) by decide +kernel) rfl (lv_at hl 1 rfl) ?_
        refine va_gets C.1 C.2.1 hz hS0 C.2.2.2.1 (C.2.2.2.2.1 _ (utb 491 (by decide +kernel) (by decide +kernel))) (fun _ hx => hx) (show decode (m_b mX4_isOf) 18 = .ok (.getstatic 30, 3) by decide +kernel) ?_
        refine va_tlen C.1 C.2.1 hT hS0 rfl (show decode (m_b mX4_isOf) 21 = .ok (.arraylength, 1) by decide +kernel) ?_
        by_cases c1 : (6 : Int32) ≤ z
        · rw [if_pos c1] at hr
          refine lv_icmp_ge C.1 C.2.1 (tgt := 44) (show decode (m_b mX4_isOf) 22 = .ok (.if_icmp .ge 22, 3) by decide +kernel) (by decide) (fun _ => ?_) (fun hx => absurd c1 hx)
          rw [hr]
          refine lv_iconst C.1 C.2.1 (v := 0) (show decode (m_b mX4_isOf) 44 = .ok (.iconst 0, 1) by decide +kernel) (by decide) ?_
          exact W.zret (ty := .boolean) C.1 C.2.1 hret rfl (q_ret HR (fun _ _ => rfl) 0) (fun _ hx => by cases hx) (show decode (m_b mX4_isOf) 45 = .ok (.ireturn, 1) by decide +kernel) hlocks
        · rw [if_neg c1] at hr
          refine lv_icmp_ge C.1 C.2.1 (tgt := 44) (show decode (m_b mX4_isOf) 22 = .ok (.if_icmp .ge 22, 3) by decide +kernel) (by decide) (fun hx => absurd hx c1) (fun _ => ?_)
          refine lv_iload_n C.1 C.2.1 (i := 2) (x := z) (show decode (m_b mX4_isOf) 25 = .ok (.iload_n 2, 1) by decide +kernel) rfl (lv_at hl 1 rfl) ?_
          refine lv_iload_n C.1 C.2.1 (i := 1) (x := u) (show decode (m_b mX4_isOf) 26 = .ok (.iload_n 1, 1) by decide +kernel) rfl (lv_at hl 3 rfl) ?_
          by_cases c2 : z = u
          · rw [if_pos c2] at hr
            refine lv_icmp_ne C.1 C.2.1 (tgt := 32) (show decode (m_b mX4_isOf) 27 = .ok (.if_icmp .ne 5, 3) by decide +kernel) (by decide) (fun hx => absurd c2 hx) (fun _ => ?_)
            rw [hr]
            refine lv_iconst C.1 C.2.1 (v := 1) (show decode (m_b mX4_isOf) 30 = .ok (.iconst 1, 1) by decide +kernel) (by decide) ?_
            exact W.zret (ty := .boolean) C.1 C.2.1 hret rfl (q_ret HR (fun _ _ => rfl) 1) (fun _ hx => by cases hx) (show decode (m_b mX4_isOf) 31 = .ok (.ireturn, 1) by decide +kernel) hlocks
          · rw [if_neg c2] at hr
            refine lv_icmp_ne C.1 C.2.1 (tgt := 32) (show decode (m_b mX4_isOf) 27 = .ok (.if_icmp .ne 5, 3) by decide +kernel) (by decide) (fun _ => ?_) (fun hx => absurd hx c2)
            refine va_gets C.1 C.2.1 hz hS0 C.2.2.2.1 (C.2.2.2.2.1 _ (utb 491 (by decide +kernel) (by decide +kernel))) (fun _ hx => hx) (show decode (m_b mX4_isOf) 32 = .ok (.getstatic 30, 3) by decide +kernel) ?_
            refine lv_iload_n C.1 C.2.1 (i := 2) (x := z) (show decode (m_b mX4_isOf) 35 = .ok (.iload_n 2, 1) by decide +kernel) rfl (lv_at hl 1 rfl) ?_
            have hlt : z.toNatClampNeg < 6 := clamp_lt (sz := 6) c0 (by decide) c1
            refine va_ti C.1 C.2.1 hT hS0 (i := z) (fun q => q.elim c0 (fun q => absurd hlt (Nat.not_lt.mpr q))) (v := .int (aB z.toNatClampNeg)) rfl (show decode (m_b mX4_isOf) 36 = .ok (.iaload, 1) by decide +kernel) ?_
            refine lv_istore_n C.1 C.2.1 (i := 2) (nL := m_l mX4_isOf) (x := aB z.toNatClampNeg) (lv' := [(2, .int (aB z.toNatClampNeg)), (3, .int (Int32.ofNat k1)), (0, .ref (bs + k)), (1, .int u)]) (show decode (m_b mX4_isOf) 37 = .ok (.istore_n 2, 1) by decide +kernel) rfl hl (by decide) rfl ?_
            intro ls2 hl2
            refine lv_iinc C.1 C.2.1 (k := 1) (v := Int32.ofNat (k1 + 1)) (lv' := [(3, .int (Int32.ofNat (k1 + 1))), (2, .int (aB z.toNatClampNeg)), (0, .ref (bs + k)), (1, .int u)]) (show decode (m_b mX4_isOf) 38 = .ok (.iinc 3 1, 3) by decide +kernel) hl2 rfl (nI_succ k1).symm (by decide) rfl ?_
            intro ls3 hl3
            refine lv_goto C.1 C.2.1 (tgt := 7) (show decode (m_b mX4_isOf) 41 = .ok (.goto (-34), 3) by decide +kernel) (by decide) ?_
            exact ih (k1 + 1) _ (by omega) hr ls3 hl3
  exact loop 6 0 v rfl rfl _ hL2
end WR2
