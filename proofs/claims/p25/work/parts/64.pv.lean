/-! ===== what the methods that are no tables answer, and that they do so on the machine; what the automatic contracts still needed ===== -/
/-- a reader: its text's length and numbers, how far they are its, where the word starts and where it ends -/
def rdO (h : List pC) (k : Nat) : Option (Nat × (Nat → Int32) × Int32 × Int32 × Int32) := match pobj h k with
  | some o => if o.1 = 2 then (match (o.2[0]? : Option Value), (o.2[1]? : Option Value), (o.2[3]? : Option Value), (o.2[4]? : Option Value) with
    | some (.ref t), some (.int n), some (.int s), some (.int p) => (match pint h t with
      | some q => if q.1 ≤ 100000 then some (q.1, q.2, n, s, p) else none
      | none => none)
    | _, _, _, _ => none) else none
  | none => none
theorem rdO_s {h : List pC} {k : Nat} {q : Nat × (Nat → Int32) × Int32 × Int32 × Int32} (hq : rdO h k = some q) : ∃ (fs : List Value) (t : Nat), pobj h k = some (2, fs) ∧ fs[0]? = some (.ref t) ∧ fs[1]? = some (.int q.2.2.1) ∧ fs[3]? = some (.int q.2.2.2.1) ∧ fs[4]? = some (.int q.2.2.2.2) ∧ pint h t = some (q.1, q.2.1) ∧ q.1 ≤ 100000 := by
  unfold rdO at hq
  split at hq
  · rename_i o ho
    split at hq
    · rename_i h2
      obtain ⟨c, fs⟩ := o
      obtain rfl : c = 2 := h2
      split at hq
      · rename_i t n s p e0 e1 e3 e4
        split at hq
        · rename_i w hw
          split at hq
          · rename_i hle
            cases hq
            exact ⟨fs, t, ho, e0, e1, e3, e4, hw, hle⟩
          · cases hq
        · cases hq
      · cases hq
    · cases hq
  · cases hq
theorem rdO_of {h : List pC} {k t sz : Nat} {f : Nat → Int32} {n s p : Int32} {fs : List Value} (ho : pobj h k = some (2, fs)) (e0 : fs[0]? = some (.ref t)) (e1 : fs[1]? = some (.int n)) (e3 : fs[3]? = some (.int s)) (e4 : fs[4]? = some (.int p)) (ht : pint h t = some (sz, f)) (hle : sz ≤ 100000) : rdO h k = some (sz, f, n, s, p) := by
  unfold rdO
  rw [ho]
  dsimp only
  rw [if_pos rfl, e0, e1, e3, e4]
  dsimp only
  rw [ht]
  dsimp only
  rw [if_pos hle]
def pV1 : pV := fun N as h => if m_c N = 2 ∧ m_l N = 1 then (match as with
  | [.ref a] => (match rdO h a with
    | some q => some (some (.int (krV (bA q.1 q.2.1 q.2.2.1) q.2.2.2.1 q.2.2.2.2)))
    | none => none)
  | _ => none) else if m_c N = 2 ∧ m_l N = 4 then (match as with
  | [.ref a, .int u] => (match rdO h a with
    | some q => some (some (.int (nrV (bA q.1 q.2.1 q.2.2.1) q.2.2.2.1 q.2.2.2.2 u)))
    | none => none)
  | _ => none) else if m_c N = 4 ∧ m_l N = 4 then (match as with
  | [.ref a, .int u] => (match pobj h a with
    | some o => if o.1 = 4 then (match (o.2[0]? : Option Value) with
      | some (.int v) => some (some (.int (ioV u 6 v)))
      | _ => none) else none
    | none => none)
  | _ => none) else none
set_option maxRecDepth 100000 in
theorem prim_kr : prog.filter (fun M => (m_code M).isEmpty && (m_c M == 2 && m_l M == 1)) = [mX2_keyRead] := by rfl
set_option maxRecDepth 100000 in
theorem prim_nr : prog.filter (fun M => (m_code M).isEmpty && (m_c M == 2 && m_l M == 4)) = [mX2_nameRead] := by rfl
set_option maxRecDepth 100000 in
theorem prim_io : prog.filter (fun M => (m_code M).isEmpty && (m_c M == 4 && m_l M == 4)) = [mX4_isOf] := by rfl
theorem byteAt_cn {l : Launch} {E : pX} {h : List pC} {k t sz : Nat} {fs : List Value} {f : Nat → Int32} {n : Int32} (ho : pobj h k = some (2, fs)) (h0 : fs[0]? = some (.ref t)) (h1 : fs[1]? = some (.int n)) (ht : pint h t = some (sz, f)) (hs : sz ≤ 100000) : ∀ d : Nat, 1 ≤ d → ∀ i : Int32, Cn l E mX2_byteAt d [.ref k, .int i] h (some (.int (bA sz f n i))) h 0 0 := by
  intro d hd i
  obtain ⟨d, rfl⟩ : ∃ d', d = d' + 1 := ⟨d - 1, by omega⟩
  obtain ⟨hlen, -, g, hx⟩ := byteAt_run (E := E) (V := fun _ _ _ => none) (d := d) ho h0 h1 ht (by omega) i
  exact cn_of (snd prog_ok (by decide +kernel) (fun M _ _ as h r hv => by cases hv) g) (prog_ok mX2_byteAt (List.mem_of_getElem? (i := 17) rfl)) hlen hx
/-- the contracts of the methods that are no tables -/
theorem hV_ok {l : Launch} {E : pX} : ∀ M ∈ prog, m_code M = [] → ∀ (as : List Value) (h : List pC) (r : Option Value), pV1 M as h = some r → (∃ (t : pE) (st rest : List Value), pcall prog t st h = some (M, as, rest)) → ∀ d : Nat, 6 ≤ d → Cn l E M d as h r h 0 0 := by
  intro M hM hc as h r hv hcall d hd
  clear hcall
  unfold pV1 at hv
  split at hv
  · rename_i hcl
    have hm : M ∈ prog.filter (fun M => (m_code M).isEmpty && (m_c M == 2 && m_l M == 1)) := List.mem_filter.mpr ⟨hM, by rw [hc, hcl.1, hcl.2]; rfl⟩
    rw [prim_kr] at hm
    obtain rfl := List.mem_singleton.mp hm
    split at hv
    · rename_i a
      split at hv
      · rename_i q hq
        cases hv
        obtain ⟨fs, t, ho, e0, e1, e3, e4, hp, hle⟩ := rdO_s hq
        exact fun D X bs => keyRead_c d (by omega) (byteAt_cn ho e0 e1 hp hle) ho e3 e4
      · cases hv
    · cases hv
  · split at hv
    · rename_i hcl
      have hm : M ∈ prog.filter (fun M => (m_code M).isEmpty && (m_c M == 2 && m_l M == 4)) := List.mem_filter.mpr ⟨hM, by rw [hc, hcl.1, hcl.2]; rfl⟩
      rw [prim_nr] at hm
      obtain rfl := List.mem_singleton.mp hm
      split at hv
      · rename_i a u
        split at hv
        · rename_i q hq
          cases hv
          obtain ⟨fs, t, ho, e0, e1, e3, e4, hp, hle⟩ := rdO_s hq
          exact fun D X bs => nameRead_c u d (by omega) (byteAt_cn ho e0 e1 hp hle) ho e3 e4
        · cases hv
      · cases hv
    · split at hv
      · rename_i hcl
        have hm : M ∈ prog.filter (fun M => (m_code M).isEmpty && (m_c M == 4 && m_l M == 4)) := List.mem_filter.mpr ⟨hM, by rw [hc, hcl.1, hcl.2]; rfl⟩
        rw [prim_io] at hm
        obtain rfl := List.mem_singleton.mp hm
        split at hv
        · rename_i a u
          split at hv
          · rename_i o ho
            split at hv
            · rename_i h4
              obtain ⟨c, fs⟩ := o
              obtain rfl : c = 4 := h4
              split at hv
              · rename_i v e0
                cases hv
                exact fun D X bs => isOf_c u d ho e0
              · cases hv
            · cases hv
          · cases hv
        · cases hv
      · cases hv
/-! ===== what the automatic contracts still needed ===== -/
theorem FG.int {fs : List Value} {xs : List AV} {k : Nat} {lo hi : Int} (hf : FG fs xs) (hk : xs[k]? = some (0, lo, hi, 0)) : ∃ v : Int32, fs[k]? = some (.int v) := by
  obtain ⟨w, hw, hv⟩ := FG.at hf hk
  obtain ⟨v, rfl, -⟩ := hv.int (Nat.zero_le 1)
  exact ⟨v, hw⟩
section HND
variable {E : pX} {h : List pC}
theorem rdO_hi (hh : HI HT h) : ∃ q, rdO h 76 = some q := by
  obtain ⟨xs, t0, x0, x1, x3, x4⟩ : ∃ xs, HT[76]? = some (.inr (.inr (2, xs))) ∧ xs[0]? = some (5, 0, 0, 77) ∧ xs[1]? = some (0, -2147483648, 2147483647, 0) ∧ xs[3]? = some (0, -2147483648, 2147483647, 0) ∧ xs[4]? = some (0, -2147483648, 2147483647, 0) := ⟨_, rfl, rfl, rfl, rfl, rfl⟩
  obtain ⟨fs, ho, hF⟩ := hi_obj hh t0
  obtain ⟨f, hp, -, -⟩ := hi_int hh (a := 77) (n := 96) (sg := []) rfl
  obtain ⟨n, e1⟩ := hF.int x1
  obtain ⟨s, e3⟩ := hF.int x3
  obtain ⟨p, e4⟩ := hF.int x4
  exact ⟨_, rdO_of ho (hF.ref x0) e1 e3 e4 hp (by decide)⟩
theorem krV_r (B : Int32 → Int32) (s p : Int32) : -1 ≤ (krV B s p).toInt ∧ (krV B s p).toInt ≤ 2 := by
  unfold krV
  split
  · split
    · split <;> decide
    · decide
  · decide
theorem ioV_r (u : Int32) : ∀ (m : Nat) (z : Int32), 0 ≤ (ioV u m z).toInt ∧ (ioV u m z).toInt ≤ 1
  | 0, _ => by rw [ioV]; decide
  | m + 1, z => by
    rw [ioV]
    split
    · decide
    · split
      · decide
      · split
        · decide
        · exact ioV_r u m _
def isR4 (a : Nat) : Bool := match HT[a]? with
  | some (.inr (.inr (c, (k, _, _, z) :: _))) => decide (c = 4) && (decide (k = 0) && decide (z = 0))
  | _ => false
theorem isR4_s {a : Nat} (h4 : isR4 a = true) : ∃ (xs : List AV) (lo hi : Int), HT[a]? = some (.inr (.inr (4, xs))) ∧ xs[0]? = some (0, lo, hi, 0) := by
  unfold isR4 at h4
  split at h4
  · rename_i c k lo hi z r he
    rw [Bool.and_eq_true, Bool.and_eq_true] at h4
    obtain rfl : c = 4 := of_decide_eq_true h4.1
    obtain rfl : k = 0 := of_decide_eq_true h4.2.1
    obtain rfl : z = 0 := of_decide_eq_true h4.2.2
    exact ⟨_, lo, hi, he, rfl⟩
  · cases h4
theorem hd_isOf : KGi E pV1 JT 46 k_isOf := by
  intro N hN d hd as h ha hh hj
  cases (show some mX4_isOf = some N from hN)
  have hd : 8 ≤ d := hd
  match as, ha with
  | [w, x], ha =>
    obtain ⟨u, rfl, -⟩ := ha.2.1
    rcases ha.1 with hq | ⟨a, hal, rfl⟩
    · exact absurd hq.1 (by decide)
    · have h4 : isR4 a = true := List.all_eq_true.mp (show ([39, 40, 41, 42, 43, 44, 45, 46, 47, 67, 68, 69, 70, 71, 72, 73, 74, 75, 91, 95, 99, 103, 107, 53, 54, 55, 56, 57, 58, 59, 60, 61] : List Nat).all isR4 = true by decide +kernel) a hal
      obtain ⟨xs, lo, hi, t0, x0⟩ := isR4_s h4
      obtain ⟨fs, ho, hF⟩ := hi_obj hh t0
      obtain ⟨v, e0⟩ := hF.int x0
      refine ⟨some (.int (ioV u 6 v)), h, Or.inr ⟨rfl, by omega, ?_, rfl⟩, ⟨_, rfl, (ioV_r u 6 v).1, (ioV_r u 6 v).2⟩, hh, Fr.rf _ _, hj⟩
      show (match pobj h a with
        | some o => if o.1 = 4 then (match (o.2[0]? : Option Value) with
          | some (.int v) => some (some (Value.int (ioV u 6 v)))
          | _ => none) else none
        | none => none) = _
      rw [ho]
      dsimp only
      rw [if_pos rfl, e0]
theorem hd_keyRead : KGi E pV1 JT 20 k_keyRead := by
  intro N hN d hd as h ha hh hj
  cases (show some mX2_keyRead = some N from hN)
  have hd : 12 ≤ d := hd
  obtain rfl := at1 ha
  obtain ⟨q, hq⟩ := rdO_hi hh
  refine ⟨some (.int (krV (bA q.1 q.2.1 q.2.2.1) q.2.2.2.1 q.2.2.2.2)), h, Or.inr ⟨rfl, by omega, ?_, rfl⟩, ⟨_, rfl, (krV_r _ _ _).1, (krV_r _ _ _).2⟩, hh, Fr.rf _ _, hj⟩
  show (match rdO h 76 with
    | some q => some (some (Value.int (krV (bA q.1 q.2.1 q.2.2.1) q.2.2.2.1 q.2.2.2.2)))
    | none => none) = _
  rw [hq]
theorem hd_nameRead : KGi E pV1 JT 25 k_nameRead := by
  intro N hN d hd as h ha hh hj
  cases (show some mX2_nameRead = some N from hN)
  have hd : 12 ≤ d := hd
  match as, ha with
  | [w, x], ha =>
    obtain ⟨u, rfl, -⟩ := ha.2.1
    obtain rfl : w = .ref 76 := by
      rcases ha.1 with hq | ⟨a, hal, rfl⟩
      · exact absurd hq.1 (by decide)
      · rw [List.mem_singleton.mp hal]
    obtain ⟨q, hq⟩ := rdO_hi hh
    refine ⟨some (.int (nrV (bA q.1 q.2.1 q.2.2.1) q.2.2.2.1 q.2.2.2.2 u)), h, Or.inr ⟨rfl, by omega, ?_, rfl⟩, ⟨_, rfl, i32_lo _, i32_hi _⟩, hh, Fr.rf _ _, hj⟩
    show (match rdO h 76 with
      | some q => some (some (Value.int (nrV (bA q.1 q.2.1 q.2.2.1) q.2.2.2.1 q.2.2.2.2 u)))
      | none => none) = _
    rw [hq]
theorem hands : HandU E pV1 JT := ⟨hd_isOf, hd_nameRead, hd_keyRead, hd_manyIn, hd_gains⟩
end HND
