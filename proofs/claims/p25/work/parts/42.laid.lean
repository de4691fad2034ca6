/-! ===== contracts of the calls that lay by and back ===== -/
section LAD
variable {E : pX} {V : pV} {h : List pC} {Post : Option Value → List pC → Prop}
theorem sg_use {W : aW} {KC : List (Nat × aK)} {tb : aTb} {f q k i d : Nat} {sk : Bool} {lt : lTy} {sts : List aA} {ens : List aEn} {ro : Option (Int × Int)} {N : pM} {L : pL} {st : List Value} (hc : segchk prog HT W KC tb f q k i sk lt sts ens ro = true) (hN : prog[k]? = some N) (hK : ∀ p ∈ KC, KGi E V JT p.1 p.2) (hW : jf W = true) (hj : JT h) (hq : q ≤ d) (hL : ltG L lt) (hst : argsG st sts) (hh : HI HT h)
    (hret : ∀ r h', retG r ro → HI HT h' → Fr W h h' → Post r h')
    (hen : ∀ z ∈ ens, ∀ (L' : pL) (st' : List Value) (h' : List pC), ltG L' z.2.1 → argsG st' z.2.2 → HI HT h' → Fr W h h' → Gl prog E V Post d N z.1 L' st' h' []) : Gl prog E V Post d N i L st h [] :=
  seg_ok (J := JT) hc hN (fun k N c hk hP => hK (k, c) (lookup_mem hk) N hP) (fun h' hf => JT_P _ _ _ hW hf hj) hq hL hst hh hret hen
theorem no_kc : ∀ p ∈ ([] : List (Nat × aK)), KGi E V JT p.1 p.2 := fun _ h => absurd h List.not_mem_nil
theorem pexp_args : ∀ {as : List Value} {ps : List aA}, argsG as ps → pexp as = as.map some
  | [], [], _ => rfl
  | w :: as, p :: ps, h => by
    have ih := pexp_args h.2
    cases p with
    | inl q =>
      obtain ⟨v, rfl, -⟩ := h.1
      show some (Value.int v) :: pexp as = _
      rw [ih]
      rfl
    | inr q =>
      rcases h.1 with hq | ⟨a, -, rfl⟩
      · rw [hq.2]
        show some Value.null :: pexp as = _
        rw [ih]
        rfl
      · show some (Value.ref a) :: pexp as = _
        rw [ih]
        rfl
  | [], _ :: _, h => h.elim
  | _ :: _, [], h => h.elim
theorem args_len : ∀ {as : List Value} {ps : List aA}, argsG as ps → as.length = ps.length
  | [], [], _ => rfl
  | _ :: _, _ :: _, h => by rw [List.length_cons, List.length_cons, args_len h.2]
  | [], _ :: _, h => h.elim
  | _ :: _, [], h => h.elim
theorem args_at : ∀ {as : List Value} {ps : List aA} {k : Nat} {p : aA}, argsG as ps → ps[k]? = some p → ∃ w, as[k]? = some w ∧ argG w p
  | w :: _, _ :: _, 0, _, h, hk => by cases hk; exact ⟨w, rfl, h.1⟩
  | _ :: as, _ :: ps, k + 1, _, h, hk => args_at (as := as) (ps := ps) (k := k) h.2 hk
  | [], [], _, _, _, hk => by simp at hk
  | [], _ :: _, _, _, h, _ => h.elim
  | _ :: _, [], _, _, h, _ => h.elim
theorem args_lt {as : List Value} {ps : List aA} (m n : Nat) (h : argsG as ps) (hm : m = ps.length + n) : ltG (pent m as) (ps.map some ++ List.replicate n none) := by
  have hl := args_len h
  have he := pexp_args h
  unfold pent
  rw [he]
  have hl2 : (as.map some).length = ps.length := by rw [List.length_map, hl]
  refine ⟨by simp only [List.length_append, List.length_map, List.length_replicate]; omega, fun k p hk => ?_⟩
  by_cases hk1 : k < ps.length
  · rw [List.getElem?_append_left (by rw [List.length_map]; exact hk1), List.getElem?_map] at hk
    obtain ⟨q, hq, rfl⟩ := Option.map_eq_some_iff.mp hk
    obtain ⟨w, hw, hg⟩ := args_at h hq
    refine ⟨w, ?_, hg⟩
    unfold pget
    rw [List.getElem?_append_left (by rw [hl2]; exact hk1), List.getElem?_map, hw]
    rfl
  · rw [List.getElem?_append_right (by rw [List.length_map]; omega)] at hk
    obtain ⟨hq, hx⟩ := List.getElem?_eq_some_iff.mp hk
    rw [List.getElem_replicate] at hx
    subst hx
    have e : pget (as.map some ++ List.replicate (m - (as.map some).length) none) k = none := by
      unfold pget
      rw [List.getElem?_append_right (by rw [hl2]; omega), List.getElem?_replicate]
      split
      · rename_i v hv
        split at hv
        · cases hv; rfl
        · cases hv
      · rfl
    show pcat2 _ = false
    rw [e]
    rfl
theorem at1 {a : Nat} {st : List Value} (h : argsG st [.inr (false, [a])]) : st = [.ref a] := by
  match st, h with
  | [w], h =>
    rcases h.1 with hq | ⟨b, hb, rfl⟩
    · exact absurd hq.1 Bool.false_ne_true
    · rw [List.mem_singleton.mp hb]
theorem at3 {a b c : Nat} {st : List Value} (h : argsG st [.inr (false, [a]), .inr (false, [b]), .inr (false, [c])]) : st = [.ref a, .ref b, .ref c] := by
  match st, h with
  | [u, v, w], h =>
    obtain ⟨h1, h2, h3, -⟩ := h
    have e1 := at1 (a := a) (st := [u]) ⟨h1, trivial⟩
    have e2 := at1 (a := b) (st := [v]) ⟨h2, trivial⟩
    have e3 := at1 (a := c) (st := [w]) ⟨h3, trivial⟩
    cases e1
    cases e2
    cases e3
    rfl
theorem mobj {h : List pC} (hh : HI HT h) : ∃ o, pobj h 110 = some o ∧ o.1 = 8 := by
  obtain ⟨xs, t0, -⟩ := HT110
  obtain ⟨fs, ho, -⟩ := hi_obj hh t0
  exact ⟨_, ho, rfl⟩
/-- what such a call leaves behind -/
def LPo (W : aW) (h : List pC) : Option Value → List pC → Prop := fun r h' => retG r (some (-2147483648, 2147483647)) ∧ HI HT h' ∧ Fr W h h' ∧ JT h'
theorem kg_gl {W : aW} {ps : List aA} {N : pM} {k dm : Nat} (hN : prog[k]? = some N) (hc : ∃ u us, m_code N = u :: us) (hl : ps.length ≤ m_l N) (h : ∀ (d : Nat) (as : List Value) (h : List pC), dm ≤ d → argsG as ps → HI HT h → JT h → Gl prog E V (LPo W h) d N 0 (pent (m_l N) as) [] h []) : KGi E V JT k (ps, some (-2147483648, 2147483647), W, dm) := by
  intro N' hN' d hd as h1 ha hh hj
  cases hN.symm.trans hN'
  obtain ⟨r, h', k1, k2⟩ := h d as h1 hd ha hh hj
  refine ⟨r, h', Or.inl ⟨?_, hc, k1⟩, k2.1, k2.2.1, k2.2.2.1, k2.2.2.2⟩
  rw [pexp_args ha, List.length_map, args_len ha]
  exact hl
def WB : aW := WKs ++ WL
/-- laysBy is called here -/
theorem gl_by {d i pc n : Nat} {v : Value} {ts : List Nat} {N : pM} {L : pL} {h1 : List pC} (he : (m_code N)[i]? = some (pc, .invokevirtual n, 195, 0, v, ts)) (hf : Fr [] h h1) (hh : HI HT h1) (hj : JT h) (k : ∀ h2, LB h h2 → Gl prog E V Post (d + 2) N (i + 1) L [] h2 []) : Gl prog E V Post (d + 2) N i L [.ref 110] h1 [] := by
  have hj1 : JT h1 := JT_P [] _ _ rfl hf hj
  obtain ⟨h2, r2, b1, b2, b3, b4⟩ := laysBy_g (E := E) (V := V) (d := d) hh hj1
  obtain ⟨o, ho, hc⟩ := mobj hh
  refine Gl.con (N := mX8_laysBy) (as := [.ref 110]) (rest := []) he rfl (pcallV rfl rfl ho rfl hc (Nat.le_of_ble_eq_true rfl)) (Or.inl r2) ?_
  exact k h2 ⟨b1, b2, (hf.sub rfl).tr b3, fun j hj => by rw [b4 j hj]; exact ri_ct (hf 111 j rfl)⟩
theorem gl_back {d i pc n : Nat} {v : Value} {ts : List Nat} {N : pM} {L : pL} {h1 h2 : List pC} (he : (m_code N)[i]? = some (pc, .invokevirtual n, 196, 0, v, ts)) (hb : LB h h1) (hf : Fr (WKs ++ WS) h1 h2) (hh : HI HT h2) (k : ∀ h3, LB h h3 → Gl prog E V Post (d + 2) N (i + 1) L [] h3 []) : Gl prog E V Post (d + 2) N i L [.ref 110] h2 [] := by
  obtain ⟨h3, r3, b3⟩ := laysBack_g (E := E) (V := V) (d := d) hb hf hh
  obtain ⟨o, ho, hc⟩ := mobj hh
  exact Gl.con (N := mX8_laysBack) (as := [.ref 110]) (rest := []) he rfl (pcallV rfl rfl ho rfl hc (Nat.le_of_ble_eq_true rfl)) (Or.inl r3) (k h3 b3)
theorem lp_end {W : aW} {h1 h2 : List pC} {r : Option Value} (hb : LB h h1) (hs : subW WB W = true) (hr : retG r (some (-2147483648, 2147483647))) (hh : HI HT h2) (hf : Fr [] h1 h2) : LPo W h r h2 := ⟨hr, hh, (hb.2.2.1.sub hs).tr (hf.sub rfl), JT_P [] _ _ rfl hf hb.2.1⟩
theorem no_ret {r : Option Value} (h : retG r (some (1, 0))) : False := by
  obtain ⟨v, -, h1, h2⟩ := h
  dsimp only at h1 h2
  omega
theorem hd_behind (H : HandU E V JT) : KGi E V JT 197 ([.inr (false, [110]), .inl (-2147483648, 2147483647), .inl (-2147483648, 2147483647)], some (-2147483648, 2147483647), WB, 50) := by
  refine kg_gl (N := mX8_behind) rfl ⟨_, _, rfl⟩ (Nat.le_of_ble_eq_true rfl) (fun d as h hd ha hh hj => ?_)
  obtain ⟨d, rfl⟩ : ∃ d', d = d' + 2 := ⟨d - 2, by omega⟩
  refine sg_use sg_be1 rfl no_kc rfl hj hd (args_lt 4 1 ha rfl) trivial hh (fun r h' hr hh' hf => ⟨hr, hh', hf.sub rfl, JT_P [] _ _ rfl hf hj⟩) (fun z hz L1 st1 h1 hL1 hst1 hh1 hf1 => ?_)
  obtain rfl := List.mem_singleton.mp hz
  obtain rfl := at1 hst1
  refine gl_by rfl hf1 hh1 hj (fun h2 b2 => ?_)
  refine sg_use sg_be2 rfl (ks_look JT_P H) (by decide) b2.2.1 hd hL1 trivial b2.1 (fun r h' hr _ _ => (no_ret hr).elim) (fun z hz L3 st3 h3 hL3 hst3 hh3 hf3 => ?_)
  obtain rfl := List.mem_singleton.mp hz
  obtain rfl := at1 hst3
  refine gl_back rfl b2 hf3 hh3 (fun h4 b4 => ?_)
  exact sg_use sg_be3 rfl no_kc rfl b4.2.1 hd hL3 trivial b4.1 (fun r h' hr hh' hf => lp_end b4 rfl hr hh' hf) (fun z hz => by cases hz)
theorem hd_lasts (H : HandU E V JT) : KGi E V JT 198 ([.inr (false, [110])], some (-2147483648, 2147483647), WB, 50) := by
  refine kg_gl (N := mX8_lasts) rfl ⟨_, _, rfl⟩ (Nat.le_of_ble_eq_true rfl) (fun d as h hd ha hh hj => ?_)
  obtain ⟨d, rfl⟩ : ∃ d', d = d' + 2 := ⟨d - 2, by omega⟩
  refine sg_use sg_la1 rfl no_kc rfl hj hd (args_lt 3 2 ha rfl) trivial hh (fun r h' hr _ _ => (no_ret hr).elim) (fun z hz L1 st1 h1 hL1 hst1 hh1 hf1 => ?_)
  obtain rfl := List.mem_singleton.mp hz
  obtain rfl := at1 hst1
  refine gl_by rfl hf1 hh1 hj (fun h2 b2 => ?_)
  refine sg_use sg_la2 rfl (ks_look JT_P H) (by decide) b2.2.1 hd hL1 trivial b2.1 (fun r h' hr _ _ => (no_ret hr).elim) (fun z hz L3 st3 h3 hL3 hst3 hh3 hf3 => ?_)
  obtain rfl := List.mem_singleton.mp hz
  obtain rfl := at1 hst3
  refine gl_back rfl b2 hf3 hh3 (fun h4 b4 => ?_)
  exact sg_use sg_la3 rfl no_kc rfl b4.2.1 hd hL3 trivial b4.1 (fun r h' hr hh' hf => lp_end b4 rfl hr hh' hf) (fun z hz => by cases hz)
theorem LB.back {h h1 h2 : List pC} (b : LB h h1) (hf : Fr [] h1 h2) (hh : HI HT h2) : LB h h2 := ⟨hh, JT_P [] _ _ rfl hf b.2.1, b.2.2.1.tr (hf.sub rfl), fun j hj => by rw [ri_ct (hf 123 j rfl)]; exact b.2.2.2 j hj⟩
theorem best_loop (H : HandU E V JT) {d : Nat} (hd : 50 ≤ d + 2) : ∀ (m c : Nat), c + m = 16 → ∀ (L : pL) (h1 : List pC), LB h h1 → ltG L [some (.inr (false, [110])), some (.inl (0, 8)), some (.inl (-2147483648, 2147483647)), some (.inl (-2147483648, 2147483647)), some (.inl (-2147483648, 2147483647)), some (.inl (-2147483648, 2147483647)), some (.inl ((c : Int), (c : Int))), none] → Gl prog E V (LPo WB h) (d + 2) mX8_best 26 L [] h1 [] := by
  intro m
  induction m with
  | zero =>
    intro c hc L h1 b hL
    obtain rfl : c = 16 := by omega
    exact sg_use sg_bs5 rfl no_kc rfl b.2.1 hd hL trivial b.1 (fun r h' hr hh' hf => lp_end b rfl hr hh' hf) (fun z hz => by cases hz)
  | succ m ih =>
    intro c hc L h1 b hL
    refine sg_use (sg_bs3 c (by omega)) rfl (ks_look JT_P H) (by decide) b.2.1 hd hL trivial b.1 (fun r h' hr _ _ => (no_ret hr).elim) (fun z hz L3 st3 h3 hL3 hst3 hh3 hf3 => ?_)
    obtain rfl := List.mem_singleton.mp hz
    obtain rfl := at1 hst3
    refine gl_back rfl b hf3 hh3 (fun h4 b4 => ?_)
    refine sg_use (sg_bs4 c (by omega)) rfl no_kc rfl b4.2.1 hd hL3 trivial b4.1 (fun r h' hr _ _ => (no_ret hr).elim) (fun z hz L5 st5 h5 hL5 hst5 hh5 hf5 => ?_)
    obtain rfl := List.mem_singleton.mp hz
    match st5, hst5 with
    | [], _ => exact ih (c + 1) (by omega) L5 h5 (b4.back hf5 hh5) hL5
theorem hd_best (H : HandU E V JT) : KGi E V JT 199 ([.inr (false, [110]), .inl (-2147483648, 2147483647), .inl (-2147483648, 2147483647), .inl (-2147483648, 2147483647)], some (-2147483648, 2147483647), WB, 50) := by
  refine kg_gl (N := mX8_best) rfl ⟨_, _, rfl⟩ (Nat.le_of_ble_eq_true rfl) (fun d as h hd ha hh hj => ?_)
  obtain ⟨d, rfl⟩ : ∃ d', d = d' + 2 := ⟨d - 2, by omega⟩
  refine sg_use sg_bs1 rfl no_kc rfl hj hd (args_lt 8 4 ha rfl) trivial hh (fun r h' hr hh' hf => ⟨hr, hh', hf.sub rfl, JT_P [] _ _ rfl hf hj⟩) (fun z hz L1 st1 h1 hL1 hst1 hh1 hf1 => ?_)
  obtain rfl := List.mem_singleton.mp hz
  obtain rfl := at1 hst1
  refine gl_by rfl hf1 hh1 hj (fun h2 b2 => ?_)
  refine sg_use sg_bs2 rfl no_kc rfl b2.2.1 hd hL1 trivial b2.1 (fun r h' hr _ _ => (no_ret hr).elim) (fun z hz L3 st3 h3 hL3 hst3 hh3 hf3 => ?_)
  obtain rfl := List.mem_singleton.mp hz
  match st3, hst3 with
  | [], _ => exact best_loop H hd 16 0 rfl L3 h3 (b2.back hf3 hh3) hL3
theorem taught_loop (H : HandU E V JT) {d : Nat} (hd : 50 ≤ d + 2) : ∀ (m c : Nat), c + m = 16 → ∀ (L : pL) (h1 : List pC), LB h h1 → ltG L [some (.inr (false, [110])), some (.inl (-2147483648, 2147483647)), some (.inl (-2147483648, 2147483647)), some (.inl (-2147483648, 2147483647)), some (.inl (-2147483648, 2147483647)), some (.inl ((c : Int), (c : Int))), none] → Gl prog E V (LPo WB h) (d + 2) mX8_taught 22 L [] h1 [] := by
  intro m
  induction m with
  | zero =>
    intro c hc L h1 b hL
    obtain rfl : c = 16 := by omega
    exact sg_use sg_ta5 rfl no_kc rfl b.2.1 hd hL trivial b.1 (fun r h' hr hh' hf => lp_end b rfl hr hh' hf) (fun z hz => by cases hz)
  | succ m ih =>
    intro c hc L h1 b hL
    refine sg_use (sg_ta3 c (by omega)) rfl (ks_look JT_P H) (by decide) b.2.1 hd hL trivial b.1 (fun r h' hr _ _ => (no_ret hr).elim) (fun z hz L3 st3 h3 hL3 hst3 hh3 hf3 => ?_)
    obtain rfl := List.mem_singleton.mp hz
    obtain rfl := at1 hst3
    refine gl_back rfl b hf3 hh3 (fun h4 b4 => ?_)
    refine sg_use (sg_ta4 c (by omega)) rfl no_kc rfl b4.2.1 hd hL3 trivial b4.1 (fun r h' hr _ _ => (no_ret hr).elim) (fun z hz L5 st5 h5 hL5 hst5 hh5 hf5 => ?_)
    obtain rfl := List.mem_singleton.mp hz
    match st5, hst5 with
    | [], _ => exact ih (c + 1) (by omega) L5 h5 (b4.back hf5 hh5) hL5
theorem hd_taught (H : HandU E V JT) : KGi E V JT 200 ([.inr (false, [110]), .inl (-2147483648, 2147483647), .inl (-2147483648, 2147483647)], some (-2147483648, 2147483647), WB, 50) := by
  refine kg_gl (N := mX8_taught) rfl ⟨_, _, rfl⟩ (Nat.le_of_ble_eq_true rfl) (fun d as h hd ha hh hj => ?_)
  obtain ⟨d, rfl⟩ : ∃ d', d = d' + 2 := ⟨d - 2, by omega⟩
  refine sg_use sg_ta1 rfl no_kc rfl hj hd (args_lt 7 4 ha rfl) trivial hh (fun r h' hr hh' hf => ⟨hr, hh', hf.sub rfl, JT_P [] _ _ rfl hf hj⟩) (fun z hz L1 st1 h1 hL1 hst1 hh1 hf1 => ?_)
  obtain rfl := List.mem_singleton.mp hz
  obtain rfl := at1 hst1
  refine gl_by rfl hf1 hh1 hj (fun h2 b2 => ?_)
  refine sg_use sg_ta2 rfl no_kc rfl b2.2.1 hd hL1 trivial b2.1 (fun r h' hr _ _ => (no_ret hr).elim) (fun z hz L3 st3 h3 hL3 hst3 hh3 hf3 => ?_)
  obtain rfl := List.mem_singleton.mp hz
  match st3, hst3 with
  | [], _ => exact taught_loop H hd 16 0 rfl L3 h3 (b2.back hf3 hh3) hL3
end LAD
