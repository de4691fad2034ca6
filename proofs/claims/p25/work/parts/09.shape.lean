/-! ===== objects stay objects of their class ===== -/
def Shp (h h' : List pC) : Prop := ∀ (a : Nat) (o : Nat × List Value), pobj h a = some o → ∃ o', pobj h' a = some o' ∧ o'.1 = o.1
theorem Shp.rf (h : List pC) : Shp h h := fun a o ho => ⟨o, ho, rfl⟩
theorem Shp.tr {h1 h2 h3 : List pC} (h12 : Shp h1 h2) (h23 : Shp h2 h3) : Shp h1 h3 := fun a o ho => by
  obtain ⟨o2, q2, e2⟩ := h12 a o ho
  obtain ⟨o3, q3, e3⟩ := h23 a o2 q2
  exact ⟨o3, q3, e3.trans e2⟩
theorem Shp.set {h : List pC} {k : Nat} {c c' : pC} (hk : h[k]? = some c) (hc : ∀ o, c = .inr (.inr o) → ∃ o', c' = .inr (.inr o') ∧ o'.1 = o.1) : Shp h (h.set k c') := by
  intro a o ho
  by_cases e : k = a
  · subst e
    have h1 := pobj_at ho
    rw [hk] at h1
    obtain ⟨o', q1, q2⟩ := hc o (Option.some.inj h1)
    refine ⟨o', ?_, q2⟩
    unfold pobj
    rw [List.getElem?_set_self (List.getElem?_eq_some_iff.mp hk).1, q1]
  · refine ⟨o, ?_, rfl⟩
    unfold pobj at ho ⊢
    rw [List.getElem?_set_ne e]
    exact ho
theorem Shp.push (h : List pC) (c : pC) : Shp h (h ++ [c]) := by
  intro a o ho
  refine ⟨o, ?_, rfl⟩
  have h1 := pobj_at ho
  unfold pobj
  rw [List.getElem?_append_left (List.getElem?_eq_some_iff.mp h1).1, h1]
section SHP
variable {E : pX} {P : List pM} {V : pV} {t : pE} {i : Nat} {L : pL} {st : List Value} {h : List pC} {σ : pS}
theorem pstep_shp (hs : pstep E t i L st h = some σ) : Shp h σ.2.2.2.1 := by
  obtain ⟨pc, ins, x, y, v, ts⟩ := t
  cases ins
  case iconst n =>
    obtain rfl := pnx_inv hs
    exact Shp.rf _
  case bipush n =>
    obtain rfl := pnx_inv hs
    exact Shp.rf _
  case sipush n =>
    obtain rfl := pnx_inv hs
    exact Shp.rf _
  case lconst n =>
    obtain rfl := pnx_inv hs
    exact Shp.rf _
  case ldc n =>
    obtain rfl := pnx_inv hs
    exact Shp.rf _
  case ldc_w n =>
    obtain rfl := pnx_inv hs
    exact Shp.rf _
  case ldc2_w n =>
    obtain rfl := pnx_inv hs
    exact Shp.rf _
  case aconst_null =>
    obtain rfl := pnx_inv hs
    exact Shp.rf _
  case iload n =>
    obtain ⟨a, hv, rfl⟩ := pldi_inv (t := (pc, .iload n, x, y, v, ts)) hs
    exact Shp.rf _
  case iload_n n =>
    obtain ⟨a, hv, rfl⟩ := pldi_inv (t := (pc, .iload_n n, x, y, v, ts)) hs
    exact Shp.rf _
  case lload n =>
    obtain ⟨a, hv, rfl⟩ := pldl_inv (t := (pc, .lload n, x, y, v, ts)) hs
    exact Shp.rf _
  case lload_n n =>
    obtain ⟨a, hv, rfl⟩ := pldl_inv (t := (pc, .lload_n n, x, y, v, ts)) hs
    exact Shp.rf _
  case aload n =>
    rcases plda_inv (t := (pc, .aload n, x, y, v, ts)) hs with ⟨a, hv, rfl⟩ | ⟨hv, rfl⟩ | ⟨a, hv, rfl⟩
    · exact Shp.rf _
    · exact Shp.rf _
    · exact Shp.rf _
  case aload_n n =>
    rcases plda_inv (t := (pc, .aload_n n, x, y, v, ts)) hs with ⟨a, hv, rfl⟩ | ⟨hv, rfl⟩ | ⟨a, hv, rfl⟩
    · exact Shp.rf _
    · exact Shp.rf _
    · exact Shp.rf _
  case istore n =>
    obtain ⟨a, r, L1, rfl, hp, rfl⟩ := psti_inv (t := (pc, .istore n, x, y, v, ts)) hs
    exact Shp.rf _
  case istore_n n =>
    obtain ⟨a, r, L1, rfl, hp, rfl⟩ := psti_inv (t := (pc, .istore_n n, x, y, v, ts)) hs
    exact Shp.rf _
  case astore n =>
    rcases psta_inv (t := (pc, .astore n, x, y, v, ts)) hs with ⟨a, r, L1, rfl, hp, rfl⟩ | ⟨r, L1, rfl, hp, rfl⟩
    · exact Shp.rf _
    · exact Shp.rf _
  case astore_n n =>
    rcases psta_inv (t := (pc, .astore_n n, x, y, v, ts)) hs with ⟨a, r, L1, rfl, hp, rfl⟩ | ⟨r, L1, rfl, hp, rfl⟩
    · exact Shp.rf _
    · exact Shp.rf _
  case iinc n z =>
    have hs : pinc z (pc, .iinc n z, x, y, v, ts) i L st h = some σ := hs
    unfold pinc at hs
    split at hs
    · rename_i hv
      obtain ⟨L1, hp, rfl⟩ := psto_inv hs
      exact Shp.rf _
    · cases hs
  case iadd =>
    obtain ⟨a, b, r, rfl, rfl⟩ := pbin_inv hs
    exact Shp.rf _
  case isub =>
    obtain ⟨a, b, r, rfl, rfl⟩ := pbin_inv hs
    exact Shp.rf _
  case imul =>
    obtain ⟨a, b, r, rfl, rfl⟩ := pbin_inv hs
    exact Shp.rf _
  case iand =>
    obtain ⟨a, b, r, rfl, rfl⟩ := pbin_inv hs
    exact Shp.rf _
  case ior =>
    obtain ⟨a, b, r, rfl, rfl⟩ := pbin_inv hs
    exact Shp.rf _
  case ixor =>
    obtain ⟨a, b, r, rfl, rfl⟩ := pbin_inv hs
    exact Shp.rf _
  case ishl =>
    obtain ⟨a, b, r, rfl, rfl⟩ := pbin_inv hs
    exact Shp.rf _
  case ishr =>
    obtain ⟨a, b, r, rfl, rfl⟩ := pbin_inv hs
    exact Shp.rf _
  case iushr =>
    obtain ⟨a, b, r, rfl, rfl⟩ := pbin_inv hs
    exact Shp.rf _
  case idiv =>
    have hs : pdiv (fun a b => a / b) i L st h = some σ := hs
    unfold pdiv at hs
    split at hs
    · split at hs
      · cases hs
      · rename_i h0
        obtain rfl := pnx_inv hs
        exact Shp.rf _
    · cases hs
  case irem =>
    have hs : pdiv (fun a b => a - a / b * b) i L st h = some σ := hs
    unfold pdiv at hs
    split at hs
    · split at hs
      · cases hs
      · rename_i h0
        obtain rfl := pnx_inv hs
        exact Shp.rf _
    · cases hs
  case ineg =>
    have hs : puni (fun a => .int (-a)) i L st h = some σ := hs
    unfold puni at hs
    split at hs
    · obtain rfl := pnx_inv hs
      exact Shp.rf _
    · cases hs
  case i2l =>
    have hs : puni (fun a => .long a.toInt64) i L st h = some σ := hs
    unfold puni at hs
    split at hs
    · obtain rfl := pnx_inv hs
      exact Shp.rf _
    · cases hs
  case i2s =>
    have hs : puni (fun a => .int a.toInt16.toInt32) i L st h = some σ := hs
    unfold puni at hs
    split at hs
    · obtain rfl := pnx_inv hs
      exact Shp.rf _
    · cases hs
  case i2c =>
    have hs : puni (fun a => .int (a.toUInt32 % 65536).toInt32) i L st h = some σ := hs
    unfold puni at hs
    split at hs
    · obtain rfl := pnx_inv hs
      exact Shp.rf _
    · cases hs
  case ladd =>
    have hs : plbin (fun a b => .long (a + b)) i L st h = some σ := hs
    unfold plbin at hs
    split at hs
    · obtain rfl := pnx_inv hs
      exact Shp.rf _
    · cases hs
  case lcmp =>
    have hs : plbin (fun a b => .int (lg_cmp a b)) i L st h = some σ := hs
    unfold plbin at hs
    split at hs
    · obtain rfl := pnx_inv hs
      exact Shp.rf _
    · cases hs
  case dup =>
    have hs : pdup i L st h = some σ := hs
    unfold pdup at hs
    split at hs
    · split at hs
      · rename_i h0
        obtain rfl := pnx_inv hs
        exact Shp.rf _
      · cases hs
    · cases hs
  case dup2 =>
    have hs : pdup2 i L st h = some σ := hs
    unfold pdup2 at hs
    split at hs
    · split at hs
      · rename_i h0
        obtain rfl := pnx_inv hs
        exact Shp.rf _
      · cases hs
    · cases hs
  case pop =>
    have hs : ppop i L st h = some σ := hs
    unfold ppop at hs
    split at hs
    · split at hs
      · rename_i h0
        obtain rfl := pnx_inv hs
        exact Shp.rf _
      · cases hs
    · cases hs
  case goto z =>
    obtain rfl : σ = (x, L, st, h, 0, 0) := (Option.some.inj hs).symm
    exact Shp.rf _
  case ifCond k0 z =>
    have hs : pif1 k0 x i L st h = some σ := hs
    unfold pif1 at hs
    split at hs
    · obtain rfl := (Option.some.inj hs).symm
      exact Shp.rf _
    · cases hs
  case if_icmp k0 z =>
    have hs : pif2 k0 x i L st h = some σ := hs
    unfold pif2 at hs
    split at hs
    · obtain rfl := (Option.some.inj hs).symm
      exact Shp.rf _
    · cases hs
  case ifnull z =>
    have hs : pifn x i L st h = some σ := hs
    unfold pifn at hs
    split at hs
    · obtain rfl := (Option.some.inj hs).symm
      exact Shp.rf _
    · obtain rfl := pnx_inv hs
      exact Shp.rf _
    · cases hs
  case ifnonnull z =>
    have hs : pifnn x i L st h = some σ := hs
    unfold pifnn at hs
    split at hs
    · obtain rfl := pnx_inv hs
      exact Shp.rf _
    · obtain rfl := (Option.some.inj hs).symm
      exact Shp.rf _
    · cases hs
  case tableswitch dd lo hi os =>
    have hs : pswi (pkeysT lo ts) x i L st h = some σ := hs
    unfold pswi at hs
    split at hs
    · obtain rfl := (Option.some.inj hs).symm
      exact Shp.rf _
    · cases hs
  case lookupswitch dd ps =>
    have hs : pswi ((ps.toList.map (fun q => q.1)).zip ts) x i L st h = some σ := hs
    unfold pswi at hs
    split at hs
    · obtain rfl := (Option.some.inj hs).symm
      exact Shp.rf _
    · cases hs
  case getfield n =>
    have hs : pgetf (pc, .getfield n, x, y, v, ts) i L st h = some σ := hs
    unfold pgetf at hs
    split at hs
    · split at hs
      · rename_i ho
        split at hs
        · rename_i hx1
          split at hs
          · rename_i hw
            obtain rfl := pnx_inv hs
            exact Shp.rf _
          · cases hs
        · cases hs
      · cases hs
    · cases hs
  case putfield n =>
    have hs : pputf (pc, .putfield n, x, y, v, ts) i L st h = some σ := hs
    unfold pputf at hs
    split at hs
    · split at hs
      · rename_i ho
        split at hs
        · rename_i hx1
          split at hs
          · rename_i hf
            obtain rfl := pnx_inv hs
            exact Shp.set (pobj_at ho) (fun o h => by cases h; exact ⟨_, rfl, rfl⟩)
          · cases hs
        · cases hs
      · cases hs
    · cases hs
  case iaload =>
    have hs : piald E i L st h = some σ := hs
    unfold piald at hs
    split at hs
    · split at hs
      · rename_i ho
        split at hs
        · rename_i hj
          obtain rfl := pnx_inv hs
          exact Shp.rf _
        · cases hs
      · cases hs
    · split at hs
      · rename_i ho
        split at hs
        · rename_i hj
          obtain rfl := pnx_inv hs
          exact Shp.rf _
        · cases hs
      · cases hs
    · cases hs
  case iastore =>
    have hs : piast i L st h = some σ := hs
    unfold piast at hs
    split at hs
    · split at hs
      · rename_i ho
        split at hs
        · rename_i hj
          obtain rfl := pnx_inv hs
          exact Shp.set (pint_at ho) (fun o h => by cases h)
        · cases hs
      · cases hs
    · cases hs
  case aaload =>
    have hs : paald i L st h = some σ := hs
    unfold paald at hs
    split at hs
    · split at hs
      · rename_i ho
        split at hs
        · rename_i hj
          obtain rfl := pnx_inv hs
          exact Shp.rf _
        · cases hs
      · cases hs
    · cases hs
  case aastore =>
    have hs : paast i L st h = some σ := hs
    unfold paast at hs
    split at hs
    · split at hs
      · rename_i ho hb
        split at hs
        · rename_i hx1
          split at hs
          · rename_i hj
            obtain rfl := pnx_inv hs
            exact Shp.set (pref_at ho) (fun o h => by cases h)
          · cases hs
        · cases hs
      · cases hs
    · cases hs
  case arraylength =>
    have hs : palen E i L st h = some σ := hs
    unfold palen at hs
    split at hs
    · split at hs
      · rename_i ho
        obtain rfl := pnx_inv hs
        exact Shp.rf _
      · rename_i ho
        obtain rfl := pnx_inv hs
        exact Shp.rf _
      · cases hs
    · split at hs
      · rename_i ho
        obtain rfl := pnx_inv hs
        exact Shp.rf _
      · cases hs
    · cases hs
  case new n =>
    have hs : pnewc (pc, .new n, x, y, v, ts) i L st h = some σ := hs
    unfold pnewc at hs
    split at hs
    · rename_i hx1
      obtain rfl := (Option.some.inj hs).symm
      exact Shp.push _ _
    · cases hs
  case newarray n =>
    have hs : pnewa i L st h = some σ := hs
    unfold pnewa at hs
    split at hs
    · split at hs
      · rename_i hj
        obtain rfl := (Option.some.inj hs).symm
        exact Shp.push _ _
      · cases hs
    · cases hs
  case anewarray n =>
    have hs : pnewq (pc, .anewarray n, x, y, v, ts) i L st h = some σ := hs
    unfold pnewq at hs
    split at hs
    · split at hs
      · rename_i hj
        obtain rfl := (Option.some.inj hs).symm
        exact Shp.push _ _
      · cases hs
    · cases hs
  case invokestatic n =>
    have hq : pnats (pc, .invokestatic n, x, y, v, ts) i L st h = some σ := hs
    clear hs
    unfold pnats at hq
    split at hq
    · rename_i hx1
      obtain rfl : x = 99990 := hx1
      unfold pm2 at hq
      split at hq
      · split at hq
        · rename_i h8
          obtain rfl := pnx_inv hq
          exact Shp.rf _
        · cases hq
      · cases hq
    · split at hq
      · rename_i hx1
        obtain rfl : x = 99991 := hx1
        unfold pm2 at hq
        split at hq
        · split at hq
          · rename_i h8
            obtain rfl := pnx_inv hq
            exact Shp.rf _
          · cases hq
        · cases hq
      · split at hq
        · rename_i hx1
          obtain rfl : x = 99992 := hx1
          unfold pm1 at hq
          split at hq
          · split at hq
            · rename_i h8
              obtain rfl := pnx_inv hq
              exact Shp.rf _
            · cases hq
          · cases hq
        · unfold pocopy at hq
          split at hq
          · split at hq
            · rename_i hx1
              split at hq
              · rename_i h0 h1
                split at hq
                · rename_i hz
                  obtain rfl := pnx_inv hq
                  exact Shp.set (pint_at h1) (fun o h => by cases h)
                · cases hq
              · cases hq
            · cases hq
          · cases hq
  case invokespecial n =>
    have hs : poini (pc, .invokespecial n, x, y, v, ts) i L st h = some σ := hs
    unfold poini at hs
    split at hs
    · split at hs
      · rename_i hx1
        obtain rfl := pnx_inv hs
        exact Shp.rf _
      · cases hs
    · cases hs
  all_goals (have hs2 : (none : Option pS) = some σ := hs; cases hs2)
theorem pexec_shp : ∀ (f d : Nat) (M : pM) (i : Nat) (L : pL) (st : List Value) (h : List pC) (res : pR), pexec P E V f d M i L st h = some res → Shp h res.2.1 := by
  intro f
  induction f with
  | zero =>
    intro d M i L st h res hx
    cases hx
  | succ f ih =>
    intro d M i L st h res hx
    cases d with
    | zero => cases hx
    | succ d =>
      unfold pexec at hx
      split at hx
      · cases hx
      · split at hx
        · cases hx
          exact Shp.rf _
        · split at hx
          · split at hx
            · split at hx
              · split at hx
                · exact ih _ _ _ _ _ _ _ hx
                · cases hx
              · cases hx
            · split at hx
              · split at hx
                · rename_i h1
                  split at hx
                  · rename_i h2
                    cases hx
                    have e1 := ih _ _ _ _ _ _ _ h1
                    have e2 := ih _ _ _ _ _ _ _ h2
                    exact Shp.tr e1 e2
                  · cases hx
                · cases hx
              · cases hx
          · split at hx
            · rename_i hst
              split at hx
              · rename_i h2
                cases hx
                have e1 := pstep_shp hst
                have e2 := ih _ _ _ _ _ _ _ h2
                exact Shp.tr e1 e2
              · cases hx
            · cases hx
theorem Run.shp {d : Nat} {N : pM} {as : List Value} {res : pR} (hr : Run P E V d N as h res) : Shp h res.2.1 := by
  obtain ⟨-, -, f, hf⟩ := hr
  exact pexec_shp f _ _ _ _ _ _ _ hf
end SHP
