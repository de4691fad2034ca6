/-! ===== the key, on both sides ===== -/
section KEY2
variable {E : pX} {d : Nat} {h : List pC} {f g : Nat → Int32} {n b : Nat} {gl : Int32} {st : List Int32}
theorem iw_4 {x1 x2 x3 x4 : Int32} (x0 : ¬ x4 = 0) (hh : HI HT h) (t : TS g n b gl st h) : Run prog E pV1 (d + 1) mX8_isWordAt [.ref 110, .int x1, .int x2, .int x3, .int x4] h (some (.int (if ri h 110 18 = 1 ∧ wEnd g n b - b = 4 ∧ g b = x1 ∧ g (b + 1) = x2 ∧ g (b + 2) = x3 ∧ g (b + 3) = x4 then 1 else 0)), h, 0, 0) := by
  obtain ⟨⟨t1, a1, a2⟩, ⟨t2, t3, t4⟩, -⟩ := t
  have el := wEnd_le (g := g) a2
  obtain ⟨fs, ho, hF⟩ := hi_obj hh HTm
  have f14 : fs[14]? = some (.ref 124) := hF.ref (a := 124) rfl
  have f16 : fs[16]? = some (.int (nI b)) := by rw [← t3]; exact fld_at ho (m_fld hh (i := 16) (lo := 0) (hi := 96) rfl).1
  have f17 : fs[17]? = some (.int (nI (wEnd g n b))) := by rw [← t4]; exact fld_at ho (m_fld hh (i := 17) (lo := 0) (hi := 96) rfl).1
  have f18 : fs[18]? = some (.int (ri h 110 18)) := fld_at ho (m_fld hh (i := 18) (lo := 0) (hi := 4) rfl).1
  obtain ⟨f, p1, u1, -⟩ := hi_int (a := 124) (n := 96) (sg := [(0, 95, 0, 255)]) hh rfl
  have fg : ∀ j : Nat, j < 96 → f j = g j := fun j hj => by rw [← u1 j hj]; exact t1 j hj
  refine ⟨Nat.le_of_ble_eq_true rfl, ⟨_, _, rfl⟩, ?_⟩
  show RA prog E pV1 (d + 1) mX8_isWordAt 0 [some (.ref 110), some (.int x1), some (.int x2), some (.int x3), some (.int x4), none] [] h (some (.int (if ri h 110 18 = 1 ∧ wEnd g n b - b = 4 ∧ g b = x1 ∧ g (b + 1) = x2 ∧ g (b + 2) = x3 ∧ g (b + 3) = x4 then 1 else 0)), h, 0, 0)
  by_cases c18 : ri h 110 18 = 1
  rotate_left
  · rw [if_neg (fun z => c18 z.1)]
    refine RA.steps (i' := 1) (L' := [some (.ref 110), some (.int x1), some (.int x2), some (.int x3), some (.int x4), none]) (st' := [.int x4]) (h' := h) 1 rfl ?_
    refine RA.if1T rfl (decide_eq_true x0) ?_
    refine RA.steps (i' := 7) (L' := [some (.ref 110), some (.int x1), some (.int x2), some (.int x3), some (.int x4), some (.int 4)]) (st' := [.ref 110]) (h' := h) 3 rfl ?_
    refine RA.getf rfl ho rfl f18 ?_
    refine RA.steps (i' := 9) (L' := [some (.ref 110), some (.int x1), some (.int x2), some (.int x3), some (.int x4), some (.int 4)]) (st' := [.int 1, .int (ri h 110 18)]) (h' := h) 1 rfl ?_
    refine RA.if2T rfl (decide_eq_true c18) ?_
    refine RA.steps (i' := 56) (L' := [some (.ref 110), some (.int x1), some (.int x2), some (.int x3), some (.int x4), some (.int 4)]) (st' := [.int 0]) (h' := h) 1 rfl ?_
    exact RA.ret rfl rfl
  by_cases cl : wEnd g n b - b = 4
  rotate_left
  · rw [if_neg (fun z => cl z.2.1)]
    refine RA.steps (i' := 1) (L' := [some (.ref 110), some (.int x1), some (.int x2), some (.int x3), some (.int x4), none]) (st' := [.int x4]) (h' := h) 1 rfl ?_
    refine RA.if1T rfl (decide_eq_true x0) ?_
    refine RA.steps (i' := 7) (L' := [some (.ref 110), some (.int x1), some (.int x2), some (.int x3), some (.int x4), some (.int 4)]) (st' := [.ref 110]) (h' := h) 3 rfl ?_
    refine RA.getf rfl ho rfl f18 ?_
    refine RA.steps (i' := 9) (L' := [some (.ref 110), some (.int x1), some (.int x2), some (.int x3), some (.int x4), some (.int 4)]) (st' := [.int 1, .int (ri h 110 18)]) (h' := h) 1 rfl ?_
    refine RA.if2F rfl (decide_eq_false (fun z => z c18)) ?_
    refine RA.steps (i' := 11) (L' := [some (.ref 110), some (.int x1), some (.int x2), some (.int x3), some (.int x4), some (.int 4)]) (st' := [.ref 110]) (h' := h) 1 rfl ?_
    refine RA.getf rfl ho rfl f17 ?_
    refine RA.steps (i' := 13) (L' := [some (.ref 110), some (.int x1), some (.int x2), some (.int x3), some (.int x4), some (.int 4)]) (st' := [.ref 110, .int (nI (wEnd g n b))]) (h' := h) 1 rfl ?_
    refine RA.getf rfl ho rfl f16 ?_
    refine RA.steps (i' := 15) (L' := [some (.ref 110), some (.int x1), some (.int x2), some (.int x3), some (.int x4), some (.int 4)]) (st' := [.int ((nI (wEnd g n b)) - (nI b))]) (h' := h) 1 rfl ?_
    rw [(nIsub el.1 (by omega))]
    refine RA.steps (i' := 16) (L' := [some (.ref 110), some (.int x1), some (.int x2), some (.int x3), some (.int x4), some (.int 4)]) (st' := [.int 4, .int (nI (wEnd g n b - b))]) (h' := h) 1 rfl ?_
    refine RA.if2T rfl (decide_eq_true (fun z => cl ((nI_eq (by omega) (by decide)).mp (show nI (wEnd g n b - b) = nI 4 from z)))) ?_
    refine RA.steps (i' := 56) (L' := [some (.ref 110), some (.int x1), some (.int x2), some (.int x3), some (.int x4), some (.int 4)]) (st' := [.int 0]) (h' := h) 1 rfl ?_
    exact RA.ret rfl rfl
  by_cases c0 : g b = x1
  rotate_left
  · rw [if_neg (fun z => c0 z.2.2.1)]
    refine RA.steps (i' := 1) (L' := [some (.ref 110), some (.int x1), some (.int x2), some (.int x3), some (.int x4), none]) (st' := [.int x4]) (h' := h) 1 rfl ?_
    refine RA.if1T rfl (decide_eq_true x0) ?_
    refine RA.steps (i' := 7) (L' := [some (.ref 110), some (.int x1), some (.int x2), some (.int x3), some (.int x4), some (.int 4)]) (st' := [.ref 110]) (h' := h) 3 rfl ?_
    refine RA.getf rfl ho rfl f18 ?_
    refine RA.steps (i' := 9) (L' := [some (.ref 110), some (.int x1), some (.int x2), some (.int x3), some (.int x4), some (.int 4)]) (st' := [.int 1, .int (ri h 110 18)]) (h' := h) 1 rfl ?_
    refine RA.if2F rfl (decide_eq_false (fun z => z c18)) ?_
    refine RA.steps (i' := 11) (L' := [some (.ref 110), some (.int x1), some (.int x2), some (.int x3), some (.int x4), some (.int 4)]) (st' := [.ref 110]) (h' := h) 1 rfl ?_
    refine RA.getf rfl ho rfl f17 ?_
    refine RA.steps (i' := 13) (L' := [some (.ref 110), some (.int x1), some (.int x2), some (.int x3), some (.int x4), some (.int 4)]) (st' := [.ref 110, .int (nI (wEnd g n b))]) (h' := h) 1 rfl ?_
    refine RA.getf rfl ho rfl f16 ?_
    refine RA.steps (i' := 15) (L' := [some (.ref 110), some (.int x1), some (.int x2), some (.int x3), some (.int x4), some (.int 4)]) (st' := [.int ((nI (wEnd g n b)) - (nI b))]) (h' := h) 1 rfl ?_
    rw [(nIsub el.1 (by omega))]
    refine RA.steps (i' := 16) (L' := [some (.ref 110), some (.int x1), some (.int x2), some (.int x3), some (.int x4), some (.int 4)]) (st' := [.int 4, .int (nI (wEnd g n b - b))]) (h' := h) 1 rfl ?_
    refine RA.if2F rfl (decide_eq_false (fun z => z (show nI (wEnd g n b - b) = nI 4 by rw [cl]))) ?_
    refine RA.steps (i' := 18) (L' := [some (.ref 110), some (.int x1), some (.int x2), some (.int x3), some (.int x4), some (.int 4)]) (st' := [.ref 110]) (h' := h) 1 rfl ?_
    refine RA.getf rfl ho rfl f14 ?_
    refine RA.steps (i' := 20) (L' := [some (.ref 110), some (.int x1), some (.int x2), some (.int x3), some (.int x4), some (.int 4)]) (st' := [.ref 110, .ref 124]) (h' := h) 1 rfl ?_
    refine RA.getf rfl ho rfl f16 ?_
    refine RA.iald (w := (g b)) rfl p1 ⟨(nI_cl (by omega)).1, by rw [(nI_cl (by omega)).2]; show b < 96; omega⟩ (by rw [(nI_cl (by omega)).2]; exact fg _ (by omega)) ?_
    refine RA.steps (i' := 23) (L' := [some (.ref 110), some (.int x1), some (.int x2), some (.int x3), some (.int x4), some (.int 4)]) (st' := [.int x1, .int (g b)]) (h' := h) 1 rfl ?_
    refine RA.if2T rfl (decide_eq_true c0) ?_
    refine RA.steps (i' := 56) (L' := [some (.ref 110), some (.int x1), some (.int x2), some (.int x3), some (.int x4), some (.int 4)]) (st' := [.int 0]) (h' := h) 1 rfl ?_
    exact RA.ret rfl rfl
  by_cases c1 : g (b + 1) = x2
  rotate_left
  · rw [if_neg (fun z => c1 z.2.2.2.1)]
    refine RA.steps (i' := 1) (L' := [some (.ref 110), some (.int x1), some (.int x2), some (.int x3), some (.int x4), none]) (st' := [.int x4]) (h' := h) 1 rfl ?_
    refine RA.if1T rfl (decide_eq_true x0) ?_
    refine RA.steps (i' := 7) (L' := [some (.ref 110), some (.int x1), some (.int x2), some (.int x3), some (.int x4), some (.int 4)]) (st' := [.ref 110]) (h' := h) 3 rfl ?_
    refine RA.getf rfl ho rfl f18 ?_
    refine RA.steps (i' := 9) (L' := [some (.ref 110), some (.int x1), some (.int x2), some (.int x3), some (.int x4), some (.int 4)]) (st' := [.int 1, .int (ri h 110 18)]) (h' := h) 1 rfl ?_
    refine RA.if2F rfl (decide_eq_false (fun z => z c18)) ?_
    refine RA.steps (i' := 11) (L' := [some (.ref 110), some (.int x1), some (.int x2), some (.int x3), some (.int x4), some (.int 4)]) (st' := [.ref 110]) (h' := h) 1 rfl ?_
    refine RA.getf rfl ho rfl f17 ?_
    refine RA.steps (i' := 13) (L' := [some (.ref 110), some (.int x1), some (.int x2), some (.int x3), some (.int x4), some (.int 4)]) (st' := [.ref 110, .int (nI (wEnd g n b))]) (h' := h) 1 rfl ?_
    refine RA.getf rfl ho rfl f16 ?_
    refine RA.steps (i' := 15) (L' := [some (.ref 110), some (.int x1), some (.int x2), some (.int x3), some (.int x4), some (.int 4)]) (st' := [.int ((nI (wEnd g n b)) - (nI b))]) (h' := h) 1 rfl ?_
    rw [(nIsub el.1 (by omega))]
    refine RA.steps (i' := 16) (L' := [some (.ref 110), some (.int x1), some (.int x2), some (.int x3), some (.int x4), some (.int 4)]) (st' := [.int 4, .int (nI (wEnd g n b - b))]) (h' := h) 1 rfl ?_
    refine RA.if2F rfl (decide_eq_false (fun z => z (show nI (wEnd g n b - b) = nI 4 by rw [cl]))) ?_
    refine RA.steps (i' := 18) (L' := [some (.ref 110), some (.int x1), some (.int x2), some (.int x3), some (.int x4), some (.int 4)]) (st' := [.ref 110]) (h' := h) 1 rfl ?_
    refine RA.getf rfl ho rfl f14 ?_
    refine RA.steps (i' := 20) (L' := [some (.ref 110), some (.int x1), some (.int x2), some (.int x3), some (.int x4), some (.int 4)]) (st' := [.ref 110, .ref 124]) (h' := h) 1 rfl ?_
    refine RA.getf rfl ho rfl f16 ?_
    refine RA.iald (w := (g b)) rfl p1 ⟨(nI_cl (by omega)).1, by rw [(nI_cl (by omega)).2]; show b < 96; omega⟩ (by rw [(nI_cl (by omega)).2]; exact fg _ (by omega)) ?_
    refine RA.steps (i' := 23) (L' := [some (.ref 110), some (.int x1), some (.int x2), some (.int x3), some (.int x4), some (.int 4)]) (st' := [.int x1, .int (g b)]) (h' := h) 1 rfl ?_
    refine RA.if2F rfl (decide_eq_false (fun z => z c0)) ?_
    refine RA.steps (i' := 25) (L' := [some (.ref 110), some (.int x1), some (.int x2), some (.int x3), some (.int x4), some (.int 4)]) (st' := [.ref 110]) (h' := h) 1 rfl ?_
    refine RA.getf rfl ho rfl f14 ?_
    refine RA.steps (i' := 27) (L' := [some (.ref 110), some (.int x1), some (.int x2), some (.int x3), some (.int x4), some (.int 4)]) (st' := [.ref 110, .ref 124]) (h' := h) 1 rfl ?_
    refine RA.getf rfl ho rfl f16 ?_
    refine RA.steps (i' := 30) (L' := [some (.ref 110), some (.int x1), some (.int x2), some (.int x3), some (.int x4), some (.int 4)]) (st' := [.int ((nI b) + 1), .ref 124]) (h' := h) 2 rfl ?_
    rw [(nI_1 b)]
    refine RA.iald (w := (g (b + 1))) rfl p1 ⟨(nI_cl (by omega)).1, by rw [(nI_cl (by omega)).2]; show b + 1 < 96; omega⟩ (by rw [(nI_cl (by omega)).2]; exact fg _ (by omega)) ?_
    refine RA.steps (i' := 32) (L' := [some (.ref 110), some (.int x1), some (.int x2), some (.int x3), some (.int x4), some (.int 4)]) (st' := [.int x2, .int (g (b + 1))]) (h' := h) 1 rfl ?_
    refine RA.if2T rfl (decide_eq_true c1) ?_
    refine RA.steps (i' := 56) (L' := [some (.ref 110), some (.int x1), some (.int x2), some (.int x3), some (.int x4), some (.int 4)]) (st' := [.int 0]) (h' := h) 1 rfl ?_
    exact RA.ret rfl rfl
  by_cases c2 : g (b + 2) = x3
  rotate_left
  · rw [if_neg (fun z => c2 z.2.2.2.2.1)]
    refine RA.steps (i' := 1) (L' := [some (.ref 110), some (.int x1), some (.int x2), some (.int x3), some (.int x4), none]) (st' := [.int x4]) (h' := h) 1 rfl ?_
    refine RA.if1T rfl (decide_eq_true x0) ?_
    refine RA.steps (i' := 7) (L' := [some (.ref 110), some (.int x1), some (.int x2), some (.int x3), some (.int x4), some (.int 4)]) (st' := [.ref 110]) (h' := h) 3 rfl ?_
    refine RA.getf rfl ho rfl f18 ?_
    refine RA.steps (i' := 9) (L' := [some (.ref 110), some (.int x1), some (.int x2), some (.int x3), some (.int x4), some (.int 4)]) (st' := [.int 1, .int (ri h 110 18)]) (h' := h) 1 rfl ?_
    refine RA.if2F rfl (decide_eq_false (fun z => z c18)) ?_
    refine RA.steps (i' := 11) (L' := [some (.ref 110), some (.int x1), some (.int x2), some (.int x3), some (.int x4), some (.int 4)]) (st' := [.ref 110]) (h' := h) 1 rfl ?_
    refine RA.getf rfl ho rfl f17 ?_
    refine RA.steps (i' := 13) (L' := [some (.ref 110), some (.int x1), some (.int x2), some (.int x3), some (.int x4), some (.int 4)]) (st' := [.ref 110, .int (nI (wEnd g n b))]) (h' := h) 1 rfl ?_
    refine RA.getf rfl ho rfl f16 ?_
    refine RA.steps (i' := 15) (L' := [some (.ref 110), some (.int x1), some (.int x2), some (.int x3), some (.int x4), some (.int 4)]) (st' := [.int ((nI (wEnd g n b)) - (nI b))]) (h' := h) 1 rfl ?_
    rw [(nIsub el.1 (by omega))]
    refine RA.steps (i' := 16) (L' := [some (.ref 110), some (.int x1), some (.int x2), some (.int x3), some (.int x4), some (.int 4)]) (st' := [.int 4, .int (nI (wEnd g n b - b))]) (h' := h) 1 rfl ?_
    refine RA.if2F rfl (decide_eq_false (fun z => z (show nI (wEnd g n b - b) = nI 4 by rw [cl]))) ?_
    refine RA.steps (i' := 18) (L' := [some (.ref 110), some (.int x1), some (.int x2), some (.int x3), some (.int x4), some (.int 4)]) (st' := [.ref 110]) (h' := h) 1 rfl ?_
    refine RA.getf rfl ho rfl f14 ?_
    refine RA.steps (i' := 20) (L' := [some (.ref 110), some (.int x1), some (.int x2), some (.int x3), some (.int x4), some (.int 4)]) (st' := [.ref 110, .ref 124]) (h' := h) 1 rfl ?_
    refine RA.getf rfl ho rfl f16 ?_
    refine RA.iald (w := (g b)) rfl p1 ⟨(nI_cl (by omega)).1, by rw [(nI_cl (by omega)).2]; show b < 96; omega⟩ (by rw [(nI_cl (by omega)).2]; exact fg _ (by omega)) ?_
    refine RA.steps (i' := 23) (L' := [some (.ref 110), some (.int x1), some (.int x2), some (.int x3), some (.int x4), some (.int 4)]) (st' := [.int x1, .int (g b)]) (h' := h) 1 rfl ?_
    refine RA.if2F rfl (decide_eq_false (fun z => z c0)) ?_
    refine RA.steps (i' := 25) (L' := [some (.ref 110), some (.int x1), some (.int x2), some (.int x3), some (.int x4), some (.int 4)]) (st' := [.ref 110]) (h' := h) 1 rfl ?_
    refine RA.getf rfl ho rfl f14 ?_
    refine RA.steps (i' := 27) (L' := [some (.ref 110), some (.int x1), some (.int x2), some (.int x3), some (.int x4), some (.int 4)]) (st' := [.ref 110, .ref 124]) (h' := h) 1 rfl ?_
    refine RA.getf rfl ho rfl f16 ?_
    refine RA.steps (i' := 30) (L' := [some (.ref 110), some (.int x1), some (.int x2), some (.int x3), some (.int x4), some (.int 4)]) (st' := [.int ((nI b) + 1), .ref 124]) (h' := h) 2 rfl ?_
    rw [(nI_1 b)]
    refine RA.iald (w := (g (b + 1))) rfl p1 ⟨(nI_cl (by omega)).1, by rw [(nI_cl (by omega)).2]; show b + 1 < 96; omega⟩ (by rw [(nI_cl (by omega)).2]; exact fg _ (by omega)) ?_
    refine RA.steps (i' := 32) (L' := [some (.ref 110), some (.int x1), some (.int x2), some (.int x3), some (.int x4), some (.int 4)]) (st' := [.int x2, .int (g (b + 1))]) (h' := h) 1 rfl ?_
    refine RA.if2F rfl (decide_eq_false (fun z => z c1)) ?_
    refine RA.steps (i' := 34) (L' := [some (.ref 110), some (.int x1), some (.int x2), some (.int x3), some (.int x4), some (.int 4)]) (st' := [.ref 110]) (h' := h) 1 rfl ?_
    refine RA.getf rfl ho rfl f14 ?_
    refine RA.steps (i' := 36) (L' := [some (.ref 110), some (.int x1), some (.int x2), some (.int x3), some (.int x4), some (.int 4)]) (st' := [.ref 110, .ref 124]) (h' := h) 1 rfl ?_
    refine RA.getf rfl ho rfl f16 ?_
    refine RA.steps (i' := 39) (L' := [some (.ref 110), some (.int x1), some (.int x2), some (.int x3), some (.int x4), some (.int 4)]) (st' := [.int ((nI b) + 2), .ref 124]) (h' := h) 2 rfl ?_
    rw [(show nI b + 2 = nI (b + 2) from nI_add b 2)]
    refine RA.iald (w := (g (b + 2))) rfl p1 ⟨(nI_cl (by omega)).1, by rw [(nI_cl (by omega)).2]; show b + 2 < 96; omega⟩ (by rw [(nI_cl (by omega)).2]; exact fg _ (by omega)) ?_
    refine RA.steps (i' := 41) (L' := [some (.ref 110), some (.int x1), some (.int x2), some (.int x3), some (.int x4), some (.int 4)]) (st' := [.int x3, .int (g (b + 2))]) (h' := h) 1 rfl ?_
    refine RA.if2T rfl (decide_eq_true c2) ?_
    refine RA.steps (i' := 56) (L' := [some (.ref 110), some (.int x1), some (.int x2), some (.int x3), some (.int x4), some (.int 4)]) (st' := [.int 0]) (h' := h) 1 rfl ?_
    exact RA.ret rfl rfl
  by_cases c3 : g (b + 3) = x4
  rotate_left
  · rw [if_neg (fun z => c3 z.2.2.2.2.2)]
    refine RA.steps (i' := 1) (L' := [some (.ref 110), some (.int x1), some (.int x2), some (.int x3), some (.int x4), none]) (st' := [.int x4]) (h' := h) 1 rfl ?_
    refine RA.if1T rfl (decide_eq_true x0) ?_
    refine RA.steps (i' := 7) (L' := [some (.ref 110), some (.int x1), some (.int x2), some (.int x3), some (.int x4), some (.int 4)]) (st' := [.ref 110]) (h' := h) 3 rfl ?_
    refine RA.getf rfl ho rfl f18 ?_
    refine RA.steps (i' := 9) (L' := [some (.ref 110), some (.int x1), some (.int x2), some (.int x3), some (.int x4), some (.int 4)]) (st' := [.int 1, .int (ri h 110 18)]) (h' := h) 1 rfl ?_
    refine RA.if2F rfl (decide_eq_false (fun z => z c18)) ?_
    refine RA.steps (i' := 11) (L' := [some (.ref 110), some (.int x1), some (.int x2), some (.int x3), some (.int x4), some (.int 4)]) (st' := [.ref 110]) (h' := h) 1 rfl ?_
    refine RA.getf rfl ho rfl f17 ?_
    refine RA.steps (i' := 13) (L' := [some (.ref 110), some (.int x1), some (.int x2), some (.int x3), some (.int x4), some (.int 4)]) (st' := [.ref 110, .int (nI (wEnd g n b))]) (h' := h) 1 rfl ?_
    refine RA.getf rfl ho rfl f16 ?_
    refine RA.steps (i' := 15) (L' := [some (.ref 110), some (.int x1), some (.int x2), some (.int x3), some (.int x4), some (.int 4)]) (st' := [.int ((nI (wEnd g n b)) - (nI b))]) (h' := h) 1 rfl ?_
    rw [(nIsub el.1 (by omega))]
    refine RA.steps (i' := 16) (L' := [some (.ref 110), some (.int x1), some (.int x2), some (.int x3), some (.int x4), some (.int 4)]) (st' := [.int 4, .int (nI (wEnd g n b - b))]) (h' := h) 1 rfl ?_
    refine RA.if2F rfl (decide_eq_false (fun z => z (show nI (wEnd g n b - b) = nI 4 by rw [cl]))) ?_
    refine RA.steps (i' := 18) (L' := [some (.ref 110), some (.int x1), some (.int x2), some (.int x3), some (.int x4), some (.int 4)]) (st' := [.ref 110]) (h' := h) 1 rfl ?_
    refine RA.getf rfl ho rfl f14 ?_
    refine RA.steps (i' := 20) (L' := [some (.ref 110), some (.int x1), some (.int x2), some (.int x3), some (.int x4), some (.int 4)]) (st' := [.ref 110, .ref 124]) (h' := h) 1 rfl ?_
    refine RA.getf rfl ho rfl f16 ?_
    refine RA.iald (w := (g b)) rfl p1 ⟨(nI_cl (by omega)).1, by rw [(nI_cl (by omega)).2]; show b < 96; omega⟩ (by rw [(nI_cl (by omega)).2]; exact fg _ (by omega)) ?_
    refine RA.steps (i' := 23) (L' := [some (.ref 110), some (.int x1), some (.int x2), some (.int x3), some (.int x4), some (.int 4)]) (st' := [.int x1, .int (g b)]) (h' := h) 1 rfl ?_
    refine RA.if2F rfl (decide_eq_false (fun z => z c0)) ?_
    refine RA.steps (i' := 25) (L' := [some (.ref 110), some (.int x1), some (.int x2), some (.int x3), some (.int x4), some (.int 4)]) (st' := [.ref 110]) (h' := h) 1 rfl ?_
    refine RA.getf rfl ho rfl f14 ?_
    refine RA.steps (i' := 27) (L' := [some (.ref 110), some (.int x1), some (.int x2), some (.int x3), some (.int x4), some (.int 4)]) (st' := [.ref 110, .ref 124]) (h' := h) 1 rfl ?_
    refine RA.getf rfl ho rfl f16 ?_
    refine RA.steps (i' := 30) (L' := [some (.ref 110), some (.int x1), some (.int x2), some (.int x3), some (.int x4), some (.int 4)]) (st' := [.int ((nI b) + 1), .ref 124]) (h' := h) 2 rfl ?_
    rw [(nI_1 b)]
    refine RA.iald (w := (g (b + 1))) rfl p1 ⟨(nI_cl (by omega)).1, by rw [(nI_cl (by omega)).2]; show b + 1 < 96; omega⟩ (by rw [(nI_cl (by omega)).2]; exact fg _ (by omega)) ?_
    refine RA.steps (i' := 32) (L' := [some (.ref 110), some (.int x1), some (.int x2), some (.int x3), some (.int x4), some (.int 4)]) (st' := [.int x2, .int (g (b + 1))]) (h' := h) 1 rfl ?_
    refine RA.if2F rfl (decide_eq_false (fun z => z c1)) ?_
    refine RA.steps (i' := 34) (L' := [some (.ref 110), some (.int x1), some (.int x2), some (.int x3), some (.int x4), some (.int 4)]) (st' := [.ref 110]) (h' := h) 1 rfl ?_
    refine RA.getf rfl ho rfl f14 ?_
    refine RA.steps (i' := 36) (L' := [some (.ref 110), some (.int x1), some (.int x2), some (.int x3), some (.int x4), some (.int 4)]) (st' := [.ref 110, .ref 124]) (h' := h) 1 rfl ?_
    refine RA.getf rfl ho rfl f16 ?_
    refine RA.steps (i' := 39) (L' := [some (.ref 110), some (.int x1), some (.int x2), some (.int x3), some (.int x4), some (.int 4)]) (st' := [.int ((nI b) + 2), .ref 124]) (h' := h) 2 rfl ?_
    rw [(show nI b + 2 = nI (b + 2) from nI_add b 2)]
    refine RA.iald (w := (g (b + 2))) rfl p1 ⟨(nI_cl (by omega)).1, by rw [(nI_cl (by omega)).2]; show b + 2 < 96; omega⟩ (by rw [(nI_cl (by omega)).2]; exact fg _ (by omega)) ?_
    refine RA.steps (i' := 41) (L' := [some (.ref 110), some (.int x1), some (.int x2), some (.int x3), some (.int x4), some (.int 4)]) (st' := [.int x3, .int (g (b + 2))]) (h' := h) 1 rfl ?_
    refine RA.if2F rfl (decide_eq_false (fun z => z c2)) ?_
    refine RA.steps (i' := 43) (L' := [some (.ref 110), some (.int x1), some (.int x2), some (.int x3), some (.int x4), some (.int 4)]) (st' := [.int x4]) (h' := h) 1 rfl ?_
    refine RA.if1F rfl (decide_eq_false x0) ?_
    refine RA.steps (i' := 45) (L' := [some (.ref 110), some (.int x1), some (.int x2), some (.int x3), some (.int x4), some (.int 4)]) (st' := [.ref 110]) (h' := h) 1 rfl ?_
    refine RA.getf rfl ho rfl f14 ?_
    refine RA.steps (i' := 47) (L' := [some (.ref 110), some (.int x1), some (.int x2), some (.int x3), some (.int x4), some (.int 4)]) (st' := [.ref 110, .ref 124]) (h' := h) 1 rfl ?_
    refine RA.getf rfl ho rfl f16 ?_
    refine RA.steps (i' := 50) (L' := [some (.ref 110), some (.int x1), some (.int x2), some (.int x3), some (.int x4), some (.int 4)]) (st' := [.int ((nI b) + 3), .ref 124]) (h' := h) 2 rfl ?_
    rw [(show nI b + 3 = nI (b + 3) from nI_add b 3)]
    refine RA.iald (w := (g (b + 3))) rfl p1 ⟨(nI_cl (by omega)).1, by rw [(nI_cl (by omega)).2]; show b + 3 < 96; omega⟩ (by rw [(nI_cl (by omega)).2]; exact fg _ (by omega)) ?_
    refine RA.steps (i' := 52) (L' := [some (.ref 110), some (.int x1), some (.int x2), some (.int x3), some (.int x4), some (.int 4)]) (st' := [.int x4, .int (g (b + 3))]) (h' := h) 1 rfl ?_
    refine RA.if2T rfl (decide_eq_true c3) ?_
    refine RA.steps (i' := 56) (L' := [some (.ref 110), some (.int x1), some (.int x2), some (.int x3), some (.int x4), some (.int 4)]) (st' := [.int 0]) (h' := h) 1 rfl ?_
    exact RA.ret rfl rfl
  rw [if_pos ⟨c18, cl, c0, c1, c2, c3⟩]
  refine RA.steps (i' := 1) (L' := [some (.ref 110), some (.int x1), some (.int x2), some (.int x3), some (.int x4), none]) (st' := [.int x4]) (h' := h) 1 rfl ?_
  refine RA.if1T rfl (decide_eq_true x0) ?_
  refine RA.steps (i' := 7) (L' := [some (.ref 110), some (.int x1), some (.int x2), some (.int x3), some (.int x4), some (.int 4)]) (st' := [.ref 110]) (h' := h) 3 rfl ?_
  refine RA.getf rfl ho rfl f18 ?_
  refine RA.steps (i' := 9) (L' := [some (.ref 110), some (.int x1), some (.int x2), some (.int x3), some (.int x4), some (.int 4)]) (st' := [.int 1, .int (ri h 110 18)]) (h' := h) 1 rfl ?_
  refine RA.if2F rfl (decide_eq_false (fun z => z c18)) ?_
  refine RA.steps (i' := 11) (L' := [some (.ref 110), some (.int x1), some (.int x2), some (.int x3), some (.int x4), some (.int 4)]) (st' := [.ref 110]) (h' := h) 1 rfl ?_
  refine RA.getf rfl ho rfl f17 ?_
  refine RA.steps (i' := 13) (L' := [some (.ref 110), some (.int x1), some (.int x2), some (.int x3), some (.int x4), some (.int 4)]) (st' := [.ref 110, .int (nI (wEnd g n b))]) (h' := h) 1 rfl ?_
  refine RA.getf rfl ho rfl f16 ?_
  refine RA.steps (i' := 15) (L' := [some (.ref 110), some (.int x1), some (.int x2), some (.int x3), some (.int x4), some (.int 4)]) (st' := [.int ((nI (wEnd g n b)) - (nI b))]) (h' := h) 1 rfl ?_
  rw [(nIsub el.1 (by omega))]
  refine RA.steps (i' := 16) (L' := [some (.ref 110), some (.int x1), some (.int x2), some (.int x3), some (.int x4), some (.int 4)]) (st' := [.int 4, .int (nI (wEnd g n b - b))]) (h' := h) 1 rfl ?_
  refine RA.if2F rfl (decide_eq_false (fun z => z (show nI (wEnd g n b - b) = nI 4 by rw [cl]))) ?_
  refine RA.steps (i' := 18) (L' := [some (.ref 110), some (.int x1), some (.int x2), some (.int x3), some (.int x4), some (.int 4)]) (st' := [.ref 110]) (h' := h) 1 rfl ?_
  refine RA.getf rfl ho rfl f14 ?_
  refine RA.steps (i' := 20) (L' := [some (.ref 110), some (.int x1), some (.int x2), some (.int x3), some (.int x4), some (.int 4)]) (st' := [.ref 110, .ref 124]) (h' := h) 1 rfl ?_
  refine RA.getf rfl ho rfl f16 ?_
  refine RA.iald (w := (g b)) rfl p1 ⟨(nI_cl (by omega)).1, by rw [(nI_cl (by omega)).2]; show b < 96; omega⟩ (by rw [(nI_cl (by omega)).2]; exact fg _ (by omega)) ?_
  refine RA.steps (i' := 23) (L' := [some (.ref 110), some (.int x1), some (.int x2), some (.int x3), some (.int x4), some (.int 4)]) (st' := [.int x1, .int (g b)]) (h' := h) 1 rfl ?_
  refine RA.if2F rfl (decide_eq_false (fun z => z c0)) ?_
  refine RA.steps (i' := 25) (L' := [some (.ref 110), some (.int x1), some (.int x2), some (.int x3), some (.int x4), some (.int 4)]) (st' := [.ref 110]) (h' := h) 1 rfl ?_
  refine RA.getf rfl ho rfl f14 ?_
  refine RA.steps (i' := 27) (L' := [some (.ref 110), some (.int x1), some (.int x2), some (.int x3), some (.int x4), some (.int 4)]) (st' := [.ref 110, .ref 124]) (h' := h) 1 rfl ?_
  refine RA.getf rfl ho rfl f16 ?_
  refine RA.steps (i' := 30) (L' := [some (.ref 110), some (.int x1), some (.int x2), some (.int x3), some (.int x4), some (.int 4)]) (st' := [.int ((nI b) + 1), .ref 124]) (h' := h) 2 rfl ?_
  rw [(nI_1 b)]
  refine RA.iald (w := (g (b + 1))) rfl p1 ⟨(nI_cl (by omega)).1, by rw [(nI_cl (by omega)).2]; show b + 1 < 96; omega⟩ (by rw [(nI_cl (by omega)).2]; exact fg _ (by omega)) ?_
  refine RA.steps (i' := 32) (L' := [some (.ref 110), some (.int x1), some (.int x2), some (.int x3), some (.int x4), some (.int 4)]) (st' := [.int x2, .int (g (b + 1))]) (h' := h) 1 rfl ?_
  refine RA.if2F rfl (decide_eq_false (fun z => z c1)) ?_
  refine RA.steps (i' := 34) (L' := [some (.ref 110), some (.int x1), some (.int x2), some (.int x3), some (.int x4), some (.int 4)]) (st' := [.ref 110]) (h' := h) 1 rfl ?_
  refine RA.getf rfl ho rfl f14 ?_
  refine RA.steps (i' := 36) (L' := [some (.ref 110), some (.int x1), some (.int x2), some (.int x3), some (.int x4), some (.int 4)]) (st' := [.ref 110, .ref 124]) (h' := h) 1 rfl ?_
  refine RA.getf rfl ho rfl f16 ?_
  refine RA.steps (i' := 39) (L' := [some (.ref 110), some (.int x1), some (.int x2), some (.int x3), some (.int x4), some (.int 4)]) (st' := [.int ((nI b) + 2), .ref 124]) (h' := h) 2 rfl ?_
  rw [(show nI b + 2 = nI (b + 2) from nI_add b 2)]
  refine RA.iald (w := (g (b + 2))) rfl p1 ⟨(nI_cl (by omega)).1, by rw [(nI_cl (by omega)).2]; show b + 2 < 96; omega⟩ (by rw [(nI_cl (by omega)).2]; exact fg _ (by omega)) ?_
  refine RA.steps (i' := 41) (L' := [some (.ref 110), some (.int x1), some (.int x2), some (.int x3), some (.int x4), some (.int 4)]) (st' := [.int x3, .int (g (b + 2))]) (h' := h) 1 rfl ?_
  refine RA.if2F rfl (decide_eq_false (fun z => z c2)) ?_
  refine RA.steps (i' := 43) (L' := [some (.ref 110), some (.int x1), some (.int x2), some (.int x3), some (.int x4), some (.int 4)]) (st' := [.int x4]) (h' := h) 1 rfl ?_
  refine RA.if1F rfl (decide_eq_false x0) ?_
  refine RA.steps (i' := 45) (L' := [some (.ref 110), some (.int x1), some (.int x2), some (.int x3), some (.int x4), some (.int 4)]) (st' := [.ref 110]) (h' := h) 1 rfl ?_
  refine RA.getf rfl ho rfl f14 ?_
  refine RA.steps (i' := 47) (L' := [some (.ref 110), some (.int x1), some (.int x2), some (.int x3), some (.int x4), some (.int 4)]) (st' := [.ref 110, .ref 124]) (h' := h) 1 rfl ?_
  refine RA.getf rfl ho rfl f16 ?_
  refine RA.steps (i' := 50) (L' := [some (.ref 110), some (.int x1), some (.int x2), some (.int x3), some (.int x4), some (.int 4)]) (st' := [.int ((nI b) + 3), .ref 124]) (h' := h) 2 rfl ?_
  rw [(show nI b + 3 = nI (b + 3) from nI_add b 3)]
  refine RA.iald (w := (g (b + 3))) rfl p1 ⟨(nI_cl (by omega)).1, by rw [(nI_cl (by omega)).2]; show b + 3 < 96; omega⟩ (by rw [(nI_cl (by omega)).2]; exact fg _ (by omega)) ?_
  refine RA.steps (i' := 52) (L' := [some (.ref 110), some (.int x1), some (.int x2), some (.int x3), some (.int x4), some (.int 4)]) (st' := [.int x4, .int (g (b + 3))]) (h' := h) 1 rfl ?_
  refine RA.if2F rfl (decide_eq_false (fun z => z c3)) ?_
  refine RA.steps (i' := 56) (L' := [some (.ref 110), some (.int x1), some (.int x2), some (.int x3), some (.int x4), some (.int 4)]) (st' := [.int 1]) (h' := h) 2 rfl ?_
  exact RA.ret rfl rfl
theorem iw_3 {x1 x2 x3 : Int32} (hh : HI HT h) (t : TS g n b gl st h) : Run prog E pV1 (d + 1) mX8_isWordAt [.ref 110, .int x1, .int x2, .int x3, .int 0] h (some (.int (if ri h 110 18 = 1 ∧ wEnd g n b - b = 3 ∧ g b = x1 ∧ g (b + 1) = x2 ∧ g (b + 2) = x3 then 1 else 0)), h, 0, 0) := by
  obtain ⟨⟨t1, a1, a2⟩, ⟨t2, t3, t4⟩, -⟩ := t
  have el := wEnd_le (g := g) a2
  obtain ⟨fs, ho, hF⟩ := hi_obj hh HTm
  have f14 : fs[14]? = some (.ref 124) := hF.ref (a := 124) rfl
  have f16 : fs[16]? = some (.int (nI b)) := by rw [← t3]; exact fld_at ho (m_fld hh (i := 16) (lo := 0) (hi := 96) rfl).1
  have f17 : fs[17]? = some (.int (nI (wEnd g n b))) := by rw [← t4]; exact fld_at ho (m_fld hh (i := 17) (lo := 0) (hi := 96) rfl).1
  have f18 : fs[18]? = some (.int (ri h 110 18)) := fld_at ho (m_fld hh (i := 18) (lo := 0) (hi := 4) rfl).1
  obtain ⟨f, p1, u1, -⟩ := hi_int (a := 124) (n := 96) (sg := [(0, 95, 0, 255)]) hh rfl
  have fg : ∀ j : Nat, j < 96 → f j = g j := fun j hj => by rw [← u1 j hj]; exact t1 j hj
  refine ⟨Nat.le_of_ble_eq_true rfl, ⟨_, _, rfl⟩, ?_⟩
  show RA prog E pV1 (d + 1) mX8_isWordAt 0 [some (.ref 110), some (.int x1), some (.int x2), some (.int x3), some (.int 0), none] [] h (some (.int (if ri h 110 18 = 1 ∧ wEnd g n b - b = 3 ∧ g b = x1 ∧ g (b + 1) = x2 ∧ g (b + 2) = x3 then 1 else 0)), h, 0, 0)
  by_cases c18 : ri h 110 18 = 1
  rotate_left
  · rw [if_neg (fun z => c18 z.1)]
    refine RA.steps (i' := 1) (L' := [some (.ref 110), some (.int x1), some (.int x2), some (.int x3), some (.int 0), none]) (st' := [.int 0]) (h' := h) 1 rfl ?_
    refine RA.if1F rfl rfl ?_
    refine RA.steps (i' := 7) (L' := [some (.ref 110), some (.int x1), some (.int x2), some (.int x3), some (.int 0), some (.int 3)]) (st' := [.ref 110]) (h' := h) 4 rfl ?_
    refine RA.getf rfl ho rfl f18 ?_
    refine RA.steps (i' := 9) (L' := [some (.ref 110), some (.int x1), some (.int x2), some (.int x3), some (.int 0), some (.int 3)]) (st' := [.int 1, .int (ri h 110 18)]) (h' := h) 1 rfl ?_
    refine RA.if2T rfl (decide_eq_true c18) ?_
    refine RA.steps (i' := 56) (L' := [some (.ref 110), some (.int x1), some (.int x2), some (.int x3), some (.int 0), some (.int 3)]) (st' := [.int 0]) (h' := h) 1 rfl ?_
    exact RA.ret rfl rfl
  by_cases cl : wEnd g n b - b = 3
  rotate_left
  · rw [if_neg (fun z => cl z.2.1)]
    refine RA.steps (i' := 1) (L' := [some (.ref 110), some (.int x1), some (.int x2), some (.int x3), some (.int 0), none]) (st' := [.int 0]) (h' := h) 1 rfl ?_
    refine RA.if1F rfl rfl ?_
    refine RA.steps (i' := 7) (L' := [some (.ref 110), some (.int x1), some (.int x2), some (.int x3), some (.int 0), some (.int 3)]) (st' := [.ref 110]) (h' := h) 4 rfl ?_
    refine RA.getf rfl ho rfl f18 ?_
    refine RA.steps (i' := 9) (L' := [some (.ref 110), some (.int x1), some (.int x2), some (.int x3), some (.int 0), some (.int 3)]) (st' := [.int 1, .int (ri h 110 18)]) (h' := h) 1 rfl ?_
    refine RA.if2F rfl (decide_eq_false (fun z => z c18)) ?_
    refine RA.steps (i' := 11) (L' := [some (.ref 110), some (.int x1), some (.int x2), some (.int x3), some (.int 0), some (.int 3)]) (st' := [.ref 110]) (h' := h) 1 rfl ?_
    refine RA.getf rfl ho rfl f17 ?_
    refine RA.steps (i' := 13) (L' := [some (.ref 110), some (.int x1), some (.int x2), some (.int x3), some (.int 0), some (.int 3)]) (st' := [.ref 110, .int (nI (wEnd g n b))]) (h' := h) 1 rfl ?_
    refine RA.getf rfl ho rfl f16 ?_
    refine RA.steps (i' := 15) (L' := [some (.ref 110), some (.int x1), some (.int x2), some (.int x3), some (.int 0), some (.int 3)]) (st' := [.int ((nI (wEnd g n b)) - (nI b))]) (h' := h) 1 rfl ?_
    rw [(nIsub el.1 (by omega))]
    refine RA.steps (i' := 16) (L' := [some (.ref 110), some (.int x1), some (.int x2), some (.int x3), some (.int 0), some (.int 3)]) (st' := [.int 3, .int (nI (wEnd g n b - b))]) (h' := h) 1 rfl ?_
    refine RA.if2T rfl (decide_eq_true (fun z => cl ((nI_eq (by omega) (by decide)).mp (show nI (wEnd g n b - b) = nI 3 from z)))) ?_
    refine RA.steps (i' := 56) (L' := [some (.ref 110), some (.int x1), some (.int x2), some (.int x3), some (.int 0), some (.int 3)]) (st' := [.int 0]) (h' := h) 1 rfl ?_
    exact RA.ret rfl rfl
  by_cases c0 : g b = x1
  rotate_left
  · rw [if_neg (fun z => c0 z.2.2.1)]
    refine RA.steps (i' := 1) (L' := [some (.ref 110), some (.int x1), some (.int x2), some (.int x3), some (.int 0), none]) (st' := [.int 0]) (h' := h) 1 rfl ?_
    refine RA.if1F rfl rfl ?_
    refine RA.steps (i' := 7) (L' := [some (.ref 110), some (.int x1), some (.int x2), some (.int x3), some (.int 0), some (.int 3)]) (st' := [.ref 110]) (h' := h) 4 rfl ?_
    refine RA.getf rfl ho rfl f18 ?_
    refine RA.steps (i' := 9) (L' := [some (.ref 110), some (.int x1), some (.int x2), some (.int x3), some (.int 0), some (.int 3)]) (st' := [.int 1, .int (ri h 110 18)]) (h' := h) 1 rfl ?_
    refine RA.if2F rfl (decide_eq_false (fun z => z c18)) ?_
    refine RA.steps (i' := 11) (L' := [some (.ref 110), some (.int x1), some (.int x2), some (.int x3), some (.int 0), some (.int 3)]) (st' := [.ref 110]) (h' := h) 1 rfl ?_
    refine RA.getf rfl ho rfl f17 ?_
    refine RA.steps (i' := 13) (L' := [some (.ref 110), some (.int x1), some (.int x2), some (.int x3), some (.int 0), some (.int 3)]) (st' := [.ref 110, .int (nI (wEnd g n b))]) (h' := h) 1 rfl ?_
    refine RA.getf rfl ho rfl f16 ?_
    refine RA.steps (i' := 15) (L' := [some (.ref 110), some (.int x1), some (.int x2), some (.int x3), some (.int 0), some (.int 3)]) (st' := [.int ((nI (wEnd g n b)) - (nI b))]) (h' := h) 1 rfl ?_
    rw [(nIsub el.1 (by omega))]
    refine RA.steps (i' := 16) (L' := [some (.ref 110), some (.int x1), some (.int x2), some (.int x3), some (.int 0), some (.int 3)]) (st' := [.int 3, .int (nI (wEnd g n b - b))]) (h' := h) 1 rfl ?_
    refine RA.if2F rfl (decide_eq_false (fun z => z (show nI (wEnd g n b - b) = nI 3 by rw [cl]))) ?_
    refine RA.steps (i' := 18) (L' := [some (.ref 110), some (.int x1), some (.int x2), some (.int x3), some (.int 0), some (.int 3)]) (st' := [.ref 110]) (h' := h) 1 rfl ?_
    refine RA.getf rfl ho rfl f14 ?_
    refine RA.steps (i' := 20) (L' := [some (.ref 110), some (.int x1), some (.int x2), some (.int x3), some (.int 0), some (.int 3)]) (st' := [.ref 110, .ref 124]) (h' := h) 1 rfl ?_
    refine RA.getf rfl ho rfl f16 ?_
    refine RA.iald (w := (g b)) rfl p1 ⟨(nI_cl (by omega)).1, by rw [(nI_cl (by omega)).2]; show b < 96; omega⟩ (by rw [(nI_cl (by omega)).2]; exact fg _ (by omega)) ?_
    refine RA.steps (i' := 23) (L' := [some (.ref 110), some (.int x1), some (.int x2), some (.int x3), some (.int 0), some (.int 3)]) (st' := [.int x1, .int (g b)]) (h' := h) 1 rfl ?_
    refine RA.if2T rfl (decide_eq_true c0) ?_
    refine RA.steps (i' := 56) (L' := [some (.ref 110), some (.int x1), some (.int x2), some (.int x3), some (.int 0), some (.int 3)]) (st' := [.int 0]) (h' := h) 1 rfl ?_
    exact RA.ret rfl rfl
  by_cases c1 : g (b + 1) = x2
  rotate_left
  · rw [if_neg (fun z => c1 z.2.2.2.1)]
    refine RA.steps (i' := 1) (L' := [some (.ref 110), some (.int x1), some (.int x2), some (.int x3), some (.int 0), none]) (st' := [.int 0]) (h' := h) 1 rfl ?_
    refine RA.if1F rfl rfl ?_
    refine RA.steps (i' := 7) (L' := [some (.ref 110), some (.int x1), some (.int x2), some (.int x3), some (.int 0), some (.int 3)]) (st' := [.ref 110]) (h' := h) 4 rfl ?_
    refine RA.getf rfl ho rfl f18 ?_
    refine RA.steps (i' := 9) (L' := [some (.ref 110), some (.int x1), some (.int x2), some (.int x3), some (.int 0), some (.int 3)]) (st' := [.int 1, .int (ri h 110 18)]) (h' := h) 1 rfl ?_
    refine RA.if2F rfl (decide_eq_false (fun z => z c18)) ?_
    refine RA.steps (i' := 11) (L' := [some (.ref 110), some (.int x1), some (.int x2), some (.int x3), some (.int 0), some (.int 3)]) (st' := [.ref 110]) (h' := h) 1 rfl ?_
    refine RA.getf rfl ho rfl f17 ?_
    refine RA.steps (i' := 13) (L' := [some (.ref 110), some (.int x1), some (.int x2), some (.int x3), some (.int 0), some (.int 3)]) (st' := [.ref 110, .int (nI (wEnd g n b))]) (h' := h) 1 rfl ?_
    refine RA.getf rfl ho rfl f16 ?_
    refine RA.steps (i' := 15) (L' := [some (.ref 110), some (.int x1), some (.int x2), some (.int x3), some (.int 0), some (.int 3)]) (st' := [.int ((nI (wEnd g n b)) - (nI b))]) (h' := h) 1 rfl ?_
    rw [(nIsub el.1 (by omega))]
    refine RA.steps (i' := 16) (L' := [some (.ref 110), some (.int x1), some (.int x2), some (.int x3), some (.int 0), some (.int 3)]) (st' := [.int 3, .int (nI (wEnd g n b - b))]) (h' := h) 1 rfl ?_
    refine RA.if2F rfl (decide_eq_false (fun z => z (show nI (wEnd g n b - b) = nI 3 by rw [cl]))) ?_
    refine RA.steps (i' := 18) (L' := [some (.ref 110), some (.int x1), some (.int x2), some (.int x3), some (.int 0), some (.int 3)]) (st' := [.ref 110]) (h' := h) 1 rfl ?_
    refine RA.getf rfl ho rfl f14 ?_
    refine RA.steps (i' := 20) (L' := [some (.ref 110), some (.int x1), some (.int x2), some (.int x3), some (.int 0), some (.int 3)]) (st' := [.ref 110, .ref 124]) (h' := h) 1 rfl ?_
    refine RA.getf rfl ho rfl f16 ?_
    refine RA.iald (w := (g b)) rfl p1 ⟨(nI_cl (by omega)).1, by rw [(nI_cl (by omega)).2]; show b < 96; omega⟩ (by rw [(nI_cl (by omega)).2]; exact fg _ (by omega)) ?_
    refine RA.steps (i' := 23) (L' := [some (.ref 110), some (.int x1), some (.int x2), some (.int x3), some (.int 0), some (.int 3)]) (st' := [.int x1, .int (g b)]) (h' := h) 1 rfl ?_
    refine RA.if2F rfl (decide_eq_false (fun z => z c0)) ?_
    refine RA.steps (i' := 25) (L' := [some (.ref 110), some (.int x1), some (.int x2), some (.int x3), some (.int 0), some (.int 3)]) (st' := [.ref 110]) (h' := h) 1 rfl ?_
    refine RA.getf rfl ho rfl f14 ?_
    refine RA.steps (i' := 27) (L' := [some (.ref 110), some (.int x1), some (.int x2), some (.int x3), some (.int 0), some (.int 3)]) (st' := [.ref 110, .ref 124]) (h' := h) 1 rfl ?_
    refine RA.getf rfl ho rfl f16 ?_
    refine RA.steps (i' := 30) (L' := [some (.ref 110), some (.int x1), some (.int x2), some (.int x3), some (.int 0), some (.int 3)]) (st' := [.int ((nI b) + 1), .ref 124]) (h' := h) 2 rfl ?_
    rw [(nI_1 b)]
    refine RA.iald (w := (g (b + 1))) rfl p1 ⟨(nI_cl (by omega)).1, by rw [(nI_cl (by omega)).2]; show b + 1 < 96; omega⟩ (by rw [(nI_cl (by omega)).2]; exact fg _ (by omega)) ?_
    refine RA.steps (i' := 32) (L' := [some (.ref 110), some (.int x1), some (.int x2), some (.int x3), some (.int 0), some (.int 3)]) (st' := [.int x2, .int (g (b + 1))]) (h' := h) 1 rfl ?_
    refine RA.if2T rfl (decide_eq_true c1) ?_
    refine RA.steps (i' := 56) (L' := [some (.ref 110), some (.int x1), some (.int x2), some (.int x3), some (.int 0), some (.int 3)]) (st' := [.int 0]) (h' := h) 1 rfl ?_
    exact RA.ret rfl rfl
  by_cases c2 : g (b + 2) = x3
  rotate_left
  · rw [if_neg (fun z => c2 z.2.2.2.2)]
    refine RA.steps (i' := 1) (L' := [some (.ref 110), some (.int x1), some (.int x2), some (.int x3), some (.int 0), none]) (st' := [.int 0]) (h' := h) 1 rfl ?_
    refine RA.if1F rfl rfl ?_
    refine RA.steps (i' := 7) (L' := [some (.ref 110), some (.int x1), some (.int x2), some (.int x3), some (.int 0), some (.int 3)]) (st' := [.ref 110]) (h' := h) 4 rfl ?_
    refine RA.getf rfl ho rfl f18 ?_
    refine RA.steps (i' := 9) (L' := [some (.ref 110), some (.int x1), some (.int x2), some (.int x3), some (.int 0), some (.int 3)]) (st' := [.int 1, .int (ri h 110 18)]) (h' := h) 1 rfl ?_
    refine RA.if2F rfl (decide_eq_false (fun z => z c18)) ?_
    refine RA.steps (i' := 11) (L' := [some (.ref 110), some (.int x1), some (.int x2), some (.int x3), some (.int 0), some (.int 3)]) (st' := [.ref 110]) (h' := h) 1 rfl ?_
    refine RA.getf rfl ho rfl f17 ?_
    refine RA.steps (i' := 13) (L' := [some (.ref 110), some (.int x1), some (.int x2), some (.int x3), some (.int 0), some (.int 3)]) (st' := [.ref 110, .int (nI (wEnd g n b))]) (h' := h) 1 rfl ?_
    refine RA.getf rfl ho rfl f16 ?_
    refine RA.steps (i' := 15) (L' := [some (.ref 110), some (.int x1), some (.int x2), some (.int x3), some (.int 0), some (.int 3)]) (st' := [.int ((nI (wEnd g n b)) - (nI b))]) (h' := h) 1 rfl ?_
    rw [(nIsub el.1 (by omega))]
    refine RA.steps (i' := 16) (L' := [some (.ref 110), some (.int x1), some (.int x2), some (.int x3), some (.int 0), some (.int 3)]) (st' := [.int 3, .int (nI (wEnd g n b - b))]) (h' := h) 1 rfl ?_
    refine RA.if2F rfl (decide_eq_false (fun z => z (show nI (wEnd g n b - b) = nI 3 by rw [cl]))) ?_
    refine RA.steps (i' := 18) (L' := [some (.ref 110), some (.int x1), some (.int x2), some (.int x3), some (.int 0), some (.int 3)]) (st' := [.ref 110]) (h' := h) 1 rfl ?_
    refine RA.getf rfl ho rfl f14 ?_
    refine RA.steps (i' := 20) (L' := [some (.ref 110), some (.int x1), some (.int x2), some (.int x3), some (.int 0), some (.int 3)]) (st' := [.ref 110, .ref 124]) (h' := h) 1 rfl ?_
    refine RA.getf rfl ho rfl f16 ?_
    refine RA.iald (w := (g b)) rfl p1 ⟨(nI_cl (by omega)).1, by rw [(nI_cl (by omega)).2]; show b < 96; omega⟩ (by rw [(nI_cl (by omega)).2]; exact fg _ (by omega)) ?_
    refine RA.steps (i' := 23) (L' := [some (.ref 110), some (.int x1), some (.int x2), some (.int x3), some (.int 0), some (.int 3)]) (st' := [.int x1, .int (g b)]) (h' := h) 1 rfl ?_
    refine RA.if2F rfl (decide_eq_false (fun z => z c0)) ?_
    refine RA.steps (i' := 25) (L' := [some (.ref 110), some (.int x1), some (.int x2), some (.int x3), some (.int 0), some (.int 3)]) (st' := [.ref 110]) (h' := h) 1 rfl ?_
    refine RA.getf rfl ho rfl f14 ?_
    refine RA.steps (i' := 27) (L' := [some (.ref 110), some (.int x1), some (.int x2), some (.int x3), some (.int 0), some (.int 3)]) (st' := [.ref 110, .ref 124]) (h' := h) 1 rfl ?_
    refine RA.getf rfl ho rfl f16 ?_
    refine RA.steps (i' := 30) (L' := [some (.ref 110), some (.int x1), some (.int x2), some (.int x3), some (.int 0), some (.int 3)]) (st' := [.int ((nI b) + 1), .ref 124]) (h' := h) 2 rfl ?_
    rw [(nI_1 b)]
    refine RA.iald (w := (g (b + 1))) rfl p1 ⟨(nI_cl (by omega)).1, by rw [(nI_cl (by omega)).2]; show b + 1 < 96; omega⟩ (by rw [(nI_cl (by omega)).2]; exact fg _ (by omega)) ?_
    refine RA.steps (i' := 32) (L' := [some (.ref 110), some (.int x1), some (.int x2), some (.int x3), some (.int 0), some (.int 3)]) (st' := [.int x2, .int (g (b + 1))]) (h' := h) 1 rfl ?_
    refine RA.if2F rfl (decide_eq_false (fun z => z c1)) ?_
    refine RA.steps (i' := 34) (L' := [some (.ref 110), some (.int x1), some (.int x2), some (.int x3), some (.int 0), some (.int 3)]) (st' := [.ref 110]) (h' := h) 1 rfl ?_
    refine RA.getf rfl ho rfl f14 ?_
    refine RA.steps (i' := 36) (L' := [some (.ref 110), some (.int x1), some (.int x2), some (.int x3), some (.int 0), some (.int 3)]) (st' := [.ref 110, .ref 124]) (h' := h) 1 rfl ?_
    refine RA.getf rfl ho rfl f16 ?_
    refine RA.steps (i' := 39) (L' := [some (.ref 110), some (.int x1), some (.int x2), some (.int x3), some (.int 0), some (.int 3)]) (st' := [.int ((nI b) + 2), .ref 124]) (h' := h) 2 rfl ?_
    rw [(show nI b + 2 = nI (b + 2) from nI_add b 2)]
    refine RA.iald (w := (g (b + 2))) rfl p1 ⟨(nI_cl (by omega)).1, by rw [(nI_cl (by omega)).2]; show b + 2 < 96; omega⟩ (by rw [(nI_cl (by omega)).2]; exact fg _ (by omega)) ?_
    refine RA.steps (i' := 41) (L' := [some (.ref 110), some (.int x1), some (.int x2), some (.int x3), some (.int 0), some (.int 3)]) (st' := [.int x3, .int (g (b + 2))]) (h' := h) 1 rfl ?_
    refine RA.if2T rfl (decide_eq_true c2) ?_
    refine RA.steps (i' := 56) (L' := [some (.ref 110), some (.int x1), some (.int x2), some (.int x3), some (.int 0), some (.int 3)]) (st' := [.int 0]) (h' := h) 1 rfl ?_
    exact RA.ret rfl rfl
  rw [if_pos ⟨c18, cl, c0, c1, c2⟩]
  refine RA.steps (i' := 1) (L' := [some (.ref 110), some (.int x1), some (.int x2), some (.int x3), some (.int 0), none]) (st' := [.int 0]) (h' := h) 1 rfl ?_
  refine RA.if1F rfl rfl ?_
  refine RA.steps (i' := 7) (L' := [some (.ref 110), some (.int x1), some (.int x2), some (.int x3), some (.int 0), some (.int 3)]) (st' := [.ref 110]) (h' := h) 4 rfl ?_
  refine RA.getf rfl ho rfl f18 ?_
  refine RA.steps (i' := 9) (L' := [some (.ref 110), some (.int x1), some (.int x2), some (.int x3), some (.int 0), some (.int 3)]) (st' := [.int 1, .int (ri h 110 18)]) (h' := h) 1 rfl ?_
  refine RA.if2F rfl (decide_eq_false (fun z => z c18)) ?_
  refine RA.steps (i' := 11) (L' := [some (.ref 110), some (.int x1), some (.int x2), some (.int x3), some (.int 0), some (.int 3)]) (st' := [.ref 110]) (h' := h) 1 rfl ?_
  refine RA.getf rfl ho rfl f17 ?_
  refine RA.steps (i' := 13) (L' := [some (.ref 110), some (.int x1), some (.int x2), some (.int x3), some (.int 0), some (.int 3)]) (st' := [.ref 110, .int (nI (wEnd g n b))]) (h' := h) 1 rfl ?_
  refine RA.getf rfl ho rfl f16 ?_
  refine RA.steps (i' := 15) (L' := [some (.ref 110), some (.int x1), some (.int x2), some (.int x3), some (.int 0), some (.int 3)]) (st' := [.int ((nI (wEnd g n b)) - (nI b))]) (h' := h) 1 rfl ?_
  rw [(nIsub el.1 (by omega))]
  refine RA.steps (i' := 16) (L' := [some (.ref 110), some (.int x1), some (.int x2), some (.int x3), some (.int 0), some (.int 3)]) (st' := [.int 3, .int (nI (wEnd g n b - b))]) (h' := h) 1 rfl ?_
  refine RA.if2F rfl (decide_eq_false (fun z => z (show nI (wEnd g n b - b) = nI 3 by rw [cl]))) ?_
  refine RA.steps (i' := 18) (L' := [some (.ref 110), some (.int x1), some (.int x2), some (.int x3), some (.int 0), some (.int 3)]) (st' := [.ref 110]) (h' := h) 1 rfl ?_
  refine RA.getf rfl ho rfl f14 ?_
  refine RA.steps (i' := 20) (L' := [some (.ref 110), some (.int x1), some (.int x2), some (.int x3), some (.int 0), some (.int 3)]) (st' := [.ref 110, .ref 124]) (h' := h) 1 rfl ?_
  refine RA.getf rfl ho rfl f16 ?_
  refine RA.iald (w := (g b)) rfl p1 ⟨(nI_cl (by omega)).1, by rw [(nI_cl (by omega)).2]; show b < 96; omega⟩ (by rw [(nI_cl (by omega)).2]; exact fg _ (by omega)) ?_
  refine RA.steps (i' := 23) (L' := [some (.ref 110), some (.int x1), some (.int x2), some (.int x3), some (.int 0), some (.int 3)]) (st' := [.int x1, .int (g b)]) (h' := h) 1 rfl ?_
  refine RA.if2F rfl (decide_eq_false (fun z => z c0)) ?_
  refine RA.steps (i' := 25) (L' := [some (.ref 110), some (.int x1), some (.int x2), some (.int x3), some (.int 0), some (.int 3)]) (st' := [.ref 110]) (h' := h) 1 rfl ?_
  refine RA.getf rfl ho rfl f14 ?_
  refine RA.steps (i' := 27) (L' := [some (.ref 110), some (.int x1), some (.int x2), some (.int x3), some (.int 0), some (.int 3)]) (st' := [.ref 110, .ref 124]) (h' := h) 1 rfl ?_
  refine RA.getf rfl ho rfl f16 ?_
  refine RA.steps (i' := 30) (L' := [some (.ref 110), some (.int x1), some (.int x2), some (.int x3), some (.int 0), some (.int 3)]) (st' := [.int ((nI b) + 1), .ref 124]) (h' := h) 2 rfl ?_
  rw [(nI_1 b)]
  refine RA.iald (w := (g (b + 1))) rfl p1 ⟨(nI_cl (by omega)).1, by rw [(nI_cl (by omega)).2]; show b + 1 < 96; omega⟩ (by rw [(nI_cl (by omega)).2]; exact fg _ (by omega)) ?_
  refine RA.steps (i' := 32) (L' := [some (.ref 110), some (.int x1), some (.int x2), some (.int x3), some (.int 0), some (.int 3)]) (st' := [.int x2, .int (g (b + 1))]) (h' := h) 1 rfl ?_
  refine RA.if2F rfl (decide_eq_false (fun z => z c1)) ?_
  refine RA.steps (i' := 34) (L' := [some (.ref 110), some (.int x1), some (.int x2), some (.int x3), some (.int 0), some (.int 3)]) (st' := [.ref 110]) (h' := h) 1 rfl ?_
  refine RA.getf rfl ho rfl f14 ?_
  refine RA.steps (i' := 36) (L' := [some (.ref 110), some (.int x1), some (.int x2), some (.int x3), some (.int 0), some (.int 3)]) (st' := [.ref 110, .ref 124]) (h' := h) 1 rfl ?_
  refine RA.getf rfl ho rfl f16 ?_
  refine RA.steps (i' := 39) (L' := [some (.ref 110), some (.int x1), some (.int x2), some (.int x3), some (.int 0), some (.int 3)]) (st' := [.int ((nI b) + 2), .ref 124]) (h' := h) 2 rfl ?_
  rw [(show nI b + 2 = nI (b + 2) from nI_add b 2)]
  refine RA.iald (w := (g (b + 2))) rfl p1 ⟨(nI_cl (by omega)).1, by rw [(nI_cl (by omega)).2]; show b + 2 < 96; omega⟩ (by rw [(nI_cl (by omega)).2]; exact fg _ (by omega)) ?_
  refine RA.steps (i' := 41) (L' := [some (.ref 110), some (.int x1), some (.int x2), some (.int x3), some (.int 0), some (.int 3)]) (st' := [.int x3, .int (g (b + 2))]) (h' := h) 1 rfl ?_
  refine RA.if2F rfl (decide_eq_false (fun z => z c2)) ?_
  refine RA.steps (i' := 43) (L' := [some (.ref 110), some (.int x1), some (.int x2), some (.int x3), some (.int 0), some (.int 3)]) (st' := [.int 0]) (h' := h) 1 rfl ?_
  refine RA.if1T rfl rfl ?_
  refine RA.steps (i' := 56) (L' := [some (.ref 110), some (.int x1), some (.int x2), some (.int x3), some (.int 0), some (.int 3)]) (st' := [.int 1]) (h' := h) 2 rfl ?_
  exact RA.ret rfl rfl
/-- what the first word says: 0 gain, 1 fee, 2 fine, -1 none of them -/
def keyV (g : Nat → Int32) (b p : Nat) : Int32 := if p - b = 4 ∧ g b = 103 ∧ g (b + 1) = 97 ∧ g (b + 2) = 105 ∧ g (b + 3) = 110 then 0 else if p - b = 3 ∧ g b = 102 ∧ g (b + 1) = 101 ∧ g (b + 2) = 101 then 1 else if p - b = 4 ∧ g b = 102 ∧ g (b + 1) = 105 ∧ g (b + 2) = 110 ∧ g (b + 3) = 101 then 2 else -1
theorem keyV_i (g : Nat → Int32) (b p : Nat) : keyV g b p = -1 ∨ (keyV g b p = 0 ∨ keyV g b p = 1 ∨ keyV g b p = 2) ∧ 3 ≤ p - b := by
  unfold keyV
  split
  · rename_i q
    exact Or.inr ⟨Or.inl rfl, by omega⟩
  · split
    · rename_i q
      exact Or.inr ⟨Or.inr (Or.inl rfl), by omega⟩
    · split
      · rename_i q
        exact Or.inr ⟨Or.inr (Or.inr rfl), by omega⟩
      · exact Or.inl rfl
theorem w18 {c : Int32} (t : TS g n b gl st h) (hg : gl = 0) (hl : 0 < wEnd g n b - b) (hc : g b = c) (hL : bL c) : ri h 110 18 = 1 := by
  have hb : b < n := by
    have el := wEnd_le (g := g) t.1.2.2
    omega
  rw [t.2.2.1, kd_1 hb (by rw [hc]; exact hL), tkc_1, if_pos hg]
theorem key_v (hh : HI HT h) (hg : gl = 0) (t : TS g n b gl st h) : Run prog E pV1 (d + 2) mX8_key [.ref 110] h (some (.int (keyV g b (wEnd g n b))), h, 0, 0) := by
  obtain ⟨fs, ho, -⟩ := hi_obj hh HTm
  have q0 := iw_4 (E := E) (d := d) (x1 := 103) (x2 := 97) (x3 := 105) (x4 := 110) (by decide) hh t
  have q1 := iw_3 (E := E) (d := d) (x1 := 102) (x2 := 101) (x3 := 101) hh t
  have q2 := iw_4 (E := E) (d := d) (x1 := 102) (x2 := 105) (x3 := 110) (x4 := 101) (by decide) hh t
  refine ⟨Nat.le_of_ble_eq_true rfl, ⟨_, _, rfl⟩, ?_⟩
  show RA prog E pV1 (d + 2) mX8_key 0 [some (.ref 110)] [] h (some (.int (keyV g b (wEnd g n b))), h, 0, 0)
  unfold keyV
  by_cases c0 : wEnd g n b - b = 4 ∧ g b = 103 ∧ g (b + 1) = 97 ∧ g (b + 2) = 105 ∧ g (b + 3) = 110
  · rw [if_pos c0]
    rw [if_pos ⟨w18 t hg (by omega) c0.2.1 ⟨by decide, by decide⟩, c0⟩] at q0
    refine RA.steps (i' := 5) (L' := [some (.ref 110)]) (st' := [.int 110, .int 105, .int 97, .int 103, .ref 110]) (h' := h) 5 rfl ?_
    refine RA.call0 (N := mX8_isWordAt) (as := [.ref 110, .int 103, .int 97, .int 105, .int 110]) (rest := []) rfl rfl (pcallV rfl rfl ho rfl rfl (Nat.le_of_ble_eq_true rfl)) q0 ?_
    refine RA.if1F rfl rfl ?_
    refine RA.steps (i' := 8) (L' := [some (.ref 110)]) (st' := [.int 0]) (h' := h) 1 rfl ?_
    exact RA.ret rfl rfl
  rw [if_neg c0]
  rw [if_neg (fun z => c0 z.2)] at q0
  by_cases c1 : wEnd g n b - b = 3 ∧ g b = 102 ∧ g (b + 1) = 101 ∧ g (b + 2) = 101
  · rw [if_pos c1]
    rw [if_pos ⟨w18 t hg (by omega) c1.2.1 ⟨by decide, by decide⟩, c1⟩] at q1
    refine RA.steps (i' := 5) (L' := [some (.ref 110)]) (st' := [.int 110, .int 105, .int 97, .int 103, .ref 110]) (h' := h) 5 rfl ?_
    refine RA.call0 (N := mX8_isWordAt) (as := [.ref 110, .int 103, .int 97, .int 105, .int 110]) (rest := []) rfl rfl (pcallV rfl rfl ho rfl rfl (Nat.le_of_ble_eq_true rfl)) q0 ?_
    refine RA.if1T rfl rfl ?_
    refine RA.steps (i' := 14) (L' := [some (.ref 110)]) (st' := [.int 0, .int 101, .int 101, .int 102, .ref 110]) (h' := h) 5 rfl ?_
    refine RA.call0 (N := mX8_isWordAt) (as := [.ref 110, .int 102, .int 101, .int 101, .int 0]) (rest := []) rfl rfl (pcallV rfl rfl ho rfl rfl (Nat.le_of_ble_eq_true rfl)) q1 ?_
    refine RA.if1F rfl rfl ?_
    refine RA.steps (i' := 17) (L' := [some (.ref 110)]) (st' := [.int 1]) (h' := h) 1 rfl ?_
    exact RA.ret rfl rfl
  rw [if_neg c1]
  rw [if_neg (fun z => c1 z.2)] at q1
  by_cases c2 : wEnd g n b - b = 4 ∧ g b = 102 ∧ g (b + 1) = 105 ∧ g (b + 2) = 110 ∧ g (b + 3) = 101
  · rw [if_pos c2]
    rw [if_pos ⟨w18 t hg (by omega) c2.2.1 ⟨by decide, by decide⟩, c2⟩] at q2
    refine RA.steps (i' := 5) (L' := [some (.ref 110)]) (st' := [.int 110, .int 105, .int 97, .int 103, .ref 110]) (h' := h) 5 rfl ?_
    refine RA.call0 (N := mX8_isWordAt) (as := [.ref 110, .int 103, .int 97, .int 105, .int 110]) (rest := []) rfl rfl (pcallV rfl rfl ho rfl rfl (Nat.le_of_ble_eq_true rfl)) q0 ?_
    refine RA.if1T rfl rfl ?_
    refine RA.steps (i' := 14) (L' := [some (.ref 110)]) (st' := [.int 0, .int 101, .int 101, .int 102, .ref 110]) (h' := h) 5 rfl ?_
    refine RA.call0 (N := mX8_isWordAt) (as := [.ref 110, .int 102, .int 101, .int 101, .int 0]) (rest := []) rfl rfl (pcallV rfl rfl ho rfl rfl (Nat.le_of_ble_eq_true rfl)) q1 ?_
    refine RA.if1T rfl rfl ?_
    refine RA.steps (i' := 23) (L' := [some (.ref 110)]) (st' := [.int 101, .int 110, .int 105, .int 102, .ref 110]) (h' := h) 5 rfl ?_
    refine RA.call0 (N := mX8_isWordAt) (as := [.ref 110, .int 102, .int 105, .int 110, .int 101]) (rest := []) rfl rfl (pcallV rfl rfl ho rfl rfl (Nat.le_of_ble_eq_true rfl)) q2 ?_
    refine RA.if1F rfl rfl ?_
    refine RA.steps (i' := 28) (L' := [some (.ref 110)]) (st' := [.int 2]) (h' := h) 2 rfl ?_
    exact RA.ret rfl rfl
  · rw [if_neg c2]
    rw [if_neg (fun z => c2 z.2)] at q2
    refine RA.steps (i' := 5) (L' := [some (.ref 110)]) (st' := [.int 110, .int 105, .int 97, .int 103, .ref 110]) (h' := h) 5 rfl ?_
    refine RA.call0 (N := mX8_isWordAt) (as := [.ref 110, .int 103, .int 97, .int 105, .int 110]) (rest := []) rfl rfl (pcallV rfl rfl ho rfl rfl (Nat.le_of_ble_eq_true rfl)) q0 ?_
    refine RA.if1T rfl rfl ?_
    refine RA.steps (i' := 14) (L' := [some (.ref 110)]) (st' := [.int 0, .int 101, .int 101, .int 102, .ref 110]) (h' := h) 5 rfl ?_
    refine RA.call0 (N := mX8_isWordAt) (as := [.ref 110, .int 102, .int 101, .int 101, .int 0]) (rest := []) rfl rfl (pcallV rfl rfl ho rfl rfl (Nat.le_of_ble_eq_true rfl)) q1 ?_
    refine RA.if1T rfl rfl ?_
    refine RA.steps (i' := 23) (L' := [some (.ref 110)]) (st' := [.int 101, .int 110, .int 105, .int 102, .ref 110]) (h' := h) 5 rfl ?_
    refine RA.call0 (N := mX8_isWordAt) (as := [.ref 110, .int 102, .int 105, .int 110, .int 101]) (rest := []) rfl rfl (pcallV rfl rfl ho rfl rfl (Nat.le_of_ble_eq_true rfl)) q2 ?_
    refine RA.if1T rfl rfl ?_
    refine RA.steps (i' := 28) (L' := [some (.ref 110)]) (st' := [.int (-1)]) (h' := h) 1 rfl ?_
    exact RA.ret rfl rfl
/-- the class's key -/
theorem isW_4 {sv pv y0 y1 y2 y3 : Int32} {B : Int32 → Int32} {w : Nat → Int32} {p : Nat} (hs : pv - sv = nI (p - b)) (hp : p - b < 100000) (e0 : B (sv + Int32.ofNat 0) = g b) (e1 : 1 < p - b → B (sv + Int32.ofNat 1) = g (b + 1)) (e2 : 2 < p - b → B (sv + Int32.ofNat 2) = g (b + 2)) (e3 : 3 < p - b → B (sv + Int32.ofNat 3) = g (b + 3)) (z0 : w 0 &&& 255 = y0) (z1 : w 1 &&& 255 = y1) (z2 : w 2 &&& 255 = y2) (z3 : w 3 &&& 255 = y3) : isW B sv pv 4 w = if p - b = 4 ∧ g b = y0 ∧ g (b + 1) = y1 ∧ g (b + 2) = y2 ∧ g (b + 3) = y3 then 1 else 0 := by
  unfold isW
  rw [hs]
  by_cases cl : p - b = 4
  · rw [if_pos (show nI (p - b) = Int32.ofNat 4 by rw [cl]; rfl)]
    rw [wdG, wdG, wdG, wdG, wdG, e0, e1 (by omega), e2 (by omega), e3 (by omega), z0, z1, z2, z3]
    by_cases c0 : g b = y0
    · rw [if_pos c0]
      by_cases c1 : g (b + 1) = y1
      · rw [if_pos c1]
        by_cases c2 : g (b + 2) = y2
        · rw [if_pos c2]
          by_cases c3 : g (b + 3) = y3
          · rw [if_pos c3, if_pos ⟨cl, c0, c1, c2, c3⟩]
          · rw [if_neg c3, if_neg (fun z => c3 z.2.2.2.2)]
        · rw [if_neg c2, if_neg (fun z => c2 z.2.2.2.1)]
      · rw [if_neg c1, if_neg (fun z => c1 z.2.2.1)]
    · rw [if_neg c0, if_neg (fun z => c0 z.2.1)]
  · rw [if_neg (show ¬ nI (p - b) = Int32.ofNat 4 from fun z => cl ((nI_eq (by omega) (by decide)).mp (show nI (p - b) = nI 4 from z))), if_neg (fun z => cl z.1)]
theorem isW_3 {sv pv y0 y1 y2 : Int32} {B : Int32 → Int32} {w : Nat → Int32} {p : Nat} (hs : pv - sv = nI (p - b)) (hp : p - b < 100000) (e0 : B (sv + Int32.ofNat 0) = g b) (e1 : 1 < p - b → B (sv + Int32.ofNat 1) = g (b + 1)) (e2 : 2 < p - b → B (sv + Int32.ofNat 2) = g (b + 2)) (z0 : w 0 &&& 255 = y0) (z1 : w 1 &&& 255 = y1) (z2 : w 2 &&& 255 = y2) : isW B sv pv 3 w = if p - b = 3 ∧ g b = y0 ∧ g (b + 1) = y1 ∧ g (b + 2) = y2 then 1 else 0 := by
  unfold isW
  rw [hs]
  by_cases cl : p - b = 3
  · rw [if_pos (show nI (p - b) = Int32.ofNat 3 by rw [cl]; rfl)]
    rw [wdG, wdG, wdG, wdG, e0, e1 (by omega), e2 (by omega), z0, z1, z2]
    by_cases c0 : g b = y0
    · rw [if_pos c0]
      by_cases c1 : g (b + 1) = y1
      · rw [if_pos c1]
        by_cases c2 : g (b + 2) = y2
        · rw [if_pos c2, if_pos ⟨cl, c0, c1, c2⟩]
        · rw [if_neg c2, if_neg (fun z => c2 z.2.2.2)]
      · rw [if_neg c1, if_neg (fun z => c1 z.2.2.1)]
    · rw [if_neg c0, if_neg (fun z => c0 z.2.1)]
  · rw [if_neg (show ¬ nI (p - b) = Int32.ofNat 3 from fun z => cl ((nI_eq (by omega) (by decide)).mp (show nI (p - b) = nI 3 from z))), if_neg (fun z => cl z.1)]
end KEY2
