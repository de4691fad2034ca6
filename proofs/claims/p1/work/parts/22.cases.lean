/-! ===== each call on a new object: class and reference answer alike (printed by program) ===== -/
theorem psw_ne {z k : Int} {t d : Nat} {r : List (Int × Nat)} (h : ¬ z = k) : psw z ((k, t) :: r) d = psw z r d := if_neg h
def pV0 : pV := fun N as h => if m_c N = 2 ∧ m_l N = 1 then (match as with
  | [.ref a] => match pobj h a with
    | some o => match (o.2[3]? : Option Value), (o.2[4]? : Option Value) with
      | some (.int s), some (.int p) => if p - s = 4 ∨ p - s = 3 then none else some (some (.int (-1)))
      | _, _ => none
    | none => none
  | _ => none) else none
theorem cases_0_1 {v : Int32} (H : 0 ≤ v ∧ v ≤ 1) : v = 0 ∨ v = 1 := by
  have g1 : (0 : Int32).toInt ≤ v.toInt := Int32.le_iff_toInt_le.mp H.1
  have g2 : v.toInt ≤ (1 : Int32).toInt := Int32.le_iff_toInt_le.mp H.2
  rw [show (0 : Int32).toInt = 0 by decide] at g1
  rw [show (1 : Int32).toInt = 1 by decide] at g2
  have g3 : v.toInt = 0 ∨ v.toInt = 1 := by omega
  rcases g3 with q | q
  · exact Or.inl (Int32.toInt_inj.mp (q.trans (by decide)))
  · exact Or.inr (Int32.toInt_inj.mp (q.trans (by decide)))
theorem cases_0_2 {v : Int32} (H : 0 ≤ v ∧ v ≤ 2) : v = 0 ∨ v = 1 ∨ v = 2 := by
  have g1 : (0 : Int32).toInt ≤ v.toInt := Int32.le_iff_toInt_le.mp H.1
  have g2 : v.toInt ≤ (2 : Int32).toInt := Int32.le_iff_toInt_le.mp H.2
  rw [show (0 : Int32).toInt = 0 by decide] at g1
  rw [show (2 : Int32).toInt = 2 by decide] at g2
  have g3 : v.toInt = 0 ∨ v.toInt = 1 ∨ v.toInt = 2 := by omega
  rcases g3 with q | q | q
  · exact Or.inl (Int32.toInt_inj.mp (q.trans (by decide)))
  · exact Or.inr (Or.inl (Int32.toInt_inj.mp (q.trans (by decide))))
  · exact Or.inr (Or.inr (Int32.toInt_inj.mp (q.trans (by decide))))
theorem cases_0_3 {v : Int32} (H : 0 ≤ v ∧ v ≤ 3) : v = 0 ∨ v = 1 ∨ v = 2 ∨ v = 3 := by
  have g1 : (0 : Int32).toInt ≤ v.toInt := Int32.le_iff_toInt_le.mp H.1
  have g2 : v.toInt ≤ (3 : Int32).toInt := Int32.le_iff_toInt_le.mp H.2
  rw [show (0 : Int32).toInt = 0 by decide] at g1
  rw [show (3 : Int32).toInt = 3 by decide] at g2
  have g3 : v.toInt = 0 ∨ v.toInt = 1 ∨ v.toInt = 2 ∨ v.toInt = 3 := by omega
  rcases g3 with q | q | q | q
  · exact Or.inl (Int32.toInt_inj.mp (q.trans (by decide)))
  · exact Or.inr (Or.inl (Int32.toInt_inj.mp (q.trans (by decide))))
  · exact Or.inr (Or.inr (Or.inl (Int32.toInt_inj.mp (q.trans (by decide)))))
  · exact Or.inr (Or.inr (Or.inr (Int32.toInt_inj.mp (q.trans (by decide)))))
theorem cases_0_4 {v : Int32} (H : 0 ≤ v ∧ v ≤ 4) : v = 0 ∨ v = 1 ∨ v = 2 ∨ v = 3 ∨ v = 4 := by
  have g1 : (0 : Int32).toInt ≤ v.toInt := Int32.le_iff_toInt_le.mp H.1
  have g2 : v.toInt ≤ (4 : Int32).toInt := Int32.le_iff_toInt_le.mp H.2
  rw [show (0 : Int32).toInt = 0 by decide] at g1
  rw [show (4 : Int32).toInt = 4 by decide] at g2
  have g3 : v.toInt = 0 ∨ v.toInt = 1 ∨ v.toInt = 2 ∨ v.toInt = 3 ∨ v.toInt = 4 := by omega
  rcases g3 with q | q | q | q | q
  · exact Or.inl (Int32.toInt_inj.mp (q.trans (by decide)))
  · exact Or.inr (Or.inl (Int32.toInt_inj.mp (q.trans (by decide))))
  · exact Or.inr (Or.inr (Or.inl (Int32.toInt_inj.mp (q.trans (by decide)))))
  · exact Or.inr (Or.inr (Or.inr (Or.inl (Int32.toInt_inj.mp (q.trans (by decide))))))
  · exact Or.inr (Or.inr (Or.inr (Or.inr (Int32.toInt_inj.mp (q.trans (by decide))))))
theorem cases_0_15 {v : Int32} (H : 0 ≤ v ∧ v ≤ 15) : v = 0 ∨ v = 1 ∨ v = 2 ∨ v = 3 ∨ v = 4 ∨ v = 5 ∨ v = 6 ∨ v = 7 ∨ v = 8 ∨ v = 9 ∨ v = 10 ∨ v = 11 ∨ v = 12 ∨ v = 13 ∨ v = 14 ∨ v = 15 := by
  have g1 : (0 : Int32).toInt ≤ v.toInt := Int32.le_iff_toInt_le.mp H.1
  have g2 : v.toInt ≤ (15 : Int32).toInt := Int32.le_iff_toInt_le.mp H.2
  rw [show (0 : Int32).toInt = 0 by decide] at g1
  rw [show (15 : Int32).toInt = 15 by decide] at g2
  have g3 : v.toInt = 0 ∨ v.toInt = 1 ∨ v.toInt = 2 ∨ v.toInt = 3 ∨ v.toInt = 4 ∨ v.toInt = 5 ∨ v.toInt = 6 ∨ v.toInt = 7 ∨ v.toInt = 8 ∨ v.toInt = 9 ∨ v.toInt = 10 ∨ v.toInt = 11 ∨ v.toInt = 12 ∨ v.toInt = 13 ∨ v.toInt = 14 ∨ v.toInt = 15 := by omega
  rcases g3 with q | q | q | q | q | q | q | q | q | q | q | q | q | q | q | q
  · exact Or.inl (Int32.toInt_inj.mp (q.trans (by decide)))
  · exact Or.inr (Or.inl (Int32.toInt_inj.mp (q.trans (by decide))))
  · exact Or.inr (Or.inr (Or.inl (Int32.toInt_inj.mp (q.trans (by decide)))))
  · exact Or.inr (Or.inr (Or.inr (Or.inl (Int32.toInt_inj.mp (q.trans (by decide))))))
  · exact Or.inr (Or.inr (Or.inr (Or.inr (Or.inl (Int32.toInt_inj.mp (q.trans (by decide)))))))
  · exact Or.inr (Or.inr (Or.inr (Or.inr (Or.inr (Or.inl (Int32.toInt_inj.mp (q.trans (by decide))))))))
  · exact Or.inr (Or.inr (Or.inr (Or.inr (Or.inr (Or.inr (Or.inl (Int32.toInt_inj.mp (q.trans (by decide)))))))))
  · exact Or.inr (Or.inr (Or.inr (Or.inr (Or.inr (Or.inr (Or.inr (Or.inl (Int32.toInt_inj.mp (q.trans (by decide))))))))))
  · exact Or.inr (Or.inr (Or.inr (Or.inr (Or.inr (Or.inr (Or.inr (Or.inr (Or.inl (Int32.toInt_inj.mp (q.trans (by decide)))))))))))
  · exact Or.inr (Or.inr (Or.inr (Or.inr (Or.inr (Or.inr (Or.inr (Or.inr (Or.inr (Or.inl (Int32.toInt_inj.mp (q.trans (by decide))))))))))))
  · exact Or.inr (Or.inr (Or.inr (Or.inr (Or.inr (Or.inr (Or.inr (Or.inr (Or.inr (Or.inr (Or.inl (Int32.toInt_inj.mp (q.trans (by decide)))))))))))))
  · exact Or.inr (Or.inr (Or.inr (Or.inr (Or.inr (Or.inr (Or.inr (Or.inr (Or.inr (Or.inr (Or.inr (Or.inl (Int32.toInt_inj.mp (q.trans (by decide))))))))))))))
  · exact Or.inr (Or.inr (Or.inr (Or.inr (Or.inr (Or.inr (Or.inr (Or.inr (Or.inr (Or.inr (Or.inr (Or.inr (Or.inl (Int32.toInt_inj.mp (q.trans (by decide)))))))))))))))
  · exact Or.inr (Or.inr (Or.inr (Or.inr (Or.inr (Or.inr (Or.inr (Or.inr (Or.inr (Or.inr (Or.inr (Or.inr (Or.inr (Or.inl (Int32.toInt_inj.mp (q.trans (by decide))))))))))))))))
  · exact Or.inr (Or.inr (Or.inr (Or.inr (Or.inr (Or.inr (Or.inr (Or.inr (Or.inr (Or.inr (Or.inr (Or.inr (Or.inr (Or.inr (Or.inl (Int32.toInt_inj.mp (q.trans (by decide)))))))))))))))))
  · exact Or.inr (Or.inr (Or.inr (Or.inr (Or.inr (Or.inr (Or.inr (Or.inr (Or.inr (Or.inr (Or.inr (Or.inr (Or.inr (Or.inr (Or.inr (Int32.toInt_inj.mp (q.trans (by decide)))))))))))))))))
theorem cases_1_9 {v : Int32} (H : 1 ≤ v ∧ v ≤ 9) : v = 1 ∨ v = 2 ∨ v = 3 ∨ v = 4 ∨ v = 5 ∨ v = 6 ∨ v = 7 ∨ v = 8 ∨ v = 9 := by
  have g1 : (1 : Int32).toInt ≤ v.toInt := Int32.le_iff_toInt_le.mp H.1
  have g2 : v.toInt ≤ (9 : Int32).toInt := Int32.le_iff_toInt_le.mp H.2
  rw [show (1 : Int32).toInt = 1 by decide] at g1
  rw [show (9 : Int32).toInt = 9 by decide] at g2
  have g3 : v.toInt = 1 ∨ v.toInt = 2 ∨ v.toInt = 3 ∨ v.toInt = 4 ∨ v.toInt = 5 ∨ v.toInt = 6 ∨ v.toInt = 7 ∨ v.toInt = 8 ∨ v.toInt = 9 := by omega
  rcases g3 with q | q | q | q | q | q | q | q | q
  · exact Or.inl (Int32.toInt_inj.mp (q.trans (by decide)))
  · exact Or.inr (Or.inl (Int32.toInt_inj.mp (q.trans (by decide))))
  · exact Or.inr (Or.inr (Or.inl (Int32.toInt_inj.mp (q.trans (by decide)))))
  · exact Or.inr (Or.inr (Or.inr (Or.inl (Int32.toInt_inj.mp (q.trans (by decide))))))
  · exact Or.inr (Or.inr (Or.inr (Or.inr (Or.inl (Int32.toInt_inj.mp (q.trans (by decide)))))))
  · exact Or.inr (Or.inr (Or.inr (Or.inr (Or.inr (Or.inl (Int32.toInt_inj.mp (q.trans (by decide))))))))
  · exact Or.inr (Or.inr (Or.inr (Or.inr (Or.inr (Or.inr (Or.inl (Int32.toInt_inj.mp (q.trans (by decide)))))))))
  · exact Or.inr (Or.inr (Or.inr (Or.inr (Or.inr (Or.inr (Or.inr (Or.inl (Int32.toInt_inj.mp (q.trans (by decide))))))))))
  · exact Or.inr (Or.inr (Or.inr (Or.inr (Or.inr (Or.inr (Or.inr (Or.inr (Int32.toInt_inj.mp (q.trans (by decide))))))))))
theorem le_lt_3 {v : Int32} (h : v ≤ 2) : v < 3 := by
  have g1 := Int32.le_iff_toInt_le.mp h
  rw [show (2 : Int32).toInt = 2 by decide] at g1
  refine Int32.lt_iff_toInt_lt.mpr ?_
  rw [show (3 : Int32).toInt = 3 by decide]
  omega
theorem in_lt_3 {v : Int32} (h1 : ¬ v < 0) (h2 : v < 3) : 0 ≤ v ∧ v ≤ 2 := by
  have g1 := Int32.lt_iff_toInt_lt.mp h2
  rw [show (3 : Int32).toInt = 3 by decide] at g1
  refine ⟨Int32.not_lt.mp h1, Int32.le_iff_toInt_le.mpr ?_⟩
  rw [show (2 : Int32).toInt = 2 by decide]
  omega
theorem le_lt_4 {v : Int32} (h : v ≤ 3) : v < 4 := by
  have g1 := Int32.le_iff_toInt_le.mp h
  rw [show (3 : Int32).toInt = 3 by decide] at g1
  refine Int32.lt_iff_toInt_lt.mpr ?_
  rw [show (4 : Int32).toInt = 4 by decide]
  omega
theorem in_lt_4 {v : Int32} (h1 : ¬ v < 0) (h2 : v < 4) : 0 ≤ v ∧ v ≤ 3 := by
  have g1 := Int32.lt_iff_toInt_lt.mp h2
  rw [show (4 : Int32).toInt = 4 by decide] at g1
  refine ⟨Int32.not_lt.mp h1, Int32.le_iff_toInt_le.mpr ?_⟩
  rw [show (3 : Int32).toInt = 3 by decide]
  omega
theorem le_lt_5 {v : Int32} (h : v ≤ 4) : v < 5 := by
  have g1 := Int32.le_iff_toInt_le.mp h
  rw [show (4 : Int32).toInt = 4 by decide] at g1
  refine Int32.lt_iff_toInt_lt.mpr ?_
  rw [show (5 : Int32).toInt = 5 by decide]
  omega
theorem in_lt_5 {v : Int32} (h1 : ¬ v < 0) (h2 : v < 5) : 0 ≤ v ∧ v ≤ 4 := by
  have g1 := Int32.lt_iff_toInt_lt.mp h2
  rw [show (5 : Int32).toInt = 5 by decide] at g1
  refine ⟨Int32.not_lt.mp h1, Int32.le_iff_toInt_le.mpr ?_⟩
  rw [show (4 : Int32).toInt = 4 by decide]
  omega
theorem le_lt_16 {v : Int32} (h : v ≤ 15) : v < 16 := by
  have g1 := Int32.le_iff_toInt_le.mp h
  rw [show (15 : Int32).toInt = 15 by decide] at g1
  refine Int32.lt_iff_toInt_lt.mpr ?_
  rw [show (16 : Int32).toInt = 16 by decide]
  omega
theorem in_lt_16 {v : Int32} (h1 : ¬ v < 0) (h2 : v < 16) : 0 ≤ v ∧ v ≤ 15 := by
  have g1 := Int32.lt_iff_toInt_lt.mp h2
  rw [show (16 : Int32).toInt = 16 by decide] at g1
  refine ⟨Int32.not_lt.mp h1, Int32.le_iff_toInt_le.mpr ?_⟩
  rw [show (15 : Int32).toInt = 15 by decide]
  omega
theorem cases_m1_1 {v : Int32} (H : -1 ≤ v ∧ v ≤ 1) : v = -1 ∨ v = 0 ∨ v = 1 := by
  have g1 : (-1 : Int32).toInt ≤ v.toInt := Int32.le_iff_toInt_le.mp H.1
  have g2 : v.toInt ≤ (1 : Int32).toInt := Int32.le_iff_toInt_le.mp H.2
  rw [show (-1 : Int32).toInt = -1 by decide] at g1
  rw [show (1 : Int32).toInt = 1 by decide] at g2
  have g3 : v.toInt = -1 ∨ v.toInt = 0 ∨ v.toInt = 1 := by omega
  rcases g3 with q | q | q
  · exact Or.inl (Int32.toInt_inj.mp (q.trans (by decide)))
  · exact Or.inr (Or.inl (Int32.toInt_inj.mp (q.trans (by decide))))
  · exact Or.inr (Or.inr (Int32.toInt_inj.mp (q.trans (by decide))))
