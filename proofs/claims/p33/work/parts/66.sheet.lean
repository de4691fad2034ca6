/-! ===== sheet answers the same in both ===== -/
def kS (a : Nat) (W : aW) (b : (Int × Int) × (Int × Int) × (Int × Int) × Int) : aK := ([.inr (false, [a]), .inl b.1, .inl b.2.1, .inl b.2.2.1], some (b.2.2.2, b.2.2.2), W, 50)
def wSc : aW := [(82, 83, 0, 23), (84, 85, 0, 23), (86, 87, 0, 23), (88, 89, 0, 23)]
def wSr : aW := [(114, 114, 0, 3), (115, 115, 0, 3), (116, 116, 0, 95)]
def tTop : Int × Int := (-2147483648, 2147483647)
def bxB : List ((Int × Int) × (Int × Int) × (Int × Int) × Int) := [((-2147483648, -1), tTop, tTop, -1000000001), ((4, 2147483647), tTop, tTop, -1000000001), ((0, 3), (-2147483648, -2), tTop, -1000000001), ((0, 3), (2, 2147483647), tTop, -1000000001), ((0, 3), (0, 1), (25, 2147483647), -1000000001), ((0, 3), (0, 1), (-2147483648, -1), -1000000014)]
def bxC : List ((Int × Int) × (Int × Int) × (Int × Int) × Int) := bxB ++ ((0, 3), (-1, -1), tTop, 0) :: (List.range 25).map (fun (k : Nat) => ((0, 3), (0, 1), ((k : Int), (k : Int)), (k : Int)))
def bxR : List ((Int × Int) × (Int × Int) × (Int × Int) × Int) := bxB ++ (List.range 4).flatMap (fun (j : Nat) => (((j : Int), (j : Int)), (-1, -1), tTop, 0) :: (List.range 25).map (fun (k : Nat) => (((j : Int), (j : Int)), (0, 1), ((k : Int), (k : Int)), (k : Int))))
def tb_shr : aTb := fun mi i => if mi = 227 ∧ i = 38 then some ([(0, 2147483647, .inl 4)], [], [], [(116, 116, 0, 95)], 0, true) else none
set_option maxRecDepth 100000 in
theorem ck_shc : bxC.all (fun b => kchk prog HT [] tb_c_sheet 400 117 (kS 0 wSc b)) = true := by decide +kernel
set_option maxRecDepth 100000 in
theorem ck_shr : bxR.all (fun b => kchk prog HT [] tb_shr 400 227 (kS 110 wSr b)) = true := by decide +kernel
def shV (a s n : Int32) : Int32 := if a.toInt < 0 ∨ 3 < a.toInt then -1000000001 else if s.toInt < -1 ∨ 1 < s.toInt then -1000000001 else if s.toInt = -1 then 0 else if 24 < n.toInt then -1000000001 else if n.toInt < 0 then -1000000014 else n
section SHT
variable {E : pX} {h : List pC} {u s n : Int32} {N : pM} {i a : Nat} {W : aW}
theorem sh_box {bs : List ((Int × Int) × (Int × Int) × (Int × Int) × Int)} {tb : aTb} (hck : bs.all (fun b => kchk prog HT [] tb 400 i (kS a W b)) = true) (hW : jf W = true) (hN : prog[i]? = some N) (hc : m_code N ≠ []) (hh : HI HT h) (hj : JT h) (b : (Int × Int) × (Int × Int) × (Int × Int) × Int) (hb : b ∈ bs) (h1 : b.1.1 ≤ u.toInt ∧ u.toInt ≤ b.1.2) (h2 : b.2.1.1 ≤ s.toInt ∧ s.toInt ≤ b.2.1.2) (h3 : b.2.2.1.1 ≤ n.toInt ∧ n.toInt ≤ b.2.2.1.2) (v : Int32) (hv : v.toInt = b.2.2.2) :
    ∃ h', Run prog E pV1 120 N [.ref a, .int u, .int s, .int n] h (some (.int v), h', 0, 0) ∧ HI HT h' ∧ JT h' := by
  have hk : KGi E pV1 JT i (kS a W b) := kgi_of JT_P hW (List.all_eq_true.mp hck b hb) (fun _ h => absurd h List.not_mem_nil)
  obtain ⟨r, h', q, hr, hh', -, hj'⟩ := hk N hN 120 (by show 50 ≤ 120; omega) [.ref a, .int u, .int s, .int n] h ⟨Or.inr ⟨a, List.mem_singleton.mpr rfl, rfl⟩, ⟨u, rfl, h1.1, h1.2⟩, ⟨s, rfl, h2.1, h2.2⟩, ⟨n, rfl, h3.1, h3.2⟩, trivial⟩ hh hj
  obtain ⟨w, rfl, w1, w2⟩ := (show ∃ v : Int32, r = some (.int v) ∧ b.2.2.2 ≤ v.toInt ∧ v.toInt ≤ b.2.2.2 from hr)
  obtain rfl : w = v := Int32.toInt_inj.mp (by omega)
  rcases q with q | q
  · exact ⟨h', q, hh', hj'⟩
  · exact absurd q.1 hc
theorem sh_gen {bs : List ((Int × Int) × (Int × Int) × (Int × Int) × Int)} {tb : aTb} (hck : bs.all (fun b => kchk prog HT [] tb 400 i (kS a W b)) = true) (hW : jf W = true) (hN : prog[i]? = some N) (hc : m_code N ≠ []) (hh : HI HT h) (hj : JT h) (hB : ∀ b ∈ bxB, b ∈ bs)
    (g0 : ¬ (u.toInt < 0 ∨ 3 < u.toInt) → s.toInt = -1 → ∃ b ∈ bs, b.1.1 ≤ u.toInt ∧ u.toInt ≤ b.1.2 ∧ b.2.1 = (-1, -1) ∧ b.2.2.1 = tTop ∧ b.2.2.2 = 0) (g1 : ¬ (u.toInt < 0 ∨ 3 < u.toInt) → 0 ≤ n.toInt → n.toInt ≤ 24 → ∃ b ∈ bs, b.1.1 ≤ u.toInt ∧ u.toInt ≤ b.1.2 ∧ b.2.1 = (0, 1) ∧ b.2.2.1 = (n.toInt, n.toInt) ∧ b.2.2.2 = n.toInt) :
    ∃ h', Run prog E pV1 120 N [.ref a, .int u, .int s, .int n] h (some (.int (shV u s n)), h', 0, 0) ∧ HI HT h' ∧ JT h' := by
  have tu : (-2147483648 : Int) ≤ u.toInt ∧ u.toInt ≤ 2147483647 := ⟨i32_lo u, i32_hi u⟩
  have ts : (-2147483648 : Int) ≤ s.toInt ∧ s.toInt ≤ 2147483647 := ⟨i32_lo s, i32_hi s⟩
  have tn : (-2147483648 : Int) ≤ n.toInt ∧ n.toInt ≤ 2147483647 := ⟨i32_lo n, i32_hi n⟩
  have box := fun b hb => sh_box (E := E) (u := u) (s := s) (n := n) hck hW hN hc hh hj b (hB b hb)
  unfold shV
  by_cases c0 : u.toInt < 0 ∨ 3 < u.toInt
  · rw [if_pos c0]
    rcases c0 with c0 | c0
    · exact box _ List.mem_cons_self ⟨tu.1, by show u.toInt ≤ -1; omega⟩ ts tn _ (by decide)
    · exact box _ (List.mem_cons_of_mem _ List.mem_cons_self) ⟨by show 4 ≤ u.toInt; omega, tu.2⟩ ts tn _ (by decide)
  rw [if_neg c0]
  have cu : (0 : Int) ≤ u.toInt ∧ u.toInt ≤ 3 := by omega
  by_cases c1 : s.toInt < -1 ∨ 1 < s.toInt
  · rw [if_pos c1]
    rcases c1 with c1 | c1
    · exact box _ (List.mem_cons_of_mem _ (List.mem_cons_of_mem _ List.mem_cons_self)) cu ⟨ts.1, by show s.toInt ≤ -2; omega⟩ tn _ (by decide)
    · exact box _ (List.mem_cons_of_mem _ (List.mem_cons_of_mem _ (List.mem_cons_of_mem _ List.mem_cons_self))) cu ⟨by show 2 ≤ s.toInt; omega, ts.2⟩ tn _ (by decide)
  rw [if_neg c1]
  by_cases c2 : s.toInt = -1
  · rw [if_pos c2]
    obtain ⟨b, hb, b1, b2, b3, b4, b5⟩ := g0 c0 c2
    exact sh_box (E := E) hck hW hN hc hh hj b hb ⟨b1, b2⟩ (by rw [b3]; show (-1 : Int) ≤ s.toInt ∧ s.toInt ≤ -1; omega) (by rw [b4]; exact tn) 0 (by rw [b5]; decide)
  rw [if_neg c2]
  have cs : (0 : Int) ≤ s.toInt ∧ s.toInt ≤ 1 := by omega
  by_cases c3 : 24 < n.toInt
  · rw [if_pos c3]
    exact box _ (List.mem_cons_of_mem _ (List.mem_cons_of_mem _ (List.mem_cons_of_mem _ (List.mem_cons_of_mem _ List.mem_cons_self)))) cu cs ⟨by show 25 ≤ n.toInt; omega, tn.2⟩ _ (by decide)
  rw [if_neg c3]
  by_cases c4 : n.toInt < 0
  · rw [if_pos c4]
    exact box _ (List.mem_cons_of_mem _ (List.mem_cons_of_mem _ (List.mem_cons_of_mem _ (List.mem_cons_of_mem _ (List.mem_cons_of_mem _ List.mem_cons_self))))) cu cs ⟨tn.1, by show n.toInt ≤ -1; omega⟩ _ (by decide)
  rw [if_neg c4]
  obtain ⟨b, hb, b1, b2, b3, b4, b5⟩ := g1 c0 (by omega) (by omega)
  exact sh_box (E := E) hck hW hN hc hh hj b hb ⟨b1, b2⟩ (by rw [b3]; exact cs) (by rw [b4]; exact ⟨Int.le_refl _, Int.le_refl _⟩) n (by rw [b5])
theorem sheet_c (hh : HI HT h) (hj : JT h) : ∃ h', Run prog E pV1 120 mX7_sheet [.ref 0, .int u, .int s, .int n] h (some (.int (shV u s n)), h', 0, 0) ∧ HI HT h' ∧ JT h' := by
  refine sh_gen ck_shc (by decide) rfl (by show ¬ _ = _; exact List.cons_ne_nil _ _) hh hj (fun b hb => List.mem_append_left _ hb) (fun c0 _ => ⟨_, List.mem_append_right _ List.mem_cons_self, by show (0 : Int) ≤ _; omega, by show _ ≤ (3 : Int); omega, rfl, rfl, rfl⟩) (fun c0 n0 n1 => ?_)
  refine ⟨((0, 3), (0, 1), ((n.toInt.toNat : Int), (n.toInt.toNat : Int)), (n.toInt.toNat : Int)), List.mem_append_right _ (List.mem_cons_of_mem _ (List.mem_map.mpr ⟨n.toInt.toNat, List.mem_range.mpr (by omega), rfl⟩)), by show (0 : Int) ≤ _; omega, by show _ ≤ (3 : Int); omega, rfl, ?_, ?_⟩
  · show ((n.toInt.toNat : Int), (n.toInt.toNat : Int)) = _
    rw [Int.toNat_of_nonneg n0]
  · show (n.toInt.toNat : Int) = _
    omega
theorem sheet_r (hh : HI HT h) (hj : JT h) : ∃ h', Run prog E pV1 120 mX8_sheet [.ref 110, .int u, .int s, .int n] h (some (.int (shV u s n)), h', 0, 0) ∧ HI HT h' ∧ JT h' := by
  refine sh_gen ck_shr (by decide) rfl (by show ¬ _ = _; exact List.cons_ne_nil _ _) hh hj (fun b hb => List.mem_append_left _ hb) (fun c0 _ => ?_) (fun c0 n0 n1 => ?_)
  · exact ⟨(((u.toInt.toNat : Int), (u.toInt.toNat : Int)), (-1, -1), tTop, 0), List.mem_append_right _ (List.mem_flatMap.mpr ⟨u.toInt.toNat, List.mem_range.mpr (by omega), List.mem_cons_self⟩), by show (u.toInt.toNat : Int) ≤ _; omega, by show _ ≤ (u.toInt.toNat : Int); omega, rfl, rfl, rfl⟩
  · refine ⟨(((u.toInt.toNat : Int), (u.toInt.toNat : Int)), (0, 1), ((n.toInt.toNat : Int), (n.toInt.toNat : Int)), (n.toInt.toNat : Int)), List.mem_append_right _ (List.mem_flatMap.mpr ⟨u.toInt.toNat, List.mem_range.mpr (by omega), List.mem_cons_of_mem _ (List.mem_map.mpr ⟨n.toInt.toNat, List.mem_range.mpr (by omega), rfl⟩)⟩), by show (u.toInt.toNat : Int) ≤ _; omega, by show _ ≤ (u.toInt.toNat : Int); omega, rfl, ?_, ?_⟩
    · show ((n.toInt.toNat : Int), (n.toInt.toNat : Int)) = _
      rw [Int.toNat_of_nonneg n0]
    · show (n.toInt.toNat : Int) = _
      omega
end SHT
