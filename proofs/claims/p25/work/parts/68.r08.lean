/-! ===== deal: what it brings ===== -/
abbrev Ex : Type := (aD → AV → Bool) × (Int32 → Int32)
def xZ : Ex := (fun _ x => decide (x = (1, 1, 0, 3)), fun v => v)
def xC (n : Int32) : Ex := (fun _ x => decide (x = cn n.toInt), fun _ => n)
def xO (c : Nat) (a b : Ex) : Ex := (fun Δ x => det x && Δ.any (fun f => decide (f.1 = c + 10) && decide (f.2.2.2 = x) && a.1 Δ f.2.1 && b.1 Δ f.2.2.1), fun v => opS c (a.2 v) (b.2 v))
def exV (v : Int32) (e : Ex) : Int32 := e.2 v
/-- x is the value of e, by what was worked out -/
def evD (Δ : aD) (e : Ex) (x : AV) : Bool := e.1 Δ x
theorem exVz (v : Int32) : exV v xZ = v := rfl
theorem exVc (v m : Int32) : exV v (xC m) = m := rfl
theorem exVo (v : Int32) (c : Nat) (a b : Ex) : exV v (xO c a b) = opS c (exV v a) (exV v b) := rfl
/-- it tells the truth of e -/
def EvS (e : Ex) : Prop := ∀ (n : Nat) (σ : Nat → Int) (Δ : aD) (v : Int32) (x : AV), fok n σ Δ → σ 3 = v.toInt → 3 < n → evD Δ e x = true → det x = true ∧ zG n σ (exV v e).toInt x
theorem evS_z : EvS xZ := fun n σ Δ v x hf hv h3 h => by
  obtain rfl : x = (1, 1, 0, 3) := of_decide_eq_true h
  rw [exVz]
  exact ⟨rfl, zG.mk (by decide) (by rw [hv]; show v.toInt = 1 * v.toInt + 0; omega) h3⟩
theorem evS_c (m : Int32) : EvS (xC m) := fun n σ Δ v x hf hv h3 h => by
  obtain rfl : x = cn m.toInt := of_decide_eq_true h
  rw [exVc]
  exact ⟨by unfold det cn; simp, cnZ _⟩
theorem evS_o {c : Nat} {a b : Ex} (ha : EvS a) (hb : EvS b) : EvS (xO c a b) := fun n σ Δ v x hf hv h3 h => by
  have h : (det x && Δ.any (fun f => decide (f.1 = c + 10) && decide (f.2.2.2 = x) && evD Δ a f.2.1 && evD Δ b f.2.2.1)) = true := h
  rw [Bool.and_eq_true] at h
  obtain ⟨d1, h⟩ := h
  obtain ⟨f, hm, h⟩ := List.any_eq_true.mp h
  rw [Bool.and_eq_true, Bool.and_eq_true, Bool.and_eq_true] at h
  obtain ⟨⟨⟨f1, f2⟩, f3⟩, f4⟩ := h
  have f1 := of_decide_eq_true f1
  have f2 := of_decide_eq_true f2
  obtain ⟨da, za⟩ := ha n σ Δ v f.2.1 hf hv h3 f3
  obtain ⟨db, zb⟩ := hb n σ Δ v f.2.2.1 hf hv h3 f4
  have k := hf f hm
  unfold fcG at k
  rw [if_neg (by omega)] at k
  obtain ⟨p, q, k1, k2, k3⟩ := k
  obtain rfl : p = exV v a := Int32.toInt_inj.mp (det_ok da k1 za)
  obtain rfl : q = exV v b := Int32.toInt_inj.mp (det_ok db k2 zb)
  rw [f1, f2, show c + 10 - 10 = c by omega] at k3
  rw [exVo]
  exact ⟨d1, k3⟩
theorem evD_ok {n : Nat} {σ : Nat → Int} {Δ : aD} {v : Int32} {e : Ex} (he : EvS e) (hf : fok n σ Δ) (hv : σ 3 = v.toInt) (h3 : 3 < n) (x : AV) (h : evD Δ e x = true) : det x = true ∧ zG n σ (exV v e).toInt x := he n σ Δ v x hf hv h3 h
def eZ1 : Ex := xO 0 (xO 2 xZ (xC 1103515245)) (xC 12345)
def eZ2 : Ex := xO 0 (xO 2 eZ1 (xC 1103515245)) (xC 12345)
def eZ3 : Ex := xO 0 (xO 2 eZ2 (xC 1103515245)) (xC 12345)
def eKD : Ex := xO 9 (xO 8 eZ1 (xC 8)) (xC 6)
def eRW : Ex := xO 9 (xO 8 eZ2 (xC 8)) (xC 65536)
def eSZ : Ex := xO 9 (xO 8 eZ3 (xC 8)) (xC 8)
theorem evS1 : EvS eZ1 := by unfold eZ1; exact evS_o (evS_o evS_z (evS_c _)) (evS_c _)
theorem evS2 : EvS eZ2 := by unfold eZ2; exact evS_o (evS_o evS1 (evS_c _)) (evS_c _)
theorem evS3 : EvS eZ3 := by unfold eZ3; exact evS_o (evS_o evS2 (evS_c _)) (evS_c _)
theorem evSK : EvS eKD := by unfold eKD; exact evS_o (evS_o evS1 (evS_c _)) (evS_c _)
theorem evSR : EvS eRW := by unfold eRW; exact evS_o (evS_o evS2 (evS_c _)) (evS_c _)
theorem evSS : EvS eSZ := by unfold eSZ; exact evS_o (evS_o evS3 (evS_c _)) (evS_c _)
theorem opS0 (a b : Int32) : opS 0 a b = a + b := rfl
theorem opS2 (a b : Int32) : opS 2 a b = a * b := rfl
theorem exDz (v : Int32) (e : Ex) : exV v (xO 0 (xO 2 e (xC 1103515245)) (xC 12345)) = dz (exV v e) := by
  rw [exVo, exVo, exVc, exVc, opS0, opS2, dz]
theorem exZ1 (v : Int32) : exV v eZ1 = dz v := by
  unfold eZ1
  rw [exDz, exVz]
theorem exZ2 (v : Int32) : exV v eZ2 = dz (dz v) := by
  unfold eZ2
  rw [exDz, exZ1]
theorem exZ3 (v : Int32) : exV v eZ3 = dz (dz (dz v)) := by
  unfold eZ3
  rw [exDz, exZ2]
theorem dzN3 (n : Nat) (v : Int32) : dzN (n + 3) v = dzN n (dz (dz (dz v))) := by
  rw [show n + 3 = (n + 2) + 1 from rfl, dzNs, show n + 2 = (n + 1) + 1 from rfl, dzNs, dzNs]
/-- the values of a RUBBING that is dealt -/
def rubG (a b c : Int) : Nat → Int
  | 0 => a
  | 1 => b
  | 2 => c + 1
  | 3 => 0
  | 4 => 16
  | _ => 50
theorem rubG0 (a b c : Int) : rubG a b c 0 = a := rfl
theorem rubG1 (a b c : Int) : rubG a b c 1 = b := rfl
theorem rubG2 (a b c : Int) : rubG a b c 2 = c + 1 := rfl
theorem rubG3 (a b c : Int) : rubG a b c 3 = 0 := rfl
theorem rubG4 (a b c : Int) : rubG a b c 4 = 16 := rfl
theorem rubG5 (a b c : Int) : rubG a b c 5 = 50 := rfl
def rubT (v : Int32) (f : Nat) : Int := rubG (exV v eKD).toInt (exV v eRW).toInt (exV v eSZ).toInt f
def evC (Δ : aD) (C : aC) (p : Nat × Nat) (e : Ex) : Bool := match cfind C (rf5 p.1) (cn (p.2 : Int)) with
  | some x => decide (x.1 ≤ 1) && evD Δ e x
  | none => false
def rbC (Δ : aD) (C : aC) (an ni az zi : Nat) (cl : Nat → Nat → Nat × Nat) (m : Nat) : Bool := decide (cfind C (rf5 an) (cn (ni : Int)) = some (cn (m + 1 : Nat))) && evC Δ C (az, zi) eZ3 && evC Δ C (cl m 0) eKD && evC Δ C (cl m 1) eRW && (match cfind C (rf5 (cl m 2).1) (cn ((cl m 2).2 : Int)) with
  | some x => decide (x.1 = 1) && decide (x.2.1 = 1) && decide (x.2.2.1 = 1) && evD Δ eSZ (1, 1, 0, x.2.2.2)
  | none => false) && decide (cfind C (rf5 (cl m 3).1) (cn ((cl m 3).2 : Int)) = some (cn 0)) && decide (cfind C (rf5 (cl m 4).1) (cn ((cl m 4).2 : Int)) = some (cn 16)) && decide (cfind C (rf5 (cl m 5).1) (cn ((cl m 5).2 : Int)) = some (cn 50))
theorem evC_ok {n : Nat} {σ : Nat → Int} {Δ : aD} {C : aC} {h' : List pC} {v : Int32} {p : Nat × Nat} {e : Ex} (he : EvS e) (hf : fok n σ Δ) (hv : σ 3 = v.toInt) (h3 : 3 < n) (hC : cok n σ h' C) (h : evC Δ C p e = true) : ri h' p.1 p.2 = exV v e := by
  unfold evC at h
  split at h
  · rename_i x hx
    rw [Bool.and_eq_true] at h
    obtain ⟨d, z⟩ := evD_ok he hf hv h3 x h.2
    exact Int32.toInt_inj.mp (det_ok d (ck_ri hC hx (of_decide_eq_true h.1)) z)
  · cases h
theorem rbC_ok {n : Nat} {σ : Nat → Int} {Δ : aD} {C : aC} {h' : List pC} {z : Int32} {an ni az zi m : Nat} {cl : Nat → Nat → Nat × Nat} (hv : σ 3 = z.toInt) (h3 : 3 < n) (hC : cok n σ h' C) (hf : fok n σ Δ) (h : rbC Δ C an ni az zi cl m = true) : (ri h' an ni).toInt = (m + 1 : Nat) ∧ ri h' az zi = dz (dz (dz z)) ∧ ∀ f, f < 6 → (ri h' (cl m f).1 (cl m f).2).toInt = rubT z f := by
  unfold rbC at h
  simp only [Bool.and_eq_true] at h
  obtain ⟨⟨⟨⟨⟨⟨⟨c1, c2⟩, c3⟩, c4⟩, c5⟩, c6⟩, c7⟩, c8⟩ := h
  have con : ∀ {a i : Nat} {k : Int}, decide (cfind C (rf5 a) (cn (i : Int)) = some (cn k)) = true → (ri h' a i).toInt = k := fun hq => zcn (ck_ri hC (of_decide_eq_true hq) (Nat.zero_le _))
  refine ⟨con c1, (evC_ok evS3 hf hv h3 hC c2).trans (exZ3 z), fun f h6 => ?_⟩
  match f, h6 with
  | 0, _ => exact (congrArg Int32.toInt (evC_ok evSK hf hv h3 hC c3)).trans (rubG0 _ _ _).symm
  | 1, _ => exact (congrArg Int32.toInt (evC_ok evSR hf hv h3 hC c4)).trans (rubG1 _ _ _).symm
  | 2, _ =>
    split at c5
    · rename_i x hx
      simp only [Bool.and_eq_true, decide_eq_true_eq] at c5
      obtain ⟨⟨⟨x1, x2⟩, x3⟩, x4⟩ := c5
      obtain ⟨t, a, b, k⟩ := x
      dsimp only at x1 x2 x3 x4
      subst x1 x2 x3
      obtain ⟨-, q1⟩ := evD_ok evSS hf hv h3 _ x4
      have q1 := zsy q1
      have q2 : (ri h' (cl m 2).1 (cl m 2).2).toInt = 1 * σ k + 1 := ((ck_ri hC hx (Nat.le_refl 1)).lin (show ¬ (1 : Nat) % 2 = 0 by decide)).1
      refine Eq.trans ?_ (rubG2 (exV z eKD).toInt (exV z eRW).toInt (exV z eSZ).toInt).symm
      omega
    · cases c5
  | 3, _ => exact (con c6).trans (rubG3 (exV z eKD).toInt (exV z eRW).toInt (exV z eSZ).toInt).symm
  | 4, _ => exact (con c7).trans (rubG4 (exV z eKD).toInt (exV z eRW).toInt (exV z eSZ).toInt).symm
  | 5, _ => exact (con c8).trans (rubG5 (exV z eKD).toInt (exV z eRW).toInt (exV z eSZ).toInt).symm
  | f + 6, h => omega
/-- j RUBBINGS were dealt behind m -/
def DL (an ni az zi : Nat) (cl : Nat → Nat → Nat × Nat) (m j : Nat) (h h' : List pC) : Prop := (ri h' an ni).toInt = (m + j : Nat) ∧ ri h' az zi = dzN (3 * j) (ri h az zi) ∧ ∀ i f, i < 9 → f < 6 → (m ≤ i → i < m + j → (ri h' (cl i f).1 (cl i f).2).toInt = rubT (dzN (3 * (i - m)) (ri h az zi)) f) ∧ (i < m ∨ m + j ≤ i → ri h' (cl i f).1 (cl i f).2 = ri h (cl i f).1 (cl i f).2)
section DLS
variable {an ni az zi m j : Nat} {cl : Nat → Nat → Nat × Nat} {h h1 h2 : List pC}
theorem DL.nil (em : (ri h an ni).toInt = m) : DL an ni az zi cl m 0 h h := ⟨em, rfl, fun i f _ _ => ⟨fun a b => by omega, fun _ => rfl⟩⟩
theorem DL.fr0 (em : (ri h an ni).toInt = m) (hf : Fr [] h h1) : DL an ni az zi cl m 0 h h1 := ⟨by rw [ri_fr hf rfl]; exact em, ri_fr hf rfl, fun i f _ _ => ⟨fun a b => by omega, fun _ => ri_fr hf rfl⟩⟩
theorem DL.eq (er : ∀ a i, ri h1 a i = ri h a i) (hd : DL an ni az zi cl m j h1 h2) : DL an ni az zi cl m j h h2 := by
  obtain ⟨d1, d2, d3⟩ := hd
  refine ⟨d1, by rw [d2, er], fun i f hi hf => ?_⟩
  obtain ⟨k1, k2⟩ := d3 i f hi hf
  exact ⟨fun a b => by rw [k1 a b, er], fun a => by rw [k2 a, er]⟩
theorem DL.cs (hm : m < 9) (r2 : ri h1 az zi = dz (dz (dz (ri h az zi)))) (r3 : ∀ f, f < 6 → (ri h1 (cl m f).1 (cl m f).2).toInt = rubT (ri h az zi) f) (r4 : ∀ i f, i < 9 → f < 6 → i ≠ m → ri h1 (cl i f).1 (cl i f).2 = ri h (cl i f).1 (cl i f).2) (hd : DL an ni az zi cl (m + 1) j h1 h2) : DL an ni az zi cl m (j + 1) h h2 := by
  obtain ⟨d1, d2, d3⟩ := hd
  refine ⟨by rw [d1]; omega, by rw [d2, r2, show 3 * (j + 1) = 3 * j + 3 by omega, dzN3], fun i f hi hf => ?_⟩
  obtain ⟨k1, k2⟩ := d3 i f hi hf
  refine ⟨fun a b => ?_, fun a => ?_⟩
  · by_cases e : i = m
    · subst e
      rw [k2 (Or.inl (by omega)), r3 f hf, show 3 * (i - i) = 0 by omega, dzN0]
    · rw [k1 (by omega) (by omega), r2, show 3 * (i - m) = 3 * (i - (m + 1)) + 3 by omega, dzN3]
  · rw [k2 (by omega), r4 i f hi hf (by omega)]
end DLS
theorem fiveL {L : pL} (h : L.length = 5) : ∃ a b c d e, L = [a, b, c, d, e] := by
  match L, h with
  | [a, b, c, d, e], _ => exact ⟨a, b, c, d, e, rfl⟩
def Wdc : aW := [(34, 34, 5, 5), (34, 34, 9, 9), (39, 47, 0, 5)]
def Wdcm (m : Nat) : aW := [(34, 34, 5, 5), (34, 34, 9, 9), (39 + m, 39 + m, 0, 5)]
def clc : Nat → Nat → Nat × Nat := fun i f => (39 + i, f)
def eac0 (S : aS) : Bool := (match S.2.2.2.1 with
  | [xa, xb, xc, x3, x4, x5] => decide (xa = rf5 0) && decide (xb = (1, 1, 0, 1)) && decide (xc = cn 0) && !isL x3 && !isL x4 && !isL x5
  | _ => false) && S.2.2.2.2.isEmpty
def eac1 (S : aS) : Bool := (match S.2.2.2.1 with
  | [xa, xb, xc, x3, x4, x5] => decide (xa = rf5 0) && decide (xb = (1, 1, 0, 1)) && decide (xc = (1, 1, 1, 2)) && !isL x3 && !isL x4 && !isL x5
  | _ => false) && S.2.2.2.2.isEmpty
def eac2 (S : aS) : Bool := (match S.2.2.2.1 with
  | [xa, xb, xc, x3, x4, x5] => decide (xa = rf5 0) && decide (xb = (1, 1, 0, 1)) && decide (xc = (1, 1, 0, 2)) && !isL x3 && !isL x4 && !isL x5
  | _ => false) && S.2.2.2.2.isEmpty
set_option maxRecDepth 100000 in
set_option maxHeartbeats 40000000 in
theorem kdc0 : aex prog HT [] [] true tb0 (fun i' S => decide (i' = 9) && (ctr S.2.2.1 || eac0 S)) oxN 60 false 50 94 mX7_deal 0 [.inl (77777, 77777), .inl (1, 9)] [] [] [rf5 0, (1, 1, 0, 1), any7, any7, any7, any7] [] [] [] = true := by decide +kernel
set_option maxRecDepth 100000 in
set_option maxHeartbeats 40000000 in
theorem kdc1_0 : (jf [(34, 34, 5, 5), (34, 34, 9, 9), (39, 39, 0, 5)] && subW [(34, 34, 5, 5), (34, 34, 9, 9), (39, 39, 0, 5)] Wdc && aex prog HT [(34, 34, 5, 5), (34, 34, 9, 9), (39, 39, 0, 5)] [] true tb0 (fun i' S => decide (i' = 9) && (ctr S.2.2.1 || (eac1 S && rbC S.2.2.1 S.2.1 34 5 34 9 clc 0))) oxN 150 true 50 94 mX7_deal 9 [.inl (77777, 77777), .inl (1, 9), .inl (0, 8), .inl (-2147483648, 2147483647)] [(rf5 34, cn 5, cn 0), (rf5 34, cn 9, (1, 1, 0, 3))] [(0, (1, 1, 0, 2), (1, 1, 0, 1), cn 0)] [rf5 0, (1, 1, 0, 1), (1, 1, 0, 2), any7, any7, any7] [] [] []) = true := by decide +kernel
set_option maxRecDepth 100000 in
set_option maxHeartbeats 40000000 in
theorem kdc1_1 : (jf [(34, 34, 5, 5), (34, 34, 9, 9), (40, 40, 0, 5)] && subW [(34, 34, 5, 5), (34, 34, 9, 9), (40, 40, 0, 5)] Wdc && aex prog HT [(34, 34, 5, 5), (34, 34, 9, 9), (40, 40, 0, 5)] [] true tb0 (fun i' S => decide (i' = 9) && (ctr S.2.2.1 || (eac1 S && rbC S.2.2.1 S.2.1 34 5 34 9 clc 1))) oxN 150 true 50 94 mX7_deal 9 [.inl (77777, 77777), .inl (1, 9), .inl (0, 8), .inl (-2147483648, 2147483647)] [(rf5 34, cn 5, cn 1), (rf5 34, cn 9, (1, 1, 0, 3))] [(0, (1, 1, 0, 2), (1, 1, 0, 1), cn 0)] [rf5 0, (1, 1, 0, 1), (1, 1, 0, 2), any7, any7, any7] [] [] []) = true := by decide +kernel
set_option maxRecDepth 100000 in
set_option maxHeartbeats 40000000 in
theorem kdc1_2 : (jf [(34, 34, 5, 5), (34, 34, 9, 9), (41, 41, 0, 5)] && subW [(34, 34, 5, 5), (34, 34, 9, 9), (41, 41, 0, 5)] Wdc && aex prog HT [(34, 34, 5, 5), (34, 34, 9, 9), (41, 41, 0, 5)] [] true tb0 (fun i' S => decide (i' = 9) && (ctr S.2.2.1 || (eac1 S && rbC S.2.2.1 S.2.1 34 5 34 9 clc 2))) oxN 150 true 50 94 mX7_deal 9 [.inl (77777, 77777), .inl (1, 9), .inl (0, 8), .inl (-2147483648, 2147483647)] [(rf5 34, cn 5, cn 2), (rf5 34, cn 9, (1, 1, 0, 3))] [(0, (1, 1, 0, 2), (1, 1, 0, 1), cn 0)] [rf5 0, (1, 1, 0, 1), (1, 1, 0, 2), any7, any7, any7] [] [] []) = true := by decide +kernel
set_option maxRecDepth 100000 in
set_option maxHeartbeats 40000000 in
theorem kdc1_3 : (jf [(34, 34, 5, 5), (34, 34, 9, 9), (42, 42, 0, 5)] && subW [(34, 34, 5, 5), (34, 34, 9, 9), (42, 42, 0, 5)] Wdc && aex prog HT [(34, 34, 5, 5), (34, 34, 9, 9), (42, 42, 0, 5)] [] true tb0 (fun i' S => decide (i' = 9) && (ctr S.2.2.1 || (eac1 S && rbC S.2.2.1 S.2.1 34 5 34 9 clc 3))) oxN 150 true 50 94 mX7_deal 9 [.inl (77777, 77777), .inl (1, 9), .inl (0, 8), .inl (-2147483648, 2147483647)] [(rf5 34, cn 5, cn 3), (rf5 34, cn 9, (1, 1, 0, 3))] [(0, (1, 1, 0, 2), (1, 1, 0, 1), cn 0)] [rf5 0, (1, 1, 0, 1), (1, 1, 0, 2), any7, any7, any7] [] [] []) = true := by decide +kernel
set_option maxRecDepth 100000 in
set_option maxHeartbeats 40000000 in
theorem kdc1_4 : (jf [(34, 34, 5, 5), (34, 34, 9, 9), (43, 43, 0, 5)] && subW [(34, 34, 5, 5), (34, 34, 9, 9), (43, 43, 0, 5)] Wdc && aex prog HT [(34, 34, 5, 5), (34, 34, 9, 9), (43, 43, 0, 5)] [] true tb0 (fun i' S => decide (i' = 9) && (ctr S.2.2.1 || (eac1 S && rbC S.2.2.1 S.2.1 34 5 34 9 clc 4))) oxN 150 true 50 94 mX7_deal 9 [.inl (77777, 77777), .inl (1, 9), .inl (0, 8), .inl (-2147483648, 2147483647)] [(rf5 34, cn 5, cn 4), (rf5 34, cn 9, (1, 1, 0, 3))] [(0, (1, 1, 0, 2), (1, 1, 0, 1), cn 0)] [rf5 0, (1, 1, 0, 1), (1, 1, 0, 2), any7, any7, any7] [] [] []) = true := by decide +kernel
set_option maxRecDepth 100000 in
set_option maxHeartbeats 40000000 in
theorem kdc1_5 : (jf [(34, 34, 5, 5), (34, 34, 9, 9), (44, 44, 0, 5)] && subW [(34, 34, 5, 5), (34, 34, 9, 9), (44, 44, 0, 5)] Wdc && aex prog HT [(34, 34, 5, 5), (34, 34, 9, 9), (44, 44, 0, 5)] [] true tb0 (fun i' S => decide (i' = 9) && (ctr S.2.2.1 || (eac1 S && rbC S.2.2.1 S.2.1 34 5 34 9 clc 5))) oxN 150 true 50 94 mX7_deal 9 [.inl (77777, 77777), .inl (1, 9), .inl (0, 8), .inl (-2147483648, 2147483647)] [(rf5 34, cn 5, cn 5), (rf5 34, cn 9, (1, 1, 0, 3))] [(0, (1, 1, 0, 2), (1, 1, 0, 1), cn 0)] [rf5 0, (1, 1, 0, 1), (1, 1, 0, 2), any7, any7, any7] [] [] []) = true := by decide +kernel
set_option maxRecDepth 100000 in
set_option maxHeartbeats 40000000 in
theorem kdc1_6 : (jf [(34, 34, 5, 5), (34, 34, 9, 9), (45, 45, 0, 5)] && subW [(34, 34, 5, 5), (34, 34, 9, 9), (45, 45, 0, 5)] Wdc && aex prog HT [(34, 34, 5, 5), (34, 34, 9, 9), (45, 45, 0, 5)] [] true tb0 (fun i' S => decide (i' = 9) && (ctr S.2.2.1 || (eac1 S && rbC S.2.2.1 S.2.1 34 5 34 9 clc 6))) oxN 150 true 50 94 mX7_deal 9 [.inl (77777, 77777), .inl (1, 9), .inl (0, 8), .inl (-2147483648, 2147483647)] [(rf5 34, cn 5, cn 6), (rf5 34, cn 9, (1, 1, 0, 3))] [(0, (1, 1, 0, 2), (1, 1, 0, 1), cn 0)] [rf5 0, (1, 1, 0, 1), (1, 1, 0, 2), any7, any7, any7] [] [] []) = true := by decide +kernel
set_option maxRecDepth 100000 in
set_option maxHeartbeats 40000000 in
theorem kdc1_7 : (jf [(34, 34, 5, 5), (34, 34, 9, 9), (46, 46, 0, 5)] && subW [(34, 34, 5, 5), (34, 34, 9, 9), (46, 46, 0, 5)] Wdc && aex prog HT [(34, 34, 5, 5), (34, 34, 9, 9), (46, 46, 0, 5)] [] true tb0 (fun i' S => decide (i' = 9) && (ctr S.2.2.1 || (eac1 S && rbC S.2.2.1 S.2.1 34 5 34 9 clc 7))) oxN 150 true 50 94 mX7_deal 9 [.inl (77777, 77777), .inl (1, 9), .inl (0, 8), .inl (-2147483648, 2147483647)] [(rf5 34, cn 5, cn 7), (rf5 34, cn 9, (1, 1, 0, 3))] [(0, (1, 1, 0, 2), (1, 1, 0, 1), cn 0)] [rf5 0, (1, 1, 0, 1), (1, 1, 0, 2), any7, any7, any7] [] [] []) = true := by decide +kernel
set_option maxRecDepth 100000 in
set_option maxHeartbeats 40000000 in
theorem kdc1_8 : (jf [(34, 34, 5, 5), (34, 34, 9, 9), (47, 47, 0, 5)] && subW [(34, 34, 5, 5), (34, 34, 9, 9), (47, 47, 0, 5)] Wdc && aex prog HT [(34, 34, 5, 5), (34, 34, 9, 9), (47, 47, 0, 5)] [] true tb0 (fun i' S => decide (i' = 9) && (ctr S.2.2.1 || (eac1 S && rbC S.2.2.1 S.2.1 34 5 34 9 clc 8))) oxN 150 true 50 94 mX7_deal 9 [.inl (77777, 77777), .inl (1, 9), .inl (0, 8), .inl (-2147483648, 2147483647)] [(rf5 34, cn 5, cn 8), (rf5 34, cn 9, (1, 1, 0, 3))] [(0, (1, 1, 0, 2), (1, 1, 0, 1), cn 0)] [rf5 0, (1, 1, 0, 1), (1, 1, 0, 2), any7, any7, any7] [] [] []) = true := by decide +kernel
theorem kdc1 : ∀ m : Nat, m < 9 → (jf (Wdcm m) && subW (Wdcm m) Wdc && aex prog HT (Wdcm m) [] true tb0 (fun i' S => decide (i' = 9) && (ctr S.2.2.1 || (eac1 S && rbC S.2.2.1 S.2.1 34 5 34 9 clc m))) oxN 150 true 50 94 mX7_deal 9 [.inl (77777, 77777), .inl (1, 9), .inl (0, 8), .inl (-2147483648, 2147483647)] [(rf5 34, cn 5, cn m), (rf5 34, cn 9, (1, 1, 0, 3))] [(0, (1, 1, 0, 2), (1, 1, 0, 1), cn 0)] [rf5 0, (1, 1, 0, 1), (1, 1, 0, 2), any7, any7, any7] [] [] []) = true
  | 0, _ => kdc1_0
  | 1, _ => kdc1_1
  | 2, _ => kdc1_2
  | 3, _ => kdc1_3
  | 4, _ => kdc1_4
  | 5, _ => kdc1_5
  | 6, _ => kdc1_6
  | 7, _ => kdc1_7
  | 8, _ => kdc1_8
  | m + 9, h => absurd h (by omega)
set_option maxRecDepth 100000 in
set_option maxHeartbeats 40000000 in
theorem kdc2 : aex prog HT [] [] true tb0 (fun i' S => decide (i' = 45) && (ctr S.2.2.1 || eac2 S)) oxN 60 true 50 94 mX7_deal 9 [.inl (77777, 77777), .inl (1, 9), .inl (0, 9)] [(rf5 34, cn 5, cn 9)] [] [rf5 0, (1, 1, 0, 1), (1, 1, 0, 2), any7, any7, any7] [] [] [] = true := by decide +kernel
section DEALC
variable {E : pX} {h : List pC}
theorem ct_cd (hh : HI HT h) : ct h 34 5 = some (.int (ri h 34 5)) ∧ ct h 34 9 = some (.int (ri h 34 9)) := ⟨(ri_ty (k := 8) (a := 34) (i := 5) (p := (0, 9)) hh rfl).1, (ri_ty (k := 8) (a := 34) (i := 9) (p := (-2147483648, 2147483647)) hh rfl).1⟩
theorem deal_cl {d : Nat} (hd : 50 ≤ d + 1) {n : Int32} (hn0 : 1 ≤ n.toInt) (hn : n.toInt ≤ 9) : ∀ (t : Nat) (c : Int32) (a3 a4 a5 : Option Value) (h : List pC) (m : Nat), m ≤ 9 → c.toInt + t = n.toInt → 0 ≤ c.toInt → pcat2 a3 = false → pcat2 a4 = false → pcat2 a5 = false → HI HT h → JT h → (ri h 34 5).toInt = m → Gl prog E pV1 (fun r h' => ∃ (j : Nat) (v : Int32), (j : Int) = min (t : Int) (9 - m) ∧ r = some (.int v) ∧ v.toInt = c.toInt + j ∧ HI HT h' ∧ JT h' ∧ Fr Wdc h h' ∧ DL 34 5 34 9 clc m j h h') (d + 1) mX7_deal 9 [some (.ref 0), some (.int n), some (.int c), a3, a4, a5] [] h [] := by
  intro t
  induction t with
  | zero =>
    intro c a3 a4 a5 h m h9 h1 h2 c3 c4 c5 hh hj em
    refine ⟨some (.int c), h, ?_, 0, c, by omega, rfl, by omega, hh, hj, Fr.rf _ _, DL.nil em⟩
    refine RA.steps 2 rfl ?_
    refine RA.if2T (x := 45) rfl (decide_eq_true (Int32.le_iff_toInt_le.mpr (by omega))) ?_
    refine RA.steps 1 rfl ?_
    exact RA.ret rfl rfl
  | succ t ih =>
    intro c a3 a4 a5 h m h9 h1 h2 c3 c4 c5 hh hj em
    obtain ⟨cn1, cz1⟩ := ct_cd hh
    by_cases hm9 : m = 9
    · subst hm9
      refine hop (σ0 := fun t => match t with | 0 => 77777 | 1 => n.toInt | _ => c.toInt) kdc2 no_kc (by decide) hj hd (by decide) ⟨⟨Nat.le_refl _, agr.rf _ _⟩, fun k e hk => ?_, ?_, (fun e he => by cases he), LG.cons (lGr 0) (LG.cons (lGi (show 1 < 3 by decide) (by show n.toInt = 1 * n.toInt + 0; omega)) (LG.cons (lGi (show 2 < 3 by decide) (by show c.toInt = 1 * c.toInt + 0; omega)) (LG.cons (lG.any c3) (LG.cons (lG.any c4) (LG.cons (lG.any c5) LGn))))), trivial, hh, Fr.rf _ _⟩ (fun σ S L' st' h1' hec g => ?_)
      · match k, hk with
        | 0, hk => cases hk; exact ⟨Int.le_refl 77777, Int.le_refl 77777⟩
        | 1, hk => cases hk; exact ⟨hn0, hn⟩
        | 2, hk => cases hk; exact ⟨h2, by show c.toInt ≤ 9; omega⟩
        | k + 3, hk => simp at hk
      · exact cok.cs ⟨34, 5, _, Or.inl ⟨rfl, rfl⟩, cnZ _, cn1, Nat.zero_le _, by rw [em]; exact cnZ _⟩ cok.nil
      · unfold eac2 at hec
        rw [Bool.and_eq_true] at hec
        obtain ⟨b1, b2⟩ := hec
        obtain ⟨⟨gn, ga⟩, gk, gc, gf, gL, gS_, gh, gF⟩ := g
        split at b1
        · rename_i xa xb xc x3 x4 x5 hA
          rw [hA] at gL
          simp only [Bool.and_eq_true, decide_eq_true_eq, Bool.not_eq_true'] at b1
          obtain ⟨⟨⟨⟨⟨rfl, rfl⟩, rfl⟩, e3⟩, e4⟩, e5⟩ := b1
          obtain ⟨l0, l1, l2, l3, l4, l5, rfl⟩ := sixL gL.1
          obtain ⟨w0, k0, v0⟩ := gL.at (k := 0) rfl (by decide)
          obtain ⟨w1, k1, v1⟩ := gL.at (k := 1) rfl (by decide)
          obtain ⟨w2, k2, v2⟩ := gL.at (k := 2) rfl (by decide)
          have q3 : pcat2 l3 = false := gL.cat2 (k := 3) rfl (of_decide_eq_false e3)
          have q4 : pcat2 l4 = false := gL.cat2 (k := 4) rfl (of_decide_eq_false e4)
          have q5 : pcat2 l5 = false := gL.cat2 (k := 5) rfl (of_decide_eq_false e5)
          obtain rfl : l0 = some w0 := k0
          obtain rfl : l1 = some w1 := k1
          obtain rfl : l2 = some w2 := k2
          obtain ⟨a, rfl, ha | ha⟩ := v0.ref (Or.inl rfl)
          rotate_left
          · exact absurd ha.1 (show ¬ (5 : Nat) = 6 by decide)
          obtain rfl : a = 0 := ha.2
          obtain ⟨u1, rfl, z1⟩ := v1.int (Nat.le_refl 1)
          obtain ⟨u2, rfl, z2⟩ := v2.int (by decide)
          obtain rfl : u1 = n := Int32.toInt_inj.mp ((zsy z1).trans (ga 1 (by decide)))
          obtain rfl : st' = [] := by
            have := gS_
            rw [List.isEmpty_iff.mp b2] at this
            exact this.nil_inv
          obtain rfl : u2 = c := Int32.toInt_inj.mp ((zsy z2).trans (ga 2 (by decide)))
          have hj1 : JT h1' := JT_P _ _ _ (by decide) gF hj
          refine ⟨some (.int u2), h1', ?_, 0, u2, by omega, rfl, by omega, gh, hj1, gF.sub rfl, DL.fr0 em gF⟩
          refine RA.steps 1 rfl ?_
          exact RA.ret rfl rfl
        · cases b1
    · have hm8 : m < 9 := by omega
      have hck := kdc1 m hm8
      rw [Bool.and_eq_true, Bool.and_eq_true] at hck
      obtain ⟨⟨hjf, hsw⟩, hck⟩ := hck
      refine hop (σ0 := fun t => match t with | 0 => 77777 | 1 => n.toInt | 2 => c.toInt | _ => (ri h 34 9).toInt) hck no_kc hjf hj hd (by decide) ⟨⟨Nat.le_refl _, agr.rf _ _⟩, fun k e hk => ?_, ?_, ?_, LG.cons (lGr 0) (LG.cons (lGi (show 1 < 4 by decide) (by show n.toInt = 1 * n.toInt + 0; omega)) (LG.cons (lGi (show 2 < 4 by decide) (by show c.toInt = 1 * c.toInt + 0; omega)) (LG.cons (lG.any c3) (LG.cons (lG.any c4) (LG.cons (lG.any c5) LGn))))), trivial, hh, Fr.rf _ _⟩ (fun σ S L' st' h1' hec g => ?_)
      · match k, hk with
        | 0, hk => cases hk; exact ⟨Int.le_refl 77777, Int.le_refl 77777⟩
        | 1, hk => cases hk; exact ⟨hn0, hn⟩
        | 2, hk => cases hk; exact ⟨h2, by show c.toInt ≤ 8; omega⟩
        | 3, hk => cases hk; exact ⟨i32_lo _, i32_hi _⟩
        | k + 4, hk => simp at hk
      · exact cok.cs ⟨34, 5, _, Or.inl ⟨rfl, rfl⟩, cnZ _, cn1, Nat.zero_le _, by rw [em]; exact cnZ _⟩ (cok.cs ⟨34, 9, _, Or.inl ⟨rfl, rfl⟩, cnZ _, cz1, Nat.le_refl 1, zG.mk (by decide) (by show (ri h 34 9).toInt = 1 * (ri h 34 9).toInt + 0; omega) (show 3 < 4 by decide)⟩ cok.nil)
      · intro f hf
        obtain rfl := List.mem_singleton.mp hf
        exact ⟨c.toInt, n.toInt, zG.mk (by decide) (by show c.toInt = 1 * c.toInt + 0; omega) (show 2 < 4 by decide), zG.mk (by decide) (by show n.toInt = 1 * n.toInt + 0; omega) (show 1 < 4 by decide), (show c.toInt < n.toInt by omega)⟩
      · unfold eac1 at hec
        rw [Bool.and_eq_true, Bool.and_eq_true] at hec
        obtain ⟨⟨b1, b2⟩, b3⟩ := hec
        obtain ⟨⟨gn, ga⟩, gk, gc, gf, gL, gS_, gh, gF⟩ := g
        split at b1
        · rename_i xa xb xc x3 x4 x5 hA
          rw [hA] at gL
          simp only [Bool.and_eq_true, decide_eq_true_eq, Bool.not_eq_true'] at b1
          obtain ⟨⟨⟨⟨⟨rfl, rfl⟩, rfl⟩, e3⟩, e4⟩, e5⟩ := b1
          obtain ⟨l0, l1, l2, l3, l4, l5, rfl⟩ := sixL gL.1
          obtain ⟨w0, k0, v0⟩ := gL.at (k := 0) rfl (by decide)
          obtain ⟨w1, k1, v1⟩ := gL.at (k := 1) rfl (by decide)
          obtain ⟨w2, k2, v2⟩ := gL.at (k := 2) rfl (by decide)
          have q3 : pcat2 l3 = false := gL.cat2 (k := 3) rfl (of_decide_eq_false e3)
          have q4 : pcat2 l4 = false := gL.cat2 (k := 4) rfl (of_decide_eq_false e4)
          have q5 : pcat2 l5 = false := gL.cat2 (k := 5) rfl (of_decide_eq_false e5)
          obtain rfl : l0 = some w0 := k0
          obtain rfl : l1 = some w1 := k1
          obtain rfl : l2 = some w2 := k2
          obtain ⟨a, rfl, ha | ha⟩ := v0.ref (Or.inl rfl)
          rotate_left
          · exact absurd ha.1 (show ¬ (5 : Nat) = 6 by decide)
          obtain rfl : a = 0 := ha.2
          obtain ⟨u1, rfl, z1⟩ := v1.int (Nat.le_refl 1)
          obtain ⟨u2, rfl, z2⟩ := v2.int (by decide)
          obtain rfl : u1 = n := Int32.toInt_inj.mp ((zsy z1).trans (ga 1 (by decide)))
          obtain rfl : st' = [] := by
            have := gS_
            rw [List.isEmpty_iff.mp b2] at this
            exact this.nil_inv
          have y2 : u2.toInt = c.toInt + 1 := by
            have y2 : u2.toInt = 1 * σ 2 + 1 := (z2.lin (show ¬ (1 : Nat) % 2 = 0 by decide)).1
            have s2 : σ 2 = c.toInt := ga 2 (by decide)
            omega
          obtain ⟨r1, r2, r3⟩ := rbC_ok (z := ri h 34 9) (ga 3 (by decide)) (Nat.lt_of_lt_of_le (show 3 < 4 by decide) gn) gc gf b3
          have hj1 : JT h1' := JT_P _ _ _ hjf gF hj
          refine (ih u2 l3 l4 l5 h1' (m + 1) (by omega) (by omega) (by omega) q3 q4 q5 gh hj1 r1).weak (fun r h2' hp => ?_)
          obtain ⟨j, v, p1, p2, p3, p4, p5, p6, p7⟩ := hp
          refine ⟨j + 1, v, by omega, p2, by omega, p4, p5, (gF.sub hsw).tr p6, DL.cs hm8 r2 r3 (fun i f hi hf hne => ri_fr gF (nin_iff.mpr ?_)) p7⟩
          simp only [Wdcm, clc, List.forall_mem_cons]
          exact ⟨by omega, by omega, by omega, fun _ h => absurd h List.not_mem_nil⟩
        · cases b1
theorem deal_c (x : Int32) (hx : 1 ≤ x.toInt ∧ x.toInt ≤ 9) (hh : HI HT h) (hj : JT h) {m : Nat} (h9 : m ≤ 9) (em : (ri h 34 5).toInt = m) : ∃ (j : Nat) (v : Int32) (h' : List pC), Run prog E pV1 120 mX7_deal [.ref 0, .int x] h (some (.int v), h', 0, 0) ∧ (j : Int) = min x.toInt (9 - m) ∧ v.toInt = j ∧ HI HT h' ∧ JT h' ∧ Fr Wdc h h' ∧ DL 34 5 34 9 clc m j h h' := by
  have g : Gl prog E pV1 (fun r h' => ∃ (j : Nat) (v : Int32), (j : Int) = min x.toInt (9 - m) ∧ r = some (.int v) ∧ v.toInt = j ∧ HI HT h' ∧ JT h' ∧ Fr Wdc h h' ∧ DL 34 5 34 9 clc m j h h') 120 mX7_deal 0 (pent (m_l mX7_deal) [.ref 0, .int x]) [] h [] := by
    refine hop (σ0 := fun t => match t with | 0 => 77777 | _ => x.toInt) kdc0 no_kc (by decide) hj (by decide) (by decide) ⟨⟨Nat.le_refl _, agr.rf _ _⟩, fun k e hk => ?_, (fun e he => by cases he), (fun e he => by cases he), LG.cons (lGr 0) (LG.cons (lGi (by decide) (by show x.toInt = 1 * x.toInt + 0; omega)) (LG.cons (lG.any rfl) (LG.cons (lG.any rfl) (LG.cons (lG.any rfl) (LG.cons (lG.any rfl) LGn))))), trivial, hh, Fr.rf _ _⟩ (fun σ S L' st' h1' hec g => ?_)
    · match k, hk with
      | 0, hk => cases hk; exact ⟨Int.le_refl 77777, Int.le_refl 77777⟩
      | 1, hk => cases hk; exact hx
      | k + 2, hk => simp at hk
    · unfold eac0 at hec
      rw [Bool.and_eq_true] at hec
      obtain ⟨b1, b2⟩ := hec
      obtain ⟨⟨gn, ga⟩, gk, gc, gf, gL, gS_, gh, gF⟩ := g
      split at b1
      · rename_i xa xb xc x3 x4 x5 hA
        rw [hA] at gL
        simp only [Bool.and_eq_true, decide_eq_true_eq, Bool.not_eq_true'] at b1
        obtain ⟨⟨⟨⟨⟨rfl, rfl⟩, rfl⟩, e3⟩, e4⟩, e5⟩ := b1
        obtain ⟨l0, l1, l2, l3, l4, l5, rfl⟩ := sixL gL.1
        obtain ⟨w0, k0, v0⟩ := gL.at (k := 0) rfl (by decide)
        obtain ⟨w1, k1, v1⟩ := gL.at (k := 1) rfl (by decide)
        obtain ⟨w2, k2, v2⟩ := gL.at (k := 2) rfl (by decide)
        have q3 : pcat2 l3 = false := gL.cat2 (k := 3) rfl (of_decide_eq_false e3)
        have q4 : pcat2 l4 = false := gL.cat2 (k := 4) rfl (of_decide_eq_false e4)
        have q5 : pcat2 l5 = false := gL.cat2 (k := 5) rfl (of_decide_eq_false e5)
        obtain rfl : l0 = some w0 := k0
        obtain rfl : l1 = some w1 := k1
        obtain rfl : l2 = some w2 := k2
        obtain ⟨a, rfl, ha | ha⟩ := v0.ref (Or.inl rfl)
        rotate_left
        · exact absurd ha.1 (show ¬ (5 : Nat) = 6 by decide)
        obtain rfl : a = 0 := ha.2
        obtain ⟨u1, rfl, z1⟩ := v1.int (Nat.le_refl 1)
        obtain ⟨u2, rfl, z2⟩ := v2.int (by decide)
        obtain rfl : u1 = x := Int32.toInt_inj.mp ((zsy z1).trans (ga 1 (by decide)))
        obtain rfl : st' = [] := by
          have := gS_
          rw [List.isEmpty_iff.mp b2] at this
          exact this.nil_inv
        obtain rfl : u2 = 0 := Int32.toInt_inj.mp ((zcn z2).trans (by decide))
        have hj1 : JT h1' := JT_P _ _ _ (by decide) gF hj
        have er : ∀ a i, ri h1' a i = ri h a i := fun a i => ri_fr gF rfl
        refine (deal_cl (E := E) (d := 119) (by decide) hx.1 hx.2 u1.toInt.toNat 0 l3 l4 l5 h1' m h9 (by rw [show (0 : Int32).toInt = 0 by decide]; omega) (by decide) q3 q4 q5 gh hj1 (by rw [er]; exact em)).weak (fun r h2' hp => ?_)
        obtain ⟨j, v, p1, p2, p3, p4, p5, p6, p7⟩ := hp
        exact ⟨j, v, by omega, p2, (by have e0 : (0 : Int32).toInt = 0 := (by decide); omega), p4, p5, (gF.sub rfl).tr p6, DL.eq er p7⟩
      · cases b1
  obtain ⟨r, h', q1, j, v, q2, rfl, q3⟩ := g
  exact ⟨j, v, h', ⟨Nat.le_of_ble_eq_true rfl, ⟨_, _, rfl⟩, q1⟩, q2, q3⟩
end DEALC
def Wdr : aW := [(111, 111, 0, 0), (111, 111, 4, 4), (111, 111, 21, 74)]
def Wdrm (m : Nat) : aW := [(111, 111, 0, 0), (111, 111, 4, 4), (111, 111, 21 + 6 * m, 26 + 6 * m)]
def clr : Nat → Nat → Nat × Nat := fun i f => (111, 21 + 6 * i + f)
def ear0 (S : aS) : Bool := (match S.2.2.2.1 with
  | [xa, xb, xc, x3, x4] => decide (xa = rf5 110) && decide (xb = (1, 1, 0, 1)) && decide (xc = cn 0) && !isL x3 && !isL x4
  | _ => false) && S.2.2.2.2.isEmpty
def ear1 (S : aS) : Bool := (match S.2.2.2.1 with
  | [xa, xb, xc, x3, x4] => decide (xa = rf5 110) && decide (xb = (1, 1, 0, 1)) && decide (xc = (1, 1, 1, 2)) && !isL x3 && !isL x4
  | _ => false) && S.2.2.2.2.isEmpty
def ear2 (S : aS) : Bool := (match S.2.2.2.1 with
  | [xa, xb, xc, x3, x4] => decide (xa = rf5 110) && decide (xb = (1, 1, 0, 1)) && decide (xc = (1, 1, 0, 2)) && !isL x3 && !isL x4
  | _ => false) && S.2.2.2.2.isEmpty
set_option maxRecDepth 100000 in
set_option maxHeartbeats 40000000 in
theorem kdr0 : aex prog HT [] [] true tb0 (fun i' S => decide (i' = 10) && (ctr S.2.2.1 || ear0 S)) oxN 60 false 110 173 mX8_deal 0 [.inl (77777, 77777), .inl (1, 9)] [] [] [rf5 110, (1, 1, 0, 1), any7, any7, any7] [] [] [] = true := by decide +kernel
set_option maxRecDepth 100000 in
set_option maxHeartbeats 40000000 in
theorem kdr1_0 : (jf [(111, 111, 0, 0), (111, 111, 4, 4), (111, 111, 21, 26)] && subW [(111, 111, 0, 0), (111, 111, 4, 4), (111, 111, 21, 26)] Wdr && aex prog HT [(111, 111, 0, 0), (111, 111, 4, 4), (111, 111, 21, 26)] [] true tb0 (fun i' S => decide (i' = 10) && (ctr S.2.2.1 || (ear1 S && rbC S.2.2.1 S.2.1 111 0 111 4 clr 0))) oxN 215 true 110 173 mX8_deal 10 [.inl (77777, 77777), .inl (1, 9), .inl (0, 8), .inl (-2147483648, 2147483647)] [(rf5 111, cn 0, cn 0), (rf5 111, cn 4, (1, 1, 0, 3))] [(0, (1, 1, 0, 2), (1, 1, 0, 1), cn 0)] [rf5 110, (1, 1, 0, 1), (1, 1, 0, 2), any7, any7] [] [] []) = true := by decide +kernel
set_option maxRecDepth 100000 in
set_option maxHeartbeats 40000000 in
theorem kdr1_1 : (jf [(111, 111, 0, 0), (111, 111, 4, 4), (111, 111, 27, 32)] && subW [(111, 111, 0, 0), (111, 111, 4, 4), (111, 111, 27, 32)] Wdr && aex prog HT [(111, 111, 0, 0), (111, 111, 4, 4), (111, 111, 27, 32)] [] true tb0 (fun i' S => decide (i' = 10) && (ctr S.2.2.1 || (ear1 S && rbC S.2.2.1 S.2.1 111 0 111 4 clr 1))) oxN 215 true 110 173 mX8_deal 10 [.inl (77777, 77777), .inl (1, 9), .inl (0, 8), .inl (-2147483648, 2147483647)] [(rf5 111, cn 0, cn 1), (rf5 111, cn 4, (1, 1, 0, 3))] [(0, (1, 1, 0, 2), (1, 1, 0, 1), cn 0)] [rf5 110, (1, 1, 0, 1), (1, 1, 0, 2), any7, any7] [] [] []) = true := by decide +kernel
set_option maxRecDepth 100000 in
set_option maxHeartbeats 40000000 in
theorem kdr1_2 : (jf [(111, 111, 0, 0), (111, 111, 4, 4), (111, 111, 33, 38)] && subW [(111, 111, 0, 0), (111, 111, 4, 4), (111, 111, 33, 38)] Wdr && aex prog HT [(111, 111, 0, 0), (111, 111, 4, 4), (111, 111, 33, 38)] [] true tb0 (fun i' S => decide (i' = 10) && (ctr S.2.2.1 || (ear1 S && rbC S.2.2.1 S.2.1 111 0 111 4 clr 2))) oxN 215 true 110 173 mX8_deal 10 [.inl (77777, 77777), .inl (1, 9), .inl (0, 8), .inl (-2147483648, 2147483647)] [(rf5 111, cn 0, cn 2), (rf5 111, cn 4, (1, 1, 0, 3))] [(0, (1, 1, 0, 2), (1, 1, 0, 1), cn 0)] [rf5 110, (1, 1, 0, 1), (1, 1, 0, 2), any7, any7] [] [] []) = true := by decide +kernel
set_option maxRecDepth 100000 in
set_option maxHeartbeats 40000000 in
theorem kdr1_3 : (jf [(111, 111, 0, 0), (111, 111, 4, 4), (111, 111, 39, 44)] && subW [(111, 111, 0, 0), (111, 111, 4, 4), (111, 111, 39, 44)] Wdr && aex prog HT [(111, 111, 0, 0), (111, 111, 4, 4), (111, 111, 39, 44)] [] true tb0 (fun i' S => decide (i' = 10) && (ctr S.2.2.1 || (ear1 S && rbC S.2.2.1 S.2.1 111 0 111 4 clr 3))) oxN 215 true 110 173 mX8_deal 10 [.inl (77777, 77777), .inl (1, 9), .inl (0, 8), .inl (-2147483648, 2147483647)] [(rf5 111, cn 0, cn 3), (rf5 111, cn 4, (1, 1, 0, 3))] [(0, (1, 1, 0, 2), (1, 1, 0, 1), cn 0)] [rf5 110, (1, 1, 0, 1), (1, 1, 0, 2), any7, any7] [] [] []) = true := by decide +kernel
set_option maxRecDepth 100000 in
set_option maxHeartbeats 40000000 in
theorem kdr1_4 : (jf [(111, 111, 0, 0), (111, 111, 4, 4), (111, 111, 45, 50)] && subW [(111, 111, 0, 0), (111, 111, 4, 4), (111, 111, 45, 50)] Wdr && aex prog HT [(111, 111, 0, 0), (111, 111, 4, 4), (111, 111, 45, 50)] [] true tb0 (fun i' S => decide (i' = 10) && (ctr S.2.2.1 || (ear1 S && rbC S.2.2.1 S.2.1 111 0 111 4 clr 4))) oxN 215 true 110 173 mX8_deal 10 [.inl (77777, 77777), .inl (1, 9), .inl (0, 8), .inl (-2147483648, 2147483647)] [(rf5 111, cn 0, cn 4), (rf5 111, cn 4, (1, 1, 0, 3))] [(0, (1, 1, 0, 2), (1, 1, 0, 1), cn 0)] [rf5 110, (1, 1, 0, 1), (1, 1, 0, 2), any7, any7] [] [] []) = true := by decide +kernel
set_option maxRecDepth 100000 in
set_option maxHeartbeats 40000000 in
theorem kdr1_5 : (jf [(111, 111, 0, 0), (111, 111, 4, 4), (111, 111, 51, 56)] && subW [(111, 111, 0, 0), (111, 111, 4, 4), (111, 111, 51, 56)] Wdr && aex prog HT [(111, 111, 0, 0), (111, 111, 4, 4), (111, 111, 51, 56)] [] true tb0 (fun i' S => decide (i' = 10) && (ctr S.2.2.1 || (ear1 S && rbC S.2.2.1 S.2.1 111 0 111 4 clr 5))) oxN 215 true 110 173 mX8_deal 10 [.inl (77777, 77777), .inl (1, 9), .inl (0, 8), .inl (-2147483648, 2147483647)] [(rf5 111, cn 0, cn 5), (rf5 111, cn 4, (1, 1, 0, 3))] [(0, (1, 1, 0, 2), (1, 1, 0, 1), cn 0)] [rf5 110, (1, 1, 0, 1), (1, 1, 0, 2), any7, any7] [] [] []) = true := by decide +kernel
set_option maxRecDepth 100000 in
set_option maxHeartbeats 40000000 in
theorem kdr1_6 : (jf [(111, 111, 0, 0), (111, 111, 4, 4), (111, 111, 57, 62)] && subW [(111, 111, 0, 0), (111, 111, 4, 4), (111, 111, 57, 62)] Wdr && aex prog HT [(111, 111, 0, 0), (111, 111, 4, 4), (111, 111, 57, 62)] [] true tb0 (fun i' S => decide (i' = 10) && (ctr S.2.2.1 || (ear1 S && rbC S.2.2.1 S.2.1 111 0 111 4 clr 6))) oxN 215 true 110 173 mX8_deal 10 [.inl (77777, 77777), .inl (1, 9), .inl (0, 8), .inl (-2147483648, 2147483647)] [(rf5 111, cn 0, cn 6), (rf5 111, cn 4, (1, 1, 0, 3))] [(0, (1, 1, 0, 2), (1, 1, 0, 1), cn 0)] [rf5 110, (1, 1, 0, 1), (1, 1, 0, 2), any7, any7] [] [] []) = true := by decide +kernel
set_option maxRecDepth 100000 in
set_option maxHeartbeats 40000000 in
theorem kdr1_7 : (jf [(111, 111, 0, 0), (111, 111, 4, 4), (111, 111, 63, 68)] && subW [(111, 111, 0, 0), (111, 111, 4, 4), (111, 111, 63, 68)] Wdr && aex prog HT [(111, 111, 0, 0), (111, 111, 4, 4), (111, 111, 63, 68)] [] true tb0 (fun i' S => decide (i' = 10) && (ctr S.2.2.1 || (ear1 S && rbC S.2.2.1 S.2.1 111 0 111 4 clr 7))) oxN 215 true 110 173 mX8_deal 10 [.inl (77777, 77777), .inl (1, 9), .inl (0, 8), .inl (-2147483648, 2147483647)] [(rf5 111, cn 0, cn 7), (rf5 111, cn 4, (1, 1, 0, 3))] [(0, (1, 1, 0, 2), (1, 1, 0, 1), cn 0)] [rf5 110, (1, 1, 0, 1), (1, 1, 0, 2), any7, any7] [] [] []) = true := by decide +kernel
set_option maxRecDepth 100000 in
set_option maxHeartbeats 40000000 in
theorem kdr1_8 : (jf [(111, 111, 0, 0), (111, 111, 4, 4), (111, 111, 69, 74)] && subW [(111, 111, 0, 0), (111, 111, 4, 4), (111, 111, 69, 74)] Wdr && aex prog HT [(111, 111, 0, 0), (111, 111, 4, 4), (111, 111, 69, 74)] [] true tb0 (fun i' S => decide (i' = 10) && (ctr S.2.2.1 || (ear1 S && rbC S.2.2.1 S.2.1 111 0 111 4 clr 8))) oxN 215 true 110 173 mX8_deal 10 [.inl (77777, 77777), .inl (1, 9), .inl (0, 8), .inl (-2147483648, 2147483647)] [(rf5 111, cn 0, cn 8), (rf5 111, cn 4, (1, 1, 0, 3))] [(0, (1, 1, 0, 2), (1, 1, 0, 1), cn 0)] [rf5 110, (1, 1, 0, 1), (1, 1, 0, 2), any7, any7] [] [] []) = true := by decide +kernel
theorem kdr1 : ∀ m : Nat, m < 9 → (jf (Wdrm m) && subW (Wdrm m) Wdr && aex prog HT (Wdrm m) [] true tb0 (fun i' S => decide (i' = 10) && (ctr S.2.2.1 || (ear1 S && rbC S.2.2.1 S.2.1 111 0 111 4 clr m))) oxN 215 true 110 173 mX8_deal 10 [.inl (77777, 77777), .inl (1, 9), .inl (0, 8), .inl (-2147483648, 2147483647)] [(rf5 111, cn 0, cn m), (rf5 111, cn 4, (1, 1, 0, 3))] [(0, (1, 1, 0, 2), (1, 1, 0, 1), cn 0)] [rf5 110, (1, 1, 0, 1), (1, 1, 0, 2), any7, any7] [] [] []) = true
  | 0, _ => kdr1_0
  | 1, _ => kdr1_1
  | 2, _ => kdr1_2
  | 3, _ => kdr1_3
  | 4, _ => kdr1_4
  | 5, _ => kdr1_5
  | 6, _ => kdr1_6
  | 7, _ => kdr1_7
  | 8, _ => kdr1_8
  | m + 9, h => absurd h (by omega)
set_option maxRecDepth 100000 in
set_option maxHeartbeats 40000000 in
theorem kdr2 : aex prog HT [] [] true tb0 (fun i' S => decide (i' = 41) && (ctr S.2.2.1 || ear2 S)) oxN 60 true 110 173 mX8_deal 10 [.inl (77777, 77777), .inl (1, 9), .inl (0, 9)] [(rf5 111, cn 0, cn 9)] [] [rf5 110, (1, 1, 0, 1), (1, 1, 0, 2), any7, any7] [] [] [] = true := by decide +kernel
section DEALR
variable {E : pX} {h : List pC}
theorem ct_rd (hh : HI HT h) : ct h 111 0 = some (.int (ri h 111 0)) ∧ ct h 111 4 = some (.int (ri h 111 4)) := by
  obtain ⟨f, p1, u1, -⟩ := hi_int hh HT111
  exact ⟨by rw [ct_ri p1 (by decide), ← u1 0 (by decide)], by rw [ct_ri p1 (by decide), ← u1 4 (by decide)]⟩
theorem deal_rl {d : Nat} (hd : 110 ≤ d + 1) {n : Int32} (hn0 : 1 ≤ n.toInt) (hn : n.toInt ≤ 9) : ∀ (t : Nat) (c : Int32) (a3 a4 : Option Value) (h : List pC) (m : Nat), m ≤ 9 → c.toInt + t = n.toInt → 0 ≤ c.toInt → pcat2 a3 = false → pcat2 a4 = false → HI HT h → JT h → (ri h 111 0).toInt = m → Gl prog E pV1 (fun r h' => ∃ (j : Nat) (v : Int32), (j : Int) = min (t : Int) (9 - m) ∧ r = some (.int v) ∧ v.toInt = c.toInt + j ∧ HI HT h' ∧ JT h' ∧ Fr Wdr h h' ∧ DL 111 0 111 4 clr m j h h') (d + 1) mX8_deal 10 [some (.ref 110), some (.int n), some (.int c), a3, a4] [] h [] := by
  intro t
  induction t with
  | zero =>
    intro c a3 a4 h m h9 h1 h2 c3 c4 hh hj em
    refine ⟨some (.int c), h, ?_, 0, c, by omega, rfl, by omega, hh, hj, Fr.rf _ _, DL.nil em⟩
    refine RA.steps 2 rfl ?_
    refine RA.if2T (x := 41) rfl (decide_eq_true (Int32.le_iff_toInt_le.mpr (by omega))) ?_
    refine RA.steps 1 rfl ?_
    exact RA.ret rfl rfl
  | succ t ih =>
    intro c a3 a4 h m h9 h1 h2 c3 c4 hh hj em
    obtain ⟨cn1, cz1⟩ := ct_rd hh
    by_cases hm9 : m = 9
    · subst hm9
      refine hop (σ0 := fun t => match t with | 0 => 77777 | 1 => n.toInt | _ => c.toInt) kdr2 no_kc (by decide) hj hd (by decide) ⟨⟨Nat.le_refl _, agr.rf _ _⟩, fun k e hk => ?_, ?_, (fun e he => by cases he), LG.cons (lGr 110) (LG.cons (lGi (show 1 < 3 by decide) (by show n.toInt = 1 * n.toInt + 0; omega)) (LG.cons (lGi (show 2 < 3 by decide) (by show c.toInt = 1 * c.toInt + 0; omega)) (LG.cons (lG.any c3) (LG.cons (lG.any c4) LGn)))), trivial, hh, Fr.rf _ _⟩ (fun σ S L' st' h1' hec g => ?_)
      · match k, hk with
        | 0, hk => cases hk; exact ⟨Int.le_refl 77777, Int.le_refl 77777⟩
        | 1, hk => cases hk; exact ⟨hn0, hn⟩
        | 2, hk => cases hk; exact ⟨h2, by show c.toInt ≤ 9; omega⟩
        | k + 3, hk => simp at hk
      · exact cok.cs ⟨111, 0, _, Or.inl ⟨rfl, rfl⟩, cnZ _, cn1, Nat.zero_le _, by rw [em]; exact cnZ _⟩ cok.nil
      · unfold ear2 at hec
        rw [Bool.and_eq_true] at hec
        obtain ⟨b1, b2⟩ := hec
        obtain ⟨⟨gn, ga⟩, gk, gc, gf, gL, gS_, gh, gF⟩ := g
        split at b1
        · rename_i xa xb xc x3 x4 hA
          rw [hA] at gL
          simp only [Bool.and_eq_true, decide_eq_true_eq, Bool.not_eq_true'] at b1
          obtain ⟨⟨⟨⟨rfl, rfl⟩, rfl⟩, e3⟩, e4⟩ := b1
          obtain ⟨l0, l1, l2, l3, l4, rfl⟩ := fiveL gL.1
          obtain ⟨w0, k0, v0⟩ := gL.at (k := 0) rfl (by decide)
          obtain ⟨w1, k1, v1⟩ := gL.at (k := 1) rfl (by decide)
          obtain ⟨w2, k2, v2⟩ := gL.at (k := 2) rfl (by decide)
          have q3 : pcat2 l3 = false := gL.cat2 (k := 3) rfl (of_decide_eq_false e3)
          have q4 : pcat2 l4 = false := gL.cat2 (k := 4) rfl (of_decide_eq_false e4)
          obtain rfl : l0 = some w0 := k0
          obtain rfl : l1 = some w1 := k1
          obtain rfl : l2 = some w2 := k2
          obtain ⟨a, rfl, ha | ha⟩ := v0.ref (Or.inl rfl)
          rotate_left
          · exact absurd ha.1 (show ¬ (5 : Nat) = 6 by decide)
          obtain rfl : a = 110 := ha.2
          obtain ⟨u1, rfl, z1⟩ := v1.int (Nat.le_refl 1)
          obtain ⟨u2, rfl, z2⟩ := v2.int (by decide)
          obtain rfl : u1 = n := Int32.toInt_inj.mp ((zsy z1).trans (ga 1 (by decide)))
          obtain rfl : st' = [] := by
            have := gS_
            rw [List.isEmpty_iff.mp b2] at this
            exact this.nil_inv
          obtain rfl : u2 = c := Int32.toInt_inj.mp ((zsy z2).trans (ga 2 (by decide)))
          have hj1 : JT h1' := JT_P _ _ _ (by decide) gF hj
          refine ⟨some (.int u2), h1', ?_, 0, u2, by omega, rfl, by omega, gh, hj1, gF.sub rfl, DL.fr0 em gF⟩
          refine RA.steps 1 rfl ?_
          exact RA.ret rfl rfl
        · cases b1
    · have hm8 : m < 9 := by omega
      have hck := kdr1 m hm8
      rw [Bool.and_eq_true, Bool.and_eq_true] at hck
      obtain ⟨⟨hjf, hsw⟩, hck⟩ := hck
      refine hop (σ0 := fun t => match t with | 0 => 77777 | 1 => n.toInt | 2 => c.toInt | _ => (ri h 111 4).toInt) hck no_kc hjf hj hd (by decide) ⟨⟨Nat.le_refl _, agr.rf _ _⟩, fun k e hk => ?_, ?_, ?_, LG.cons (lGr 110) (LG.cons (lGi (show 1 < 4 by decide) (by show n.toInt = 1 * n.toInt + 0; omega)) (LG.cons (lGi (show 2 < 4 by decide) (by show c.toInt = 1 * c.toInt + 0; omega)) (LG.cons (lG.any c3) (LG.cons (lG.any c4) LGn)))), trivial, hh, Fr.rf _ _⟩ (fun σ S L' st' h1' hec g => ?_)
      · match k, hk with
        | 0, hk => cases hk; exact ⟨Int.le_refl 77777, Int.le_refl 77777⟩
        | 1, hk => cases hk; exact ⟨hn0, hn⟩
        | 2, hk => cases hk; exact ⟨h2, by show c.toInt ≤ 8; omega⟩
        | 3, hk => cases hk; exact ⟨i32_lo _, i32_hi _⟩
        | k + 4, hk => simp at hk
      · exact cok.cs ⟨111, 0, _, Or.inl ⟨rfl, rfl⟩, cnZ _, cn1, Nat.zero_le _, by rw [em]; exact cnZ _⟩ (cok.cs ⟨111, 4, _, Or.inl ⟨rfl, rfl⟩, cnZ _, cz1, Nat.le_refl 1, zG.mk (by decide) (by show (ri h 111 4).toInt = 1 * (ri h 111 4).toInt + 0; omega) (show 3 < 4 by decide)⟩ cok.nil)
      · intro f hf
        obtain rfl := List.mem_singleton.mp hf
        exact ⟨c.toInt, n.toInt, zG.mk (by decide) (by show c.toInt = 1 * c.toInt + 0; omega) (show 2 < 4 by decide), zG.mk (by decide) (by show n.toInt = 1 * n.toInt + 0; omega) (show 1 < 4 by decide), (show c.toInt < n.toInt by omega)⟩
      · unfold ear1 at hec
        rw [Bool.and_eq_true, Bool.and_eq_true] at hec
        obtain ⟨⟨b1, b2⟩, b3⟩ := hec
        obtain ⟨⟨gn, ga⟩, gk, gc, gf, gL, gS_, gh, gF⟩ := g
        split at b1
        · rename_i xa xb xc x3 x4 hA
          rw [hA] at gL
          simp only [Bool.and_eq_true, decide_eq_true_eq, Bool.not_eq_true'] at b1
          obtain ⟨⟨⟨⟨rfl, rfl⟩, rfl⟩, e3⟩, e4⟩ := b1
          obtain ⟨l0, l1, l2, l3, l4, rfl⟩ := fiveL gL.1
          obtain ⟨w0, k0, v0⟩ := gL.at (k := 0) rfl (by decide)
          obtain ⟨w1, k1, v1⟩ := gL.at (k := 1) rfl (by decide)
          obtain ⟨w2, k2, v2⟩ := gL.at (k := 2) rfl (by decide)
          have q3 : pcat2 l3 = false := gL.cat2 (k := 3) rfl (of_decide_eq_false e3)
          have q4 : pcat2 l4 = false := gL.cat2 (k := 4) rfl (of_decide_eq_false e4)
          obtain rfl : l0 = some w0 := k0
          obtain rfl : l1 = some w1 := k1
          obtain rfl : l2 = some w2 := k2
          obtain ⟨a, rfl, ha | ha⟩ := v0.ref (Or.inl rfl)
          rotate_left
          · exact absurd ha.1 (show ¬ (5 : Nat) = 6 by decide)
          obtain rfl : a = 110 := ha.2
          obtain ⟨u1, rfl, z1⟩ := v1.int (Nat.le_refl 1)
          obtain ⟨u2, rfl, z2⟩ := v2.int (by decide)
          obtain rfl : u1 = n := Int32.toInt_inj.mp ((zsy z1).trans (ga 1 (by decide)))
          obtain rfl : st' = [] := by
            have := gS_
            rw [List.isEmpty_iff.mp b2] at this
            exact this.nil_inv
          have y2 : u2.toInt = c.toInt + 1 := by
            have y2 : u2.toInt = 1 * σ 2 + 1 := (z2.lin (show ¬ (1 : Nat) % 2 = 0 by decide)).1
            have s2 : σ 2 = c.toInt := ga 2 (by decide)
            omega
          obtain ⟨r1, r2, r3⟩ := rbC_ok (z := ri h 111 4) (ga 3 (by decide)) (Nat.lt_of_lt_of_le (show 3 < 4 by decide) gn) gc gf b3
          have hj1 : JT h1' := JT_P _ _ _ hjf gF hj
          refine (ih u2 l3 l4 h1' (m + 1) (by omega) (by omega) (by omega) q3 q4 gh hj1 r1).weak (fun r h2' hp => ?_)
          obtain ⟨j, v, p1, p2, p3, p4, p5, p6, p7⟩ := hp
          refine ⟨j + 1, v, by omega, p2, by omega, p4, p5, (gF.sub hsw).tr p6, DL.cs hm8 r2 r3 (fun i f hi hf hne => ri_fr gF (nin_iff.mpr ?_)) p7⟩
          simp only [Wdrm, clr, List.forall_mem_cons]
          exact ⟨by omega, by omega, by omega, fun _ h => absurd h List.not_mem_nil⟩
        · cases b1
theorem deal_r (x : Int32) (hx : 1 ≤ x.toInt ∧ x.toInt ≤ 9) (hh : HI HT h) (hj : JT h) {m : Nat} (h9 : m ≤ 9) (em : (ri h 111 0).toInt = m) : ∃ (j : Nat) (v : Int32) (h' : List pC), Run prog E pV1 120 mX8_deal [.ref 110, .int x] h (some (.int v), h', 0, 0) ∧ (j : Int) = min x.toInt (9 - m) ∧ v.toInt = j ∧ HI HT h' ∧ JT h' ∧ Fr Wdr h h' ∧ DL 111 0 111 4 clr m j h h' := by
  have g : Gl prog E pV1 (fun r h' => ∃ (j : Nat) (v : Int32), (j : Int) = min x.toInt (9 - m) ∧ r = some (.int v) ∧ v.toInt = j ∧ HI HT h' ∧ JT h' ∧ Fr Wdr h h' ∧ DL 111 0 111 4 clr m j h h') 120 mX8_deal 0 (pent (m_l mX8_deal) [.ref 110, .int x]) [] h [] := by
    refine hop (σ0 := fun t => match t with | 0 => 77777 | _ => x.toInt) kdr0 no_kc (by decide) hj (by decide) (by decide) ⟨⟨Nat.le_refl _, agr.rf _ _⟩, fun k e hk => ?_, (fun e he => by cases he), (fun e he => by cases he), LG.cons (lGr 110) (LG.cons (lGi (by decide) (by show x.toInt = 1 * x.toInt + 0; omega)) (LG.cons (lG.any rfl) (LG.cons (lG.any rfl) (LG.cons (lG.any rfl) LGn)))), trivial, hh, Fr.rf _ _⟩ (fun σ S L' st' h1' hec g => ?_)
    · match k, hk with
      | 0, hk => cases hk; exact ⟨Int.le_refl 77777, Int.le_refl 77777⟩
      | 1, hk => cases hk; exact hx
      | k + 2, hk => simp at hk
    · unfold ear0 at hec
      rw [Bool.and_eq_true] at hec
      obtain ⟨b1, b2⟩ := hec
      obtain ⟨⟨gn, ga⟩, gk, gc, gf, gL, gS_, gh, gF⟩ := g
      split at b1
      · rename_i xa xb xc x3 x4 hA
        rw [hA] at gL
        simp only [Bool.and_eq_true, decide_eq_true_eq, Bool.not_eq_true'] at b1
        obtain ⟨⟨⟨⟨rfl, rfl⟩, rfl⟩, e3⟩, e4⟩ := b1
        obtain ⟨l0, l1, l2, l3, l4, rfl⟩ := fiveL gL.1
        obtain ⟨w0, k0, v0⟩ := gL.at (k := 0) rfl (by decide)
        obtain ⟨w1, k1, v1⟩ := gL.at (k := 1) rfl (by decide)
        obtain ⟨w2, k2, v2⟩ := gL.at (k := 2) rfl (by decide)
        have q3 : pcat2 l3 = false := gL.cat2 (k := 3) rfl (of_decide_eq_false e3)
        have q4 : pcat2 l4 = false := gL.cat2 (k := 4) rfl (of_decide_eq_false e4)
        obtain rfl : l0 = some w0 := k0
        obtain rfl : l1 = some w1 := k1
        obtain rfl : l2 = some w2 := k2
        obtain ⟨a, rfl, ha | ha⟩ := v0.ref (Or.inl rfl)
        rotate_left
        · exact absurd ha.1 (show ¬ (5 : Nat) = 6 by decide)
        obtain rfl : a = 110 := ha.2
        obtain ⟨u1, rfl, z1⟩ := v1.int (Nat.le_refl 1)
        obtain ⟨u2, rfl, z2⟩ := v2.int (by decide)
        obtain rfl : u1 = x := Int32.toInt_inj.mp ((zsy z1).trans (ga 1 (by decide)))
        obtain rfl : st' = [] := by
          have := gS_
          rw [List.isEmpty_iff.mp b2] at this
          exact this.nil_inv
        obtain rfl : u2 = 0 := Int32.toInt_inj.mp ((zcn z2).trans (by decide))
        have hj1 : JT h1' := JT_P _ _ _ (by decide) gF hj
        have er : ∀ a i, ri h1' a i = ri h a i := fun a i => ri_fr gF rfl
        refine (deal_rl (E := E) (d := 119) (by decide) hx.1 hx.2 u1.toInt.toNat 0 l3 l4 h1' m h9 (by rw [show (0 : Int32).toInt = 0 by decide]; omega) (by decide) q3 q4 gh hj1 (by rw [er]; exact em)).weak (fun r h2' hp => ?_)
        obtain ⟨j, v, p1, p2, p3, p4, p5, p6, p7⟩ := hp
        exact ⟨j, v, by omega, p2, (by have e0 : (0 : Int32).toInt = 0 := (by decide); omega), p4, p5, (gF.sub rfl).tr p6, DL.eq er p7⟩
      · cases b1
  obtain ⟨r, h', q1, j, v, q2, rfl, q3⟩ := g
  exact ⟨j, v, h', ⟨Nat.le_of_ble_eq_true rfl, ⟨_, _, rfl⟩, q1⟩, q2, q3⟩
end DEALR
