/-! ===== the decoding of a method's bytes, checked in one pass over them ===== -/
section DEC
def dz_rn {α : Type} (r : Jvm.ClassFile.Decoder α) (b : ByteArray) (p : Nat) : Except Jvm.ClassFile.DecodeError (α × Nat) := Jvm.ClassFile.Reader.runAt r b p
theorem dz_bnd {α β : Type} {b : ByteArray} {p q : Nat} {a : α} (r : Jvm.ClassFile.Decoder α) (f : α → Jvm.ClassFile.Decoder β) (h : dz_rn r b p = .ok (a, q)) : dz_rn (r >>= f) b p = dz_rn (f a) b q := by
  have e : dz_rn (r >>= f) b p = Except.bind (dz_rn r b p) (fun x => dz_rn (f x.1) b x.2) := rfl
  rw [e, h]
  rfl
theorem dz_mpd {α β : Type} {b : ByteArray} {p q : Nat} {a : α} (g : α → β) (r : Jvm.ClassFile.Decoder α) (h : dz_rn r b p = .ok (a, q)) : dz_rn (g <$> r) b p = .ok (g a, q) := by
  have e : dz_rn (g <$> r) b p = Except.bind (dz_rn r b p) (fun x => .ok (g x.1, x.2)) := rfl
  rw [e, h]
  rfl
theorem dz_dr1 : ∀ (l : List UInt8) (p : Nat) (x : UInt8) (r : List UInt8), l.drop p = x :: r → l.drop (p + 1) = r
  | [], p, x, r, h => by
    rw [List.drop_nil] at h
    cases h
  | a :: l, 0, x, r, h => by
    have h : a :: l = x :: r := h
    cases h
    rfl
  | a :: l, p + 1, x, r, h => dz_dr1 l p x r h
theorem dz_u1_at {b : ByteArray} {p : Nat} {x : UInt8} {r : List UInt8} (h : b.data.toList.drop p = x :: r) : dz_rn (Jvm.ClassFile.Reader.u1 : Jvm.ClassFile.Decoder Nat) b p = .ok (x.toNat, p + 1) := by
  obtain ⟨⟨l⟩⟩ := b
  have h : l.drop p = x :: r := h
  have hl : p < l.length := by
    rcases Nat.lt_or_ge p l.length with k | k
    · exact k
    · rw [List.drop_eq_nil_of_le k] at h
      cases h
  have hx : l[p]'hl = x := by
    have e := List.drop_eq_getElem_cons hl
    rw [h] at e
    exact (List.cons.inj e).1.symm
  have hs : p < (ByteArray.mk (Array.mk l)).size := hl
  have hb : (ByteArray.mk (Array.mk l))[p]'hs = x := hx
  show dz_rn (dite (p < (ByteArray.mk (Array.mk l)).size) (fun hh => (do set (p + 1); pure ((ByteArray.mk (Array.mk l))[p]'hh).toNat : Jvm.ClassFile.Decoder Nat)) (fun _ => throw (Jvm.ClassFile.HasTruncated.truncated p))) (ByteArray.mk (Array.mk l)) p = _
  rw [dif_pos hs]
  show Except.ok (((ByteArray.mk (Array.mk l))[p]'hs).toNat, p + 1) = _
  rw [hb]
section
variable {b : ByteArray} {p : Nat} {x y : UInt8} {r : List UInt8}
theorem dz_u2_at (h : b.data.toList.drop p = x :: y :: r) : dz_rn (Jvm.ClassFile.Reader.u2 : Jvm.ClassFile.Decoder Nat) b p = .ok (x.toNat * 256 + y.toNat, p + 2) := by
  unfold Jvm.ClassFile.Reader.u2
  exact (dz_bnd _ _ (dz_u1_at h)).trans ((dz_bnd _ _ (dz_u1_at (dz_dr1 _ _ _ _ h))).trans rfl)
theorem dz_s1_at (h : b.data.toList.drop p = x :: r) : dz_rn (Jvm.ClassFile.Reader.s1 : Jvm.ClassFile.Decoder Int) b p = .ok (Jvm.ClassFile.Reader.signed 8 x.toNat, p + 1) := by
  unfold Jvm.ClassFile.Reader.s1
  exact dz_mpd _ _ (dz_u1_at h)
theorem dz_s2_at (h : b.data.toList.drop p = x :: y :: r) : dz_rn (Jvm.ClassFile.Reader.s2 : Jvm.ClassFile.Decoder Int) b p = .ok (Jvm.ClassFile.Reader.signed 16 (x.toNat * 256 + y.toNat), p + 2) := by
  unfold Jvm.ClassFile.Reader.s2
  exact dz_mpd _ _ (dz_u2_at h)
theorem dz_dec_of {i : Jvm.ClassFile.Instr} {l : Nat} (h : dz_rn (Jvm.ClassFile.Decoder.instr p) b p = .ok (i, p + l)) : Jvm.ClassFile.decode b p = .ok (i, l) := by
  have e : Jvm.ClassFile.decode b p = Except.bind (dz_rn (Jvm.ClassFile.Decoder.instr p) b p) (fun x => .ok (x.1, x.2 - p)) := rfl
  rw [e, h]
  show Except.ok (i, p + l - p) = _
  rw [Nat.add_sub_cancel_left]
def dz_r1 (r : List UInt8) (n : Nat) : Bool := match r with
  | y :: _ => Nat.beq y.toNat n
  | [] => false
def dz_r2 (r : List UInt8) (n : Nat) : Bool := match r with
  | y :: z :: _ => Nat.beq (y.toNat * 256 + z.toNat) n
  | _ => false
def dz_s1b (r : List UInt8) (n : Int) : Bool := match r with
  | y :: _ => decide (Jvm.ClassFile.Reader.signed 8 y.toNat = n)
  | [] => false
def dz_s2b (r : List UInt8) (n : Int) : Bool := match r with
  | y :: z :: _ => decide (Jvm.ClassFile.Reader.signed 16 (y.toNat * 256 + z.toNat) = n)
  | _ => false
def dz_isb (r : List UInt8) (n : Nat) (c : Int) : Bool := match r with
  | y :: z :: _ => Nat.beq y.toNat n && decide (Jvm.ClassFile.Reader.signed 8 z.toNat = c)
  | _ => false
theorem dz_g0 (k : Nat) (i : Jvm.ClassFile.Instr) (c : ∀ q : Nat, dz_rn (Jvm.ClassFile.Reader.u1 : Jvm.ClassFile.Decoder Nat) b p = .ok (k, q) → dz_rn (Jvm.ClassFile.Decoder.instr p) b p = dz_rn (pure i : Jvm.ClassFile.Decoder Jvm.ClassFile.Instr) b q) (h : b.data.toList.drop p = x :: r) (hx : Nat.beq x.toNat k = true) : Jvm.ClassFile.decode b p = .ok (i, 1) := dz_dec_of ((c (p + 1) (by rw [dz_u1_at h, Nat.eq_of_beq_eq_true hx])).trans rfl)
theorem dz_g1 {n : Nat} (k : Nat) (f : Nat → Jvm.ClassFile.Instr) (c : ∀ q : Nat, dz_rn (Jvm.ClassFile.Reader.u1 : Jvm.ClassFile.Decoder Nat) b p = .ok (k, q) → dz_rn (Jvm.ClassFile.Decoder.instr p) b p = dz_rn ((Jvm.ClassFile.Reader.u1 : Jvm.ClassFile.Decoder Nat) >>= fun n => pure (f n)) b q) (h : b.data.toList.drop p = x :: r) (hd : (Nat.beq x.toNat k && dz_r1 r n) = true) : Jvm.ClassFile.decode b p = .ok (f n, 2) := by
  rw [Bool.and_eq_true] at hd
  obtain ⟨h1, h2⟩ := hd
  cases r with
  | nil =>
    have h2 : false = true := h2
    cases h2
  | cons y r =>
    have hn : Nat.beq y.toNat n = true := h2
    refine dz_dec_of ((c (p + 1) (by rw [dz_u1_at h, Nat.eq_of_beq_eq_true h1])).trans ?_)
    rw [dz_bnd _ _ (dz_u1_at (dz_dr1 _ _ _ _ h)), Nat.eq_of_beq_eq_true hn]
    rfl
theorem dz_g2 {n : Nat} (k : Nat) (f : Nat → Jvm.ClassFile.Instr) (c : ∀ q : Nat, dz_rn (Jvm.ClassFile.Reader.u1 : Jvm.ClassFile.Decoder Nat) b p = .ok (k, q) → dz_rn (Jvm.ClassFile.Decoder.instr p) b p = dz_rn ((Jvm.ClassFile.Reader.u2 : Jvm.ClassFile.Decoder Nat) >>= fun n => pure (f n)) b q) (h : b.data.toList.drop p = x :: r) (hd : (Nat.beq x.toNat k && dz_r2 r n) = true) : Jvm.ClassFile.decode b p = .ok (f n, 3) := by
  rw [Bool.and_eq_true] at hd
  obtain ⟨h1, h2⟩ := hd
  match r, h, h2 with
  | [], h, h2 => cases (show false = true from h2)
  | [y], h, h2 => cases (show false = true from h2)
  | y :: z :: r, h, h2 =>
    have hn : Nat.beq (y.toNat * 256 + z.toNat) n = true := h2
    refine dz_dec_of ((c (p + 1) (by rw [dz_u1_at h, Nat.eq_of_beq_eq_true h1])).trans ?_)
    rw [dz_bnd _ _ (dz_u2_at (dz_dr1 _ _ _ _ h)), Nat.eq_of_beq_eq_true hn]
    rfl
theorem dz_gs1 {n : Int} (k : Nat) (f : Int → Jvm.ClassFile.Instr) (c : ∀ q : Nat, dz_rn (Jvm.ClassFile.Reader.u1 : Jvm.ClassFile.Decoder Nat) b p = .ok (k, q) → dz_rn (Jvm.ClassFile.Decoder.instr p) b p = dz_rn ((Jvm.ClassFile.Reader.s1 : Jvm.ClassFile.Decoder Int) >>= fun n => pure (f n)) b q) (h : b.data.toList.drop p = x :: r) (hd : (Nat.beq x.toNat k && dz_s1b r n) = true) : Jvm.ClassFile.decode b p = .ok (f n, 2) := by
  rw [Bool.and_eq_true] at hd
  obtain ⟨h1, h2⟩ := hd
  cases r with
  | nil =>
    have h2 : false = true := h2
    cases h2
  | cons y r =>
    have hn : Jvm.ClassFile.Reader.signed 8 y.toNat = n := of_decide_eq_true h2
    refine dz_dec_of ((c (p + 1) (by rw [dz_u1_at h, Nat.eq_of_beq_eq_true h1])).trans ?_)
    rw [dz_bnd _ _ (dz_s1_at (dz_dr1 _ _ _ _ h)), hn]
    rfl
theorem dz_gs2 {n : Int} (k : Nat) (f : Int → Jvm.ClassFile.Instr) (c : ∀ q : Nat, dz_rn (Jvm.ClassFile.Reader.u1 : Jvm.ClassFile.Decoder Nat) b p = .ok (k, q) → dz_rn (Jvm.ClassFile.Decoder.instr p) b p = dz_rn ((Jvm.ClassFile.Reader.s2 : Jvm.ClassFile.Decoder Int) >>= fun n => pure (f n)) b q) (h : b.data.toList.drop p = x :: r) (hd : (Nat.beq x.toNat k && dz_s2b r n) = true) : Jvm.ClassFile.decode b p = .ok (f n, 3) := by
  rw [Bool.and_eq_true] at hd
  obtain ⟨h1, h2⟩ := hd
  match r, h, h2 with
  | [], h, h2 => cases (show false = true from h2)
  | [y], h, h2 => cases (show false = true from h2)
  | y :: z :: r, h, h2 =>
    have hn : Jvm.ClassFile.Reader.signed 16 (y.toNat * 256 + z.toNat) = n := of_decide_eq_true h2
    refine dz_dec_of ((c (p + 1) (by rw [dz_u1_at h, Nat.eq_of_beq_eq_true h1])).trans ?_)
    rw [dz_bnd _ _ (dz_s2_at (dz_dr1 _ _ _ _ h)), hn]
    rfl
theorem op_1 {q : Nat} (h : dz_rn (Jvm.ClassFile.Reader.u1 : Jvm.ClassFile.Decoder Nat) b p = .ok (1, q)) : dz_rn (Jvm.ClassFile.Decoder.instr p) b p = dz_rn (pure (Jvm.ClassFile.Instr.aconst_null) : Jvm.ClassFile.Decoder Jvm.ClassFile.Instr) b q := by
  unfold Jvm.ClassFile.Decoder.instr
  exact dz_bnd (a := 1) _ _ h
theorem op_2 {q : Nat} (h : dz_rn (Jvm.ClassFile.Reader.u1 : Jvm.ClassFile.Decoder Nat) b p = .ok (2, q)) : dz_rn (Jvm.ClassFile.Decoder.instr p) b p = dz_rn (pure (Jvm.ClassFile.Instr.iconst (-1)) : Jvm.ClassFile.Decoder Jvm.ClassFile.Instr) b q := by
  unfold Jvm.ClassFile.Decoder.instr
  exact dz_bnd (a := 2) _ _ h
theorem op_3 {q : Nat} (h : dz_rn (Jvm.ClassFile.Reader.u1 : Jvm.ClassFile.Decoder Nat) b p = .ok (3, q)) : dz_rn (Jvm.ClassFile.Decoder.instr p) b p = dz_rn (pure (Jvm.ClassFile.Instr.iconst (0)) : Jvm.ClassFile.Decoder Jvm.ClassFile.Instr) b q := by
  unfold Jvm.ClassFile.Decoder.instr
  exact dz_bnd (a := 3) _ _ h
theorem op_4 {q : Nat} (h : dz_rn (Jvm.ClassFile.Reader.u1 : Jvm.ClassFile.Decoder Nat) b p = .ok (4, q)) : dz_rn (Jvm.ClassFile.Decoder.instr p) b p = dz_rn (pure (Jvm.ClassFile.Instr.iconst (1)) : Jvm.ClassFile.Decoder Jvm.ClassFile.Instr) b q := by
  unfold Jvm.ClassFile.Decoder.instr
  exact dz_bnd (a := 4) _ _ h
theorem op_5 {q : Nat} (h : dz_rn (Jvm.ClassFile.Reader.u1 : Jvm.ClassFile.Decoder Nat) b p = .ok (5, q)) : dz_rn (Jvm.ClassFile.Decoder.instr p) b p = dz_rn (pure (Jvm.ClassFile.Instr.iconst (2)) : Jvm.ClassFile.Decoder Jvm.ClassFile.Instr) b q := by
  unfold Jvm.ClassFile.Decoder.instr
  exact dz_bnd (a := 5) _ _ h
theorem op_6 {q : Nat} (h : dz_rn (Jvm.ClassFile.Reader.u1 : Jvm.ClassFile.Decoder Nat) b p = .ok (6, q)) : dz_rn (Jvm.ClassFile.Decoder.instr p) b p = dz_rn (pure (Jvm.ClassFile.Instr.iconst (3)) : Jvm.ClassFile.Decoder Jvm.ClassFile.Instr) b q := by
  unfold Jvm.ClassFile.Decoder.instr
  exact dz_bnd (a := 6) _ _ h
theorem op_7 {q : Nat} (h : dz_rn (Jvm.ClassFile.Reader.u1 : Jvm.ClassFile.Decoder Nat) b p = .ok (7, q)) : dz_rn (Jvm.ClassFile.Decoder.instr p) b p = dz_rn (pure (Jvm.ClassFile.Instr.iconst (4)) : Jvm.ClassFile.Decoder Jvm.ClassFile.Instr) b q := by
  unfold Jvm.ClassFile.Decoder.instr
  exact dz_bnd (a := 7) _ _ h
theorem op_8 {q : Nat} (h : dz_rn (Jvm.ClassFile.Reader.u1 : Jvm.ClassFile.Decoder Nat) b p = .ok (8, q)) : dz_rn (Jvm.ClassFile.Decoder.instr p) b p = dz_rn (pure (Jvm.ClassFile.Instr.iconst (5)) : Jvm.ClassFile.Decoder Jvm.ClassFile.Instr) b q := by
  unfold Jvm.ClassFile.Decoder.instr
  exact dz_bnd (a := 8) _ _ h
theorem op_9 {q : Nat} (h : dz_rn (Jvm.ClassFile.Reader.u1 : Jvm.ClassFile.Decoder Nat) b p = .ok (9, q)) : dz_rn (Jvm.ClassFile.Decoder.instr p) b p = dz_rn (pure (Jvm.ClassFile.Instr.lconst 0) : Jvm.ClassFile.Decoder Jvm.ClassFile.Instr) b q := by
  unfold Jvm.ClassFile.Decoder.instr
  exact dz_bnd (a := 9) _ _ h
theorem op_10 {q : Nat} (h : dz_rn (Jvm.ClassFile.Reader.u1 : Jvm.ClassFile.Decoder Nat) b p = .ok (10, q)) : dz_rn (Jvm.ClassFile.Decoder.instr p) b p = dz_rn (pure (Jvm.ClassFile.Instr.lconst 1) : Jvm.ClassFile.Decoder Jvm.ClassFile.Instr) b q := by
  unfold Jvm.ClassFile.Decoder.instr
  exact dz_bnd (a := 10) _ _ h
theorem op_16 {q : Nat} (h : dz_rn (Jvm.ClassFile.Reader.u1 : Jvm.ClassFile.Decoder Nat) b p = .ok (16, q)) : dz_rn (Jvm.ClassFile.Decoder.instr p) b p = dz_rn ((Jvm.ClassFile.Reader.s1 : Jvm.ClassFile.Decoder Int) >>= fun n => pure (Jvm.ClassFile.Instr.bipush n)) b q := by
  unfold Jvm.ClassFile.Decoder.instr
  exact dz_bnd (a := 16) _ _ h
theorem op_17 {q : Nat} (h : dz_rn (Jvm.ClassFile.Reader.u1 : Jvm.ClassFile.Decoder Nat) b p = .ok (17, q)) : dz_rn (Jvm.ClassFile.Decoder.instr p) b p = dz_rn ((Jvm.ClassFile.Reader.s2 : Jvm.ClassFile.Decoder Int) >>= fun n => pure (Jvm.ClassFile.Instr.sipush n)) b q := by
  unfold Jvm.ClassFile.Decoder.instr
  exact dz_bnd (a := 17) _ _ h
theorem op_18 {q : Nat} (h : dz_rn (Jvm.ClassFile.Reader.u1 : Jvm.ClassFile.Decoder Nat) b p = .ok (18, q)) : dz_rn (Jvm.ClassFile.Decoder.instr p) b p = dz_rn ((Jvm.ClassFile.Reader.u1 : Jvm.ClassFile.Decoder Nat) >>= fun n => pure (Jvm.ClassFile.Instr.ldc n)) b q := by
  unfold Jvm.ClassFile.Decoder.instr
  exact dz_bnd (a := 18) _ _ h
theorem op_19 {q : Nat} (h : dz_rn (Jvm.ClassFile.Reader.u1 : Jvm.ClassFile.Decoder Nat) b p = .ok (19, q)) : dz_rn (Jvm.ClassFile.Decoder.instr p) b p = dz_rn ((Jvm.ClassFile.Reader.u2 : Jvm.ClassFile.Decoder Nat) >>= fun n => pure (Jvm.ClassFile.Instr.ldc_w n)) b q := by
  unfold Jvm.ClassFile.Decoder.instr
  exact dz_bnd (a := 19) _ _ h
theorem op_20 {q : Nat} (h : dz_rn (Jvm.ClassFile.Reader.u1 : Jvm.ClassFile.Decoder Nat) b p = .ok (20, q)) : dz_rn (Jvm.ClassFile.Decoder.instr p) b p = dz_rn ((Jvm.ClassFile.Reader.u2 : Jvm.ClassFile.Decoder Nat) >>= fun n => pure (Jvm.ClassFile.Instr.ldc2_w n)) b q := by
  unfold Jvm.ClassFile.Decoder.instr
  exact dz_bnd (a := 20) _ _ h
theorem op_21 {q : Nat} (h : dz_rn (Jvm.ClassFile.Reader.u1 : Jvm.ClassFile.Decoder Nat) b p = .ok (21, q)) : dz_rn (Jvm.ClassFile.Decoder.instr p) b p = dz_rn ((Jvm.ClassFile.Reader.u1 : Jvm.ClassFile.Decoder Nat) >>= fun n => pure (Jvm.ClassFile.Instr.iload n)) b q := by
  unfold Jvm.ClassFile.Decoder.instr
  exact dz_bnd (a := 21) _ _ h
theorem op_25 {q : Nat} (h : dz_rn (Jvm.ClassFile.Reader.u1 : Jvm.ClassFile.Decoder Nat) b p = .ok (25, q)) : dz_rn (Jvm.ClassFile.Decoder.instr p) b p = dz_rn ((Jvm.ClassFile.Reader.u1 : Jvm.ClassFile.Decoder Nat) >>= fun n => pure (Jvm.ClassFile.Instr.aload n)) b q := by
  unfold Jvm.ClassFile.Decoder.instr
  exact dz_bnd (a := 25) _ _ h
theorem op_26 {q : Nat} (h : dz_rn (Jvm.ClassFile.Reader.u1 : Jvm.ClassFile.Decoder Nat) b p = .ok (26, q)) : dz_rn (Jvm.ClassFile.Decoder.instr p) b p = dz_rn (pure (Jvm.ClassFile.Instr.iload_n 0) : Jvm.ClassFile.Decoder Jvm.ClassFile.Instr) b q := by
  unfold Jvm.ClassFile.Decoder.instr
  exact dz_bnd (a := 26) _ _ h
theorem op_27 {q : Nat} (h : dz_rn (Jvm.ClassFile.Reader.u1 : Jvm.ClassFile.Decoder Nat) b p = .ok (27, q)) : dz_rn (Jvm.ClassFile.Decoder.instr p) b p = dz_rn (pure (Jvm.ClassFile.Instr.iload_n 1) : Jvm.ClassFile.Decoder Jvm.ClassFile.Instr) b q := by
  unfold Jvm.ClassFile.Decoder.instr
  exact dz_bnd (a := 27) _ _ h
theorem op_28 {q : Nat} (h : dz_rn (Jvm.ClassFile.Reader.u1 : Jvm.ClassFile.Decoder Nat) b p = .ok (28, q)) : dz_rn (Jvm.ClassFile.Decoder.instr p) b p = dz_rn (pure (Jvm.ClassFile.Instr.iload_n 2) : Jvm.ClassFile.Decoder Jvm.ClassFile.Instr) b q := by
  unfold Jvm.ClassFile.Decoder.instr
  exact dz_bnd (a := 28) _ _ h
theorem op_29 {q : Nat} (h : dz_rn (Jvm.ClassFile.Reader.u1 : Jvm.ClassFile.Decoder Nat) b p = .ok (29, q)) : dz_rn (Jvm.ClassFile.Decoder.instr p) b p = dz_rn (pure (Jvm.ClassFile.Instr.iload_n 3) : Jvm.ClassFile.Decoder Jvm.ClassFile.Instr) b q := by
  unfold Jvm.ClassFile.Decoder.instr
  exact dz_bnd (a := 29) _ _ h
theorem op_42 {q : Nat} (h : dz_rn (Jvm.ClassFile.Reader.u1 : Jvm.ClassFile.Decoder Nat) b p = .ok (42, q)) : dz_rn (Jvm.ClassFile.Decoder.instr p) b p = dz_rn (pure (Jvm.ClassFile.Instr.aload_n 0) : Jvm.ClassFile.Decoder Jvm.ClassFile.Instr) b q := by
  unfold Jvm.ClassFile.Decoder.instr
  exact dz_bnd (a := 42) _ _ h
theorem op_43 {q : Nat} (h : dz_rn (Jvm.ClassFile.Reader.u1 : Jvm.ClassFile.Decoder Nat) b p = .ok (43, q)) : dz_rn (Jvm.ClassFile.Decoder.instr p) b p = dz_rn (pure (Jvm.ClassFile.Instr.aload_n 1) : Jvm.ClassFile.Decoder Jvm.ClassFile.Instr) b q := by
  unfold Jvm.ClassFile.Decoder.instr
  exact dz_bnd (a := 43) _ _ h
theorem op_44 {q : Nat} (h : dz_rn (Jvm.ClassFile.Reader.u1 : Jvm.ClassFile.Decoder Nat) b p = .ok (44, q)) : dz_rn (Jvm.ClassFile.Decoder.instr p) b p = dz_rn (pure (Jvm.ClassFile.Instr.aload_n 2) : Jvm.ClassFile.Decoder Jvm.ClassFile.Instr) b q := by
  unfold Jvm.ClassFile.Decoder.instr
  exact dz_bnd (a := 44) _ _ h
theorem op_45 {q : Nat} (h : dz_rn (Jvm.ClassFile.Reader.u1 : Jvm.ClassFile.Decoder Nat) b p = .ok (45, q)) : dz_rn (Jvm.ClassFile.Decoder.instr p) b p = dz_rn (pure (Jvm.ClassFile.Instr.aload_n 3) : Jvm.ClassFile.Decoder Jvm.ClassFile.Instr) b q := by
  unfold Jvm.ClassFile.Decoder.instr
  exact dz_bnd (a := 45) _ _ h
theorem op_46 {q : Nat} (h : dz_rn (Jvm.ClassFile.Reader.u1 : Jvm.ClassFile.Decoder Nat) b p = .ok (46, q)) : dz_rn (Jvm.ClassFile.Decoder.instr p) b p = dz_rn (pure (Jvm.ClassFile.Instr.iaload) : Jvm.ClassFile.Decoder Jvm.ClassFile.Instr) b q := by
  unfold Jvm.ClassFile.Decoder.instr
  exact dz_bnd (a := 46) _ _ h
theorem op_50 {q : Nat} (h : dz_rn (Jvm.ClassFile.Reader.u1 : Jvm.ClassFile.Decoder Nat) b p = .ok (50, q)) : dz_rn (Jvm.ClassFile.Decoder.instr p) b p = dz_rn (pure (Jvm.ClassFile.Instr.aaload) : Jvm.ClassFile.Decoder Jvm.ClassFile.Instr) b q := by
  unfold Jvm.ClassFile.Decoder.instr
  exact dz_bnd (a := 50) _ _ h
theorem op_54 {q : Nat} (h : dz_rn (Jvm.ClassFile.Reader.u1 : Jvm.ClassFile.Decoder Nat) b p = .ok (54, q)) : dz_rn (Jvm.ClassFile.Decoder.instr p) b p = dz_rn ((Jvm.ClassFile.Reader.u1 : Jvm.ClassFile.Decoder Nat) >>= fun n => pure (Jvm.ClassFile.Instr.istore n)) b q := by
  unfold Jvm.ClassFile.Decoder.instr
  exact dz_bnd (a := 54) _ _ h
theorem op_58 {q : Nat} (h : dz_rn (Jvm.ClassFile.Reader.u1 : Jvm.ClassFile.Decoder Nat) b p = .ok (58, q)) : dz_rn (Jvm.ClassFile.Decoder.instr p) b p = dz_rn ((Jvm.ClassFile.Reader.u1 : Jvm.ClassFile.Decoder Nat) >>= fun n => pure (Jvm.ClassFile.Instr.astore n)) b q := by
  unfold Jvm.ClassFile.Decoder.instr
  exact dz_bnd (a := 58) _ _ h
theorem op_59 {q : Nat} (h : dz_rn (Jvm.ClassFile.Reader.u1 : Jvm.ClassFile.Decoder Nat) b p = .ok (59, q)) : dz_rn (Jvm.ClassFile.Decoder.instr p) b p = dz_rn (pure (Jvm.ClassFile.Instr.istore_n 0) : Jvm.ClassFile.Decoder Jvm.ClassFile.Instr) b q := by
  unfold Jvm.ClassFile.Decoder.instr
  exact dz_bnd (a := 59) _ _ h
theorem op_60 {q : Nat} (h : dz_rn (Jvm.ClassFile.Reader.u1 : Jvm.ClassFile.Decoder Nat) b p = .ok (60, q)) : dz_rn (Jvm.ClassFile.Decoder.instr p) b p = dz_rn (pure (Jvm.ClassFile.Instr.istore_n 1) : Jvm.ClassFile.Decoder Jvm.ClassFile.Instr) b q := by
  unfold Jvm.ClassFile.Decoder.instr
  exact dz_bnd (a := 60) _ _ h
theorem op_61 {q : Nat} (h : dz_rn (Jvm.ClassFile.Reader.u1 : Jvm.ClassFile.Decoder Nat) b p = .ok (61, q)) : dz_rn (Jvm.ClassFile.Decoder.instr p) b p = dz_rn (pure (Jvm.ClassFile.Instr.istore_n 2) : Jvm.ClassFile.Decoder Jvm.ClassFile.Instr) b q := by
  unfold Jvm.ClassFile.Decoder.instr
  exact dz_bnd (a := 61) _ _ h
theorem op_62 {q : Nat} (h : dz_rn (Jvm.ClassFile.Reader.u1 : Jvm.ClassFile.Decoder Nat) b p = .ok (62, q)) : dz_rn (Jvm.ClassFile.Decoder.instr p) b p = dz_rn (pure (Jvm.ClassFile.Instr.istore_n 3) : Jvm.ClassFile.Decoder Jvm.ClassFile.Instr) b q := by
  unfold Jvm.ClassFile.Decoder.instr
  exact dz_bnd (a := 62) _ _ h
theorem op_75 {q : Nat} (h : dz_rn (Jvm.ClassFile.Reader.u1 : Jvm.ClassFile.Decoder Nat) b p = .ok (75, q)) : dz_rn (Jvm.ClassFile.Decoder.instr p) b p = dz_rn (pure (Jvm.ClassFile.Instr.astore_n 0) : Jvm.ClassFile.Decoder Jvm.ClassFile.Instr) b q := by
  unfold Jvm.ClassFile.Decoder.instr
  exact dz_bnd (a := 75) _ _ h
theorem op_76 {q : Nat} (h : dz_rn (Jvm.ClassFile.Reader.u1 : Jvm.ClassFile.Decoder Nat) b p = .ok (76, q)) : dz_rn (Jvm.ClassFile.Decoder.instr p) b p = dz_rn (pure (Jvm.ClassFile.Instr.astore_n 1) : Jvm.ClassFile.Decoder Jvm.ClassFile.Instr) b q := by
  unfold Jvm.ClassFile.Decoder.instr
  exact dz_bnd (a := 76) _ _ h
theorem op_77 {q : Nat} (h : dz_rn (Jvm.ClassFile.Reader.u1 : Jvm.ClassFile.Decoder Nat) b p = .ok (77, q)) : dz_rn (Jvm.ClassFile.Decoder.instr p) b p = dz_rn (pure (Jvm.ClassFile.Instr.astore_n 2) : Jvm.ClassFile.Decoder Jvm.ClassFile.Instr) b q := by
  unfold Jvm.ClassFile.Decoder.instr
  exact dz_bnd (a := 77) _ _ h
theorem op_78 {q : Nat} (h : dz_rn (Jvm.ClassFile.Reader.u1 : Jvm.ClassFile.Decoder Nat) b p = .ok (78, q)) : dz_rn (Jvm.ClassFile.Decoder.instr p) b p = dz_rn (pure (Jvm.ClassFile.Instr.astore_n 3) : Jvm.ClassFile.Decoder Jvm.ClassFile.Instr) b q := by
  unfold Jvm.ClassFile.Decoder.instr
  exact dz_bnd (a := 78) _ _ h
theorem op_79 {q : Nat} (h : dz_rn (Jvm.ClassFile.Reader.u1 : Jvm.ClassFile.Decoder Nat) b p = .ok (79, q)) : dz_rn (Jvm.ClassFile.Decoder.instr p) b p = dz_rn (pure (Jvm.ClassFile.Instr.iastore) : Jvm.ClassFile.Decoder Jvm.ClassFile.Instr) b q := by
  unfold Jvm.ClassFile.Decoder.instr
  exact dz_bnd (a := 79) _ _ h
theorem op_83 {q : Nat} (h : dz_rn (Jvm.ClassFile.Reader.u1 : Jvm.ClassFile.Decoder Nat) b p = .ok (83, q)) : dz_rn (Jvm.ClassFile.Decoder.instr p) b p = dz_rn (pure (Jvm.ClassFile.Instr.aastore) : Jvm.ClassFile.Decoder Jvm.ClassFile.Instr) b q := by
  unfold Jvm.ClassFile.Decoder.instr
  exact dz_bnd (a := 83) _ _ h
theorem op_87 {q : Nat} (h : dz_rn (Jvm.ClassFile.Reader.u1 : Jvm.ClassFile.Decoder Nat) b p = .ok (87, q)) : dz_rn (Jvm.ClassFile.Decoder.instr p) b p = dz_rn (pure (Jvm.ClassFile.Instr.pop) : Jvm.ClassFile.Decoder Jvm.ClassFile.Instr) b q := by
  unfold Jvm.ClassFile.Decoder.instr
  exact dz_bnd (a := 87) _ _ h
theorem op_89 {q : Nat} (h : dz_rn (Jvm.ClassFile.Reader.u1 : Jvm.ClassFile.Decoder Nat) b p = .ok (89, q)) : dz_rn (Jvm.ClassFile.Decoder.instr p) b p = dz_rn (pure (Jvm.ClassFile.Instr.dup) : Jvm.ClassFile.Decoder Jvm.ClassFile.Instr) b q := by
  unfold Jvm.ClassFile.Decoder.instr
  exact dz_bnd (a := 89) _ _ h
theorem op_92 {q : Nat} (h : dz_rn (Jvm.ClassFile.Reader.u1 : Jvm.ClassFile.Decoder Nat) b p = .ok (92, q)) : dz_rn (Jvm.ClassFile.Decoder.instr p) b p = dz_rn (pure (Jvm.ClassFile.Instr.dup2) : Jvm.ClassFile.Decoder Jvm.ClassFile.Instr) b q := by
  unfold Jvm.ClassFile.Decoder.instr
  exact dz_bnd (a := 92) _ _ h
theorem op_96 {q : Nat} (h : dz_rn (Jvm.ClassFile.Reader.u1 : Jvm.ClassFile.Decoder Nat) b p = .ok (96, q)) : dz_rn (Jvm.ClassFile.Decoder.instr p) b p = dz_rn (pure (Jvm.ClassFile.Instr.iadd) : Jvm.ClassFile.Decoder Jvm.ClassFile.Instr) b q := by
  unfold Jvm.ClassFile.Decoder.instr
  exact dz_bnd (a := 96) _ _ h
theorem op_100 {q : Nat} (h : dz_rn (Jvm.ClassFile.Reader.u1 : Jvm.ClassFile.Decoder Nat) b p = .ok (100, q)) : dz_rn (Jvm.ClassFile.Decoder.instr p) b p = dz_rn (pure (Jvm.ClassFile.Instr.isub) : Jvm.ClassFile.Decoder Jvm.ClassFile.Instr) b q := by
  unfold Jvm.ClassFile.Decoder.instr
  exact dz_bnd (a := 100) _ _ h
theorem op_104 {q : Nat} (h : dz_rn (Jvm.ClassFile.Reader.u1 : Jvm.ClassFile.Decoder Nat) b p = .ok (104, q)) : dz_rn (Jvm.ClassFile.Decoder.instr p) b p = dz_rn (pure (Jvm.ClassFile.Instr.imul) : Jvm.ClassFile.Decoder Jvm.ClassFile.Instr) b q := by
  unfold Jvm.ClassFile.Decoder.instr
  exact dz_bnd (a := 104) _ _ h
theorem op_108 {q : Nat} (h : dz_rn (Jvm.ClassFile.Reader.u1 : Jvm.ClassFile.Decoder Nat) b p = .ok (108, q)) : dz_rn (Jvm.ClassFile.Decoder.instr p) b p = dz_rn (pure (Jvm.ClassFile.Instr.idiv) : Jvm.ClassFile.Decoder Jvm.ClassFile.Instr) b q := by
  unfold Jvm.ClassFile.Decoder.instr
  exact dz_bnd (a := 108) _ _ h
theorem op_112 {q : Nat} (h : dz_rn (Jvm.ClassFile.Reader.u1 : Jvm.ClassFile.Decoder Nat) b p = .ok (112, q)) : dz_rn (Jvm.ClassFile.Decoder.instr p) b p = dz_rn (pure (Jvm.ClassFile.Instr.irem) : Jvm.ClassFile.Decoder Jvm.ClassFile.Instr) b q := by
  unfold Jvm.ClassFile.Decoder.instr
  exact dz_bnd (a := 112) _ _ h
theorem op_116 {q : Nat} (h : dz_rn (Jvm.ClassFile.Reader.u1 : Jvm.ClassFile.Decoder Nat) b p = .ok (116, q)) : dz_rn (Jvm.ClassFile.Decoder.instr p) b p = dz_rn (pure (Jvm.ClassFile.Instr.ineg) : Jvm.ClassFile.Decoder Jvm.ClassFile.Instr) b q := by
  unfold Jvm.ClassFile.Decoder.instr
  exact dz_bnd (a := 116) _ _ h
theorem op_120 {q : Nat} (h : dz_rn (Jvm.ClassFile.Reader.u1 : Jvm.ClassFile.Decoder Nat) b p = .ok (120, q)) : dz_rn (Jvm.ClassFile.Decoder.instr p) b p = dz_rn (pure (Jvm.ClassFile.Instr.ishl) : Jvm.ClassFile.Decoder Jvm.ClassFile.Instr) b q := by
  unfold Jvm.ClassFile.Decoder.instr
  exact dz_bnd (a := 120) _ _ h
theorem op_122 {q : Nat} (h : dz_rn (Jvm.ClassFile.Reader.u1 : Jvm.ClassFile.Decoder Nat) b p = .ok (122, q)) : dz_rn (Jvm.ClassFile.Decoder.instr p) b p = dz_rn (pure (Jvm.ClassFile.Instr.ishr) : Jvm.ClassFile.Decoder Jvm.ClassFile.Instr) b q := by
  unfold Jvm.ClassFile.Decoder.instr
  exact dz_bnd (a := 122) _ _ h
theorem op_124 {q : Nat} (h : dz_rn (Jvm.ClassFile.Reader.u1 : Jvm.ClassFile.Decoder Nat) b p = .ok (124, q)) : dz_rn (Jvm.ClassFile.Decoder.instr p) b p = dz_rn (pure (Jvm.ClassFile.Instr.iushr) : Jvm.ClassFile.Decoder Jvm.ClassFile.Instr) b q := by
  unfold Jvm.ClassFile.Decoder.instr
  exact dz_bnd (a := 124) _ _ h
theorem op_126 {q : Nat} (h : dz_rn (Jvm.ClassFile.Reader.u1 : Jvm.ClassFile.Decoder Nat) b p = .ok (126, q)) : dz_rn (Jvm.ClassFile.Decoder.instr p) b p = dz_rn (pure (Jvm.ClassFile.Instr.iand) : Jvm.ClassFile.Decoder Jvm.ClassFile.Instr) b q := by
  unfold Jvm.ClassFile.Decoder.instr
  exact dz_bnd (a := 126) _ _ h
theorem op_128 {q : Nat} (h : dz_rn (Jvm.ClassFile.Reader.u1 : Jvm.ClassFile.Decoder Nat) b p = .ok (128, q)) : dz_rn (Jvm.ClassFile.Decoder.instr p) b p = dz_rn (pure (Jvm.ClassFile.Instr.ior) : Jvm.ClassFile.Decoder Jvm.ClassFile.Instr) b q := by
  unfold Jvm.ClassFile.Decoder.instr
  exact dz_bnd (a := 128) _ _ h
theorem op_130 {q : Nat} (h : dz_rn (Jvm.ClassFile.Reader.u1 : Jvm.ClassFile.Decoder Nat) b p = .ok (130, q)) : dz_rn (Jvm.ClassFile.Decoder.instr p) b p = dz_rn (pure (Jvm.ClassFile.Instr.ixor) : Jvm.ClassFile.Decoder Jvm.ClassFile.Instr) b q := by
  unfold Jvm.ClassFile.Decoder.instr
  exact dz_bnd (a := 130) _ _ h
theorem op_132 {q : Nat} (h : dz_rn (Jvm.ClassFile.Reader.u1 : Jvm.ClassFile.Decoder Nat) b p = .ok (132, q)) : dz_rn (Jvm.ClassFile.Decoder.instr p) b p = dz_rn ((Jvm.ClassFile.Reader.u1 : Jvm.ClassFile.Decoder Nat) >>= fun n => (Jvm.ClassFile.Reader.s1 : Jvm.ClassFile.Decoder Int) >>= fun c => pure (Jvm.ClassFile.Instr.iinc n c)) b q := by
  unfold Jvm.ClassFile.Decoder.instr
  exact dz_bnd (a := 132) _ _ h
theorem op_133 {q : Nat} (h : dz_rn (Jvm.ClassFile.Reader.u1 : Jvm.ClassFile.Decoder Nat) b p = .ok (133, q)) : dz_rn (Jvm.ClassFile.Decoder.instr p) b p = dz_rn (pure (Jvm.ClassFile.Instr.i2l) : Jvm.ClassFile.Decoder Jvm.ClassFile.Instr) b q := by
  unfold Jvm.ClassFile.Decoder.instr
  exact dz_bnd (a := 133) _ _ h
theorem op_148 {q : Nat} (h : dz_rn (Jvm.ClassFile.Reader.u1 : Jvm.ClassFile.Decoder Nat) b p = .ok (148, q)) : dz_rn (Jvm.ClassFile.Decoder.instr p) b p = dz_rn (pure (Jvm.ClassFile.Instr.lcmp) : Jvm.ClassFile.Decoder Jvm.ClassFile.Instr) b q := by
  unfold Jvm.ClassFile.Decoder.instr
  exact dz_bnd (a := 148) _ _ h
theorem op_153 {q : Nat} (h : dz_rn (Jvm.ClassFile.Reader.u1 : Jvm.ClassFile.Decoder Nat) b p = .ok (153, q)) : dz_rn (Jvm.ClassFile.Decoder.instr p) b p = dz_rn ((Jvm.ClassFile.Reader.s2 : Jvm.ClassFile.Decoder Int) >>= fun n => pure (Jvm.ClassFile.Instr.ifCond .eq n)) b q := by
  unfold Jvm.ClassFile.Decoder.instr
  exact dz_bnd (a := 153) _ _ h
theorem op_154 {q : Nat} (h : dz_rn (Jvm.ClassFile.Reader.u1 : Jvm.ClassFile.Decoder Nat) b p = .ok (154, q)) : dz_rn (Jvm.ClassFile.Decoder.instr p) b p = dz_rn ((Jvm.ClassFile.Reader.s2 : Jvm.ClassFile.Decoder Int) >>= fun n => pure (Jvm.ClassFile.Instr.ifCond .ne n)) b q := by
  unfold Jvm.ClassFile.Decoder.instr
  exact dz_bnd (a := 154) _ _ h
theorem op_155 {q : Nat} (h : dz_rn (Jvm.ClassFile.Reader.u1 : Jvm.ClassFile.Decoder Nat) b p = .ok (155, q)) : dz_rn (Jvm.ClassFile.Decoder.instr p) b p = dz_rn ((Jvm.ClassFile.Reader.s2 : Jvm.ClassFile.Decoder Int) >>= fun n => pure (Jvm.ClassFile.Instr.ifCond .lt n)) b q := by
  unfold Jvm.ClassFile.Decoder.instr
  exact dz_bnd (a := 155) _ _ h
theorem op_156 {q : Nat} (h : dz_rn (Jvm.ClassFile.Reader.u1 : Jvm.ClassFile.Decoder Nat) b p = .ok (156, q)) : dz_rn (Jvm.ClassFile.Decoder.instr p) b p = dz_rn ((Jvm.ClassFile.Reader.s2 : Jvm.ClassFile.Decoder Int) >>= fun n => pure (Jvm.ClassFile.Instr.ifCond .ge n)) b q := by
  unfold Jvm.ClassFile.Decoder.instr
  exact dz_bnd (a := 156) _ _ h
theorem op_157 {q : Nat} (h : dz_rn (Jvm.ClassFile.Reader.u1 : Jvm.ClassFile.Decoder Nat) b p = .ok (157, q)) : dz_rn (Jvm.ClassFile.Decoder.instr p) b p = dz_rn ((Jvm.ClassFile.Reader.s2 : Jvm.ClassFile.Decoder Int) >>= fun n => pure (Jvm.ClassFile.Instr.ifCond .gt n)) b q := by
  unfold Jvm.ClassFile.Decoder.instr
  exact dz_bnd (a := 157) _ _ h
theorem op_158 {q : Nat} (h : dz_rn (Jvm.ClassFile.Reader.u1 : Jvm.ClassFile.Decoder Nat) b p = .ok (158, q)) : dz_rn (Jvm.ClassFile.Decoder.instr p) b p = dz_rn ((Jvm.ClassFile.Reader.s2 : Jvm.ClassFile.Decoder Int) >>= fun n => pure (Jvm.ClassFile.Instr.ifCond .le n)) b q := by
  unfold Jvm.ClassFile.Decoder.instr
  exact dz_bnd (a := 158) _ _ h
theorem op_159 {q : Nat} (h : dz_rn (Jvm.ClassFile.Reader.u1 : Jvm.ClassFile.Decoder Nat) b p = .ok (159, q)) : dz_rn (Jvm.ClassFile.Decoder.instr p) b p = dz_rn ((Jvm.ClassFile.Reader.s2 : Jvm.ClassFile.Decoder Int) >>= fun n => pure (Jvm.ClassFile.Instr.if_icmp .eq n)) b q := by
  unfold Jvm.ClassFile.Decoder.instr
  exact dz_bnd (a := 159) _ _ h
theorem op_160 {q : Nat} (h : dz_rn (Jvm.ClassFile.Reader.u1 : Jvm.ClassFile.Decoder Nat) b p = .ok (160, q)) : dz_rn (Jvm.ClassFile.Decoder.instr p) b p = dz_rn ((Jvm.ClassFile.Reader.s2 : Jvm.ClassFile.Decoder Int) >>= fun n => pure (Jvm.ClassFile.Instr.if_icmp .ne n)) b q := by
  unfold Jvm.ClassFile.Decoder.instr
  exact dz_bnd (a := 160) _ _ h
theorem op_161 {q : Nat} (h : dz_rn (Jvm.ClassFile.Reader.u1 : Jvm.ClassFile.Decoder Nat) b p = .ok (161, q)) : dz_rn (Jvm.ClassFile.Decoder.instr p) b p = dz_rn ((Jvm.ClassFile.Reader.s2 : Jvm.ClassFile.Decoder Int) >>= fun n => pure (Jvm.ClassFile.Instr.if_icmp .lt n)) b q := by
  unfold Jvm.ClassFile.Decoder.instr
  exact dz_bnd (a := 161) _ _ h
theorem op_162 {q : Nat} (h : dz_rn (Jvm.ClassFile.Reader.u1 : Jvm.ClassFile.Decoder Nat) b p = .ok (162, q)) : dz_rn (Jvm.ClassFile.Decoder.instr p) b p = dz_rn ((Jvm.ClassFile.Reader.s2 : Jvm.ClassFile.Decoder Int) >>= fun n => pure (Jvm.ClassFile.Instr.if_icmp .ge n)) b q := by
  unfold Jvm.ClassFile.Decoder.instr
  exact dz_bnd (a := 162) _ _ h
theorem op_163 {q : Nat} (h : dz_rn (Jvm.ClassFile.Reader.u1 : Jvm.ClassFile.Decoder Nat) b p = .ok (163, q)) : dz_rn (Jvm.ClassFile.Decoder.instr p) b p = dz_rn ((Jvm.ClassFile.Reader.s2 : Jvm.ClassFile.Decoder Int) >>= fun n => pure (Jvm.ClassFile.Instr.if_icmp .gt n)) b q := by
  unfold Jvm.ClassFile.Decoder.instr
  exact dz_bnd (a := 163) _ _ h
theorem op_164 {q : Nat} (h : dz_rn (Jvm.ClassFile.Reader.u1 : Jvm.ClassFile.Decoder Nat) b p = .ok (164, q)) : dz_rn (Jvm.ClassFile.Decoder.instr p) b p = dz_rn ((Jvm.ClassFile.Reader.s2 : Jvm.ClassFile.Decoder Int) >>= fun n => pure (Jvm.ClassFile.Instr.if_icmp .le n)) b q := by
  unfold Jvm.ClassFile.Decoder.instr
  exact dz_bnd (a := 164) _ _ h
theorem op_167 {q : Nat} (h : dz_rn (Jvm.ClassFile.Reader.u1 : Jvm.ClassFile.Decoder Nat) b p = .ok (167, q)) : dz_rn (Jvm.ClassFile.Decoder.instr p) b p = dz_rn ((Jvm.ClassFile.Reader.s2 : Jvm.ClassFile.Decoder Int) >>= fun n => pure (Jvm.ClassFile.Instr.goto n)) b q := by
  unfold Jvm.ClassFile.Decoder.instr
  exact dz_bnd (a := 167) _ _ h
theorem op_172 {q : Nat} (h : dz_rn (Jvm.ClassFile.Reader.u1 : Jvm.ClassFile.Decoder Nat) b p = .ok (172, q)) : dz_rn (Jvm.ClassFile.Decoder.instr p) b p = dz_rn (pure (Jvm.ClassFile.Instr.ireturn) : Jvm.ClassFile.Decoder Jvm.ClassFile.Instr) b q := by
  unfold Jvm.ClassFile.Decoder.instr
  exact dz_bnd (a := 172) _ _ h
theorem op_176 {q : Nat} (h : dz_rn (Jvm.ClassFile.Reader.u1 : Jvm.ClassFile.Decoder Nat) b p = .ok (176, q)) : dz_rn (Jvm.ClassFile.Decoder.instr p) b p = dz_rn (pure (Jvm.ClassFile.Instr.areturn) : Jvm.ClassFile.Decoder Jvm.ClassFile.Instr) b q := by
  unfold Jvm.ClassFile.Decoder.instr
  exact dz_bnd (a := 176) _ _ h
theorem op_177 {q : Nat} (h : dz_rn (Jvm.ClassFile.Reader.u1 : Jvm.ClassFile.Decoder Nat) b p = .ok (177, q)) : dz_rn (Jvm.ClassFile.Decoder.instr p) b p = dz_rn (pure (Jvm.ClassFile.Instr.return_) : Jvm.ClassFile.Decoder Jvm.ClassFile.Instr) b q := by
  unfold Jvm.ClassFile.Decoder.instr
  exact dz_bnd (a := 177) _ _ h
theorem op_180 {q : Nat} (h : dz_rn (Jvm.ClassFile.Reader.u1 : Jvm.ClassFile.Decoder Nat) b p = .ok (180, q)) : dz_rn (Jvm.ClassFile.Decoder.instr p) b p = dz_rn ((Jvm.ClassFile.Reader.u2 : Jvm.ClassFile.Decoder Nat) >>= fun n => pure (Jvm.ClassFile.Instr.getfield n)) b q := by
  unfold Jvm.ClassFile.Decoder.instr
  exact dz_bnd (a := 180) _ _ h
theorem op_181 {q : Nat} (h : dz_rn (Jvm.ClassFile.Reader.u1 : Jvm.ClassFile.Decoder Nat) b p = .ok (181, q)) : dz_rn (Jvm.ClassFile.Decoder.instr p) b p = dz_rn ((Jvm.ClassFile.Reader.u2 : Jvm.ClassFile.Decoder Nat) >>= fun n => pure (Jvm.ClassFile.Instr.putfield n)) b q := by
  unfold Jvm.ClassFile.Decoder.instr
  exact dz_bnd (a := 181) _ _ h
theorem op_182 {q : Nat} (h : dz_rn (Jvm.ClassFile.Reader.u1 : Jvm.ClassFile.Decoder Nat) b p = .ok (182, q)) : dz_rn (Jvm.ClassFile.Decoder.instr p) b p = dz_rn ((Jvm.ClassFile.Reader.u2 : Jvm.ClassFile.Decoder Nat) >>= fun n => pure (Jvm.ClassFile.Instr.invokevirtual n)) b q := by
  unfold Jvm.ClassFile.Decoder.instr
  exact dz_bnd (a := 182) _ _ h
theorem op_183 {q : Nat} (h : dz_rn (Jvm.ClassFile.Reader.u1 : Jvm.ClassFile.Decoder Nat) b p = .ok (183, q)) : dz_rn (Jvm.ClassFile.Decoder.instr p) b p = dz_rn ((Jvm.ClassFile.Reader.u2 : Jvm.ClassFile.Decoder Nat) >>= fun n => pure (Jvm.ClassFile.Instr.invokespecial n)) b q := by
  unfold Jvm.ClassFile.Decoder.instr
  exact dz_bnd (a := 183) _ _ h
theorem op_184 {q : Nat} (h : dz_rn (Jvm.ClassFile.Reader.u1 : Jvm.ClassFile.Decoder Nat) b p = .ok (184, q)) : dz_rn (Jvm.ClassFile.Decoder.instr p) b p = dz_rn ((Jvm.ClassFile.Reader.u2 : Jvm.ClassFile.Decoder Nat) >>= fun n => pure (Jvm.ClassFile.Instr.invokestatic n)) b q := by
  unfold Jvm.ClassFile.Decoder.instr
  exact dz_bnd (a := 184) _ _ h
theorem op_187 {q : Nat} (h : dz_rn (Jvm.ClassFile.Reader.u1 : Jvm.ClassFile.Decoder Nat) b p = .ok (187, q)) : dz_rn (Jvm.ClassFile.Decoder.instr p) b p = dz_rn ((Jvm.ClassFile.Reader.u2 : Jvm.ClassFile.Decoder Nat) >>= fun n => pure (Jvm.ClassFile.Instr.new n)) b q := by
  unfold Jvm.ClassFile.Decoder.instr
  exact dz_bnd (a := 187) _ _ h
theorem op_188 {q : Nat} (h : dz_rn (Jvm.ClassFile.Reader.u1 : Jvm.ClassFile.Decoder Nat) b p = .ok (188, q)) : dz_rn (Jvm.ClassFile.Decoder.instr p) b p = dz_rn (Jvm.ClassFile.Decoder.newarray p) b q := by
  unfold Jvm.ClassFile.Decoder.instr
  exact dz_bnd (a := 188) _ _ h
theorem op_189 {q : Nat} (h : dz_rn (Jvm.ClassFile.Reader.u1 : Jvm.ClassFile.Decoder Nat) b p = .ok (189, q)) : dz_rn (Jvm.ClassFile.Decoder.instr p) b p = dz_rn ((Jvm.ClassFile.Reader.u2 : Jvm.ClassFile.Decoder Nat) >>= fun n => pure (Jvm.ClassFile.Instr.anewarray n)) b q := by
  unfold Jvm.ClassFile.Decoder.instr
  exact dz_bnd (a := 189) _ _ h
theorem op_190 {q : Nat} (h : dz_rn (Jvm.ClassFile.Reader.u1 : Jvm.ClassFile.Decoder Nat) b p = .ok (190, q)) : dz_rn (Jvm.ClassFile.Decoder.instr p) b p = dz_rn (pure (Jvm.ClassFile.Instr.arraylength) : Jvm.ClassFile.Decoder Jvm.ClassFile.Instr) b q := by
  unfold Jvm.ClassFile.Decoder.instr
  exact dz_bnd (a := 190) _ _ h
theorem op_198 {q : Nat} (h : dz_rn (Jvm.ClassFile.Reader.u1 : Jvm.ClassFile.Decoder Nat) b p = .ok (198, q)) : dz_rn (Jvm.ClassFile.Decoder.instr p) b p = dz_rn ((Jvm.ClassFile.Reader.s2 : Jvm.ClassFile.Decoder Int) >>= fun n => pure (Jvm.ClassFile.Instr.ifnull n)) b q := by
  unfold Jvm.ClassFile.Decoder.instr
  exact dz_bnd (a := 198) _ _ h
theorem op_199 {q : Nat} (h : dz_rn (Jvm.ClassFile.Reader.u1 : Jvm.ClassFile.Decoder Nat) b p = .ok (199, q)) : dz_rn (Jvm.ClassFile.Decoder.instr p) b p = dz_rn ((Jvm.ClassFile.Reader.s2 : Jvm.ClassFile.Decoder Int) >>= fun n => pure (Jvm.ClassFile.Instr.ifnonnull n)) b q := by
  unfold Jvm.ClassFile.Decoder.instr
  exact dz_bnd (a := 199) _ _ h
def dz_cdx (c : Jvm.ClassFile.Cond) : Nat := match c with
  | .eq => 0
  | .ne => 1
  | .lt => 2
  | .ge => 3
  | .gt => 4
  | .le => 5
/-- an instruction, read at the first of these bytes -/
def dz_don (b : ByteArray) (x : UInt8) (r : List UInt8) (t : pE) : Bool := match e_in t with
  | .aconst_null => Nat.beq x.toNat 1
  | .iaload => Nat.beq x.toNat 46
  | .aaload => Nat.beq x.toNat 50
  | .iastore => Nat.beq x.toNat 79
  | .aastore => Nat.beq x.toNat 83
  | .pop => Nat.beq x.toNat 87
  | .dup => Nat.beq x.toNat 89
  | .dup2 => Nat.beq x.toNat 92
  | .iadd => Nat.beq x.toNat 96
  | .isub => Nat.beq x.toNat 100
  | .imul => Nat.beq x.toNat 104
  | .idiv => Nat.beq x.toNat 108
  | .irem => Nat.beq x.toNat 112
  | .ineg => Nat.beq x.toNat 116
  | .ishl => Nat.beq x.toNat 120
  | .ishr => Nat.beq x.toNat 122
  | .iushr => Nat.beq x.toNat 124
  | .iand => Nat.beq x.toNat 126
  | .ior => Nat.beq x.toNat 128
  | .ixor => Nat.beq x.toNat 130
  | .i2l => Nat.beq x.toNat 133
  | .lcmp => Nat.beq x.toNat 148
  | .ireturn => Nat.beq x.toNat 172
  | .areturn => Nat.beq x.toNat 176
  | .return_ => Nat.beq x.toNat 177
  | .arraylength => Nat.beq x.toNat 190
  | .iconst n => Nat.ble 2 x.toNat && (Nat.ble x.toNat 8 && decide (n = (x.toNat : Int) - 3))
  | .lconst n => Nat.beq x.toNat (9 + n.val)
  | .iload_n n => Nat.beq x.toNat (26 + n.val)
  | .aload_n n => Nat.beq x.toNat (42 + n.val)
  | .istore_n n => Nat.beq x.toNat (59 + n.val)
  | .astore_n n => Nat.beq x.toNat (75 + n.val)
  | .ldc n => Nat.beq x.toNat 18 && dz_r1 r n
  | .iload n => Nat.beq x.toNat 21 && dz_r1 r n
  | .aload n => Nat.beq x.toNat 25 && dz_r1 r n
  | .istore n => Nat.beq x.toNat 54 && dz_r1 r n
  | .astore n => Nat.beq x.toNat 58 && dz_r1 r n
  | .ldc_w n => Nat.beq x.toNat 19 && dz_r2 r n
  | .ldc2_w n => Nat.beq x.toNat 20 && dz_r2 r n
  | .getfield n => Nat.beq x.toNat 180 && dz_r2 r n
  | .putfield n => Nat.beq x.toNat 181 && dz_r2 r n
  | .invokevirtual n => Nat.beq x.toNat 182 && dz_r2 r n
  | .invokespecial n => Nat.beq x.toNat 183 && dz_r2 r n
  | .invokestatic n => Nat.beq x.toNat 184 && dz_r2 r n
  | .new n => Nat.beq x.toNat 187 && dz_r2 r n
  | .anewarray n => Nat.beq x.toNat 189 && dz_r2 r n
  | .bipush n => Nat.beq x.toNat 16 && dz_s1b r n
  | .sipush n => Nat.beq x.toNat 17 && dz_s2b r n
  | .goto n => Nat.beq x.toNat 167 && dz_s2b r n
  | .ifnull n => Nat.beq x.toNat 198 && dz_s2b r n
  | .ifnonnull n => Nat.beq x.toNat 199 && dz_s2b r n
  | .ifCond c n => Nat.beq x.toNat (153 + dz_cdx c) && dz_s2b r n
  | .if_icmp c n => Nat.beq x.toNat (159 + dz_cdx c) && dz_s2b r n
  | .iinc n c => Nat.beq x.toNat 132 && dz_isb r n c
  | .newarray .int => Nat.beq x.toNat 188 && dz_r1 r 10
  | _ => pwdec b t
theorem dz_don_ok {t : pE} (h : b.data.toList.drop (e_pc t) = x :: r) (hd : dz_don b x r t = true) : pwdec b t = true := by
  obtain ⟨pc, ins, tx, ty, tv, ts⟩ := t
  change b.data.toList.drop pc = x :: r at h
  cases ins with
  | aconst_null =>
    show decide (Jvm.ClassFile.decode b pc = .ok (Jvm.ClassFile.Instr.aconst_null, 1)) = true
    exact decide_eq_true (dz_g0 1 _ (fun _ k => op_1 k) h hd)
  | iaload =>
    show decide (Jvm.ClassFile.decode b pc = .ok (Jvm.ClassFile.Instr.iaload, 1)) = true
    exact decide_eq_true (dz_g0 46 _ (fun _ k => op_46 k) h hd)
  | aaload =>
    show decide (Jvm.ClassFile.decode b pc = .ok (Jvm.ClassFile.Instr.aaload, 1)) = true
    exact decide_eq_true (dz_g0 50 _ (fun _ k => op_50 k) h hd)
  | iastore =>
    show decide (Jvm.ClassFile.decode b pc = .ok (Jvm.ClassFile.Instr.iastore, 1)) = true
    exact decide_eq_true (dz_g0 79 _ (fun _ k => op_79 k) h hd)
  | aastore =>
    show decide (Jvm.ClassFile.decode b pc = .ok (Jvm.ClassFile.Instr.aastore, 1)) = true
    exact decide_eq_true (dz_g0 83 _ (fun _ k => op_83 k) h hd)
  | pop =>
    show decide (Jvm.ClassFile.decode b pc = .ok (Jvm.ClassFile.Instr.pop, 1)) = true
    exact decide_eq_true (dz_g0 87 _ (fun _ k => op_87 k) h hd)
  | dup =>
    show decide (Jvm.ClassFile.decode b pc = .ok (Jvm.ClassFile.Instr.dup, 1)) = true
    exact decide_eq_true (dz_g0 89 _ (fun _ k => op_89 k) h hd)
  | dup2 =>
    show decide (Jvm.ClassFile.decode b pc = .ok (Jvm.ClassFile.Instr.dup2, 1)) = true
    exact decide_eq_true (dz_g0 92 _ (fun _ k => op_92 k) h hd)
  | iadd =>
    show decide (Jvm.ClassFile.decode b pc = .ok (Jvm.ClassFile.Instr.iadd, 1)) = true
    exact decide_eq_true (dz_g0 96 _ (fun _ k => op_96 k) h hd)
  | isub =>
    show decide (Jvm.ClassFile.decode b pc = .ok (Jvm.ClassFile.Instr.isub, 1)) = true
    exact decide_eq_true (dz_g0 100 _ (fun _ k => op_100 k) h hd)
  | imul =>
    show decide (Jvm.ClassFile.decode b pc = .ok (Jvm.ClassFile.Instr.imul, 1)) = true
    exact decide_eq_true (dz_g0 104 _ (fun _ k => op_104 k) h hd)
  | idiv =>
    show decide (Jvm.ClassFile.decode b pc = .ok (Jvm.ClassFile.Instr.idiv, 1)) = true
    exact decide_eq_true (dz_g0 108 _ (fun _ k => op_108 k) h hd)
  | irem =>
    show decide (Jvm.ClassFile.decode b pc = .ok (Jvm.ClassFile.Instr.irem, 1)) = true
    exact decide_eq_true (dz_g0 112 _ (fun _ k => op_112 k) h hd)
  | ineg =>
    show decide (Jvm.ClassFile.decode b pc = .ok (Jvm.ClassFile.Instr.ineg, 1)) = true
    exact decide_eq_true (dz_g0 116 _ (fun _ k => op_116 k) h hd)
  | ishl =>
    show decide (Jvm.ClassFile.decode b pc = .ok (Jvm.ClassFile.Instr.ishl, 1)) = true
    exact decide_eq_true (dz_g0 120 _ (fun _ k => op_120 k) h hd)
  | ishr =>
    show decide (Jvm.ClassFile.decode b pc = .ok (Jvm.ClassFile.Instr.ishr, 1)) = true
    exact decide_eq_true (dz_g0 122 _ (fun _ k => op_122 k) h hd)
  | iushr =>
    show decide (Jvm.ClassFile.decode b pc = .ok (Jvm.ClassFile.Instr.iushr, 1)) = true
    exact decide_eq_true (dz_g0 124 _ (fun _ k => op_124 k) h hd)
  | iand =>
    show decide (Jvm.ClassFile.decode b pc = .ok (Jvm.ClassFile.Instr.iand, 1)) = true
    exact decide_eq_true (dz_g0 126 _ (fun _ k => op_126 k) h hd)
  | ior =>
    show decide (Jvm.ClassFile.decode b pc = .ok (Jvm.ClassFile.Instr.ior, 1)) = true
    exact decide_eq_true (dz_g0 128 _ (fun _ k => op_128 k) h hd)
  | ixor =>
    show decide (Jvm.ClassFile.decode b pc = .ok (Jvm.ClassFile.Instr.ixor, 1)) = true
    exact decide_eq_true (dz_g0 130 _ (fun _ k => op_130 k) h hd)
  | i2l =>
    show decide (Jvm.ClassFile.decode b pc = .ok (Jvm.ClassFile.Instr.i2l, 1)) = true
    exact decide_eq_true (dz_g0 133 _ (fun _ k => op_133 k) h hd)
  | lcmp =>
    show decide (Jvm.ClassFile.decode b pc = .ok (Jvm.ClassFile.Instr.lcmp, 1)) = true
    exact decide_eq_true (dz_g0 148 _ (fun _ k => op_148 k) h hd)
  | ireturn =>
    show decide (Jvm.ClassFile.decode b pc = .ok (Jvm.ClassFile.Instr.ireturn, 1)) = true
    exact decide_eq_true (dz_g0 172 _ (fun _ k => op_172 k) h hd)
  | areturn =>
    show decide (Jvm.ClassFile.decode b pc = .ok (Jvm.ClassFile.Instr.areturn, 1)) = true
    exact decide_eq_true (dz_g0 176 _ (fun _ k => op_176 k) h hd)
  | return_ =>
    show decide (Jvm.ClassFile.decode b pc = .ok (Jvm.ClassFile.Instr.return_, 1)) = true
    exact decide_eq_true (dz_g0 177 _ (fun _ k => op_177 k) h hd)
  | arraylength =>
    show decide (Jvm.ClassFile.decode b pc = .ok (Jvm.ClassFile.Instr.arraylength, 1)) = true
    exact decide_eq_true (dz_g0 190 _ (fun _ k => op_190 k) h hd)
  | iconst n =>
    have hd : (Nat.ble 2 x.toNat && (Nat.ble x.toNat 8 && decide (n = (x.toNat : Int) - 3))) = true := hd
    rw [Bool.and_eq_true, Bool.and_eq_true] at hd
    obtain ⟨h1, h2, h3⟩ := hd
    have h1 := Nat.le_of_ble_eq_true h1
    have h2 := Nat.le_of_ble_eq_true h2
    have h3 := of_decide_eq_true h3
    rcases (show x.toNat = 2 ∨ x.toNat = 3 ∨ x.toNat = 4 ∨ x.toNat = 5 ∨ x.toNat = 6 ∨ x.toNat = 7 ∨ x.toNat = 8 by omega) with e | e | e | e | e | e | e
    · obtain rfl : n = -1 := by omega
      show decide (Jvm.ClassFile.decode b pc = .ok (Jvm.ClassFile.Instr.iconst (-1), 1)) = true
      exact decide_eq_true (dz_g0 2 _ (fun _ k => op_2 k) h ((congrArg (fun m => Nat.beq m 2) e).trans rfl))
    · obtain rfl : n = 0 := by omega
      show decide (Jvm.ClassFile.decode b pc = .ok (Jvm.ClassFile.Instr.iconst (0), 1)) = true
      exact decide_eq_true (dz_g0 3 _ (fun _ k => op_3 k) h ((congrArg (fun m => Nat.beq m 3) e).trans rfl))
    · obtain rfl : n = 1 := by omega
      show decide (Jvm.ClassFile.decode b pc = .ok (Jvm.ClassFile.Instr.iconst (1), 1)) = true
      exact decide_eq_true (dz_g0 4 _ (fun _ k => op_4 k) h ((congrArg (fun m => Nat.beq m 4) e).trans rfl))
    · obtain rfl : n = 2 := by omega
      show decide (Jvm.ClassFile.decode b pc = .ok (Jvm.ClassFile.Instr.iconst (2), 1)) = true
      exact decide_eq_true (dz_g0 5 _ (fun _ k => op_5 k) h ((congrArg (fun m => Nat.beq m 5) e).trans rfl))
    · obtain rfl : n = 3 := by omega
      show decide (Jvm.ClassFile.decode b pc = .ok (Jvm.ClassFile.Instr.iconst (3), 1)) = true
      exact decide_eq_true (dz_g0 6 _ (fun _ k => op_6 k) h ((congrArg (fun m => Nat.beq m 6) e).trans rfl))
    · obtain rfl : n = 4 := by omega
      show decide (Jvm.ClassFile.decode b pc = .ok (Jvm.ClassFile.Instr.iconst (4), 1)) = true
      exact decide_eq_true (dz_g0 7 _ (fun _ k => op_7 k) h ((congrArg (fun m => Nat.beq m 7) e).trans rfl))
    · obtain rfl : n = 5 := by omega
      show decide (Jvm.ClassFile.decode b pc = .ok (Jvm.ClassFile.Instr.iconst (5), 1)) = true
      exact decide_eq_true (dz_g0 8 _ (fun _ k => op_8 k) h ((congrArg (fun m => Nat.beq m 8) e).trans rfl))
  | lconst n =>
    rcases (show ∀ m : Fin 2, m = 0 ∨ m = 1 by decide) n with rfl | rfl
    · show decide (Jvm.ClassFile.decode b pc = .ok (Jvm.ClassFile.Instr.lconst 0, 1)) = true
      exact decide_eq_true (dz_g0 9 _ (fun _ k => op_9 k) h hd)
    · show decide (Jvm.ClassFile.decode b pc = .ok (Jvm.ClassFile.Instr.lconst 1, 1)) = true
      exact decide_eq_true (dz_g0 10 _ (fun _ k => op_10 k) h hd)
  | iload_n n =>
    rcases (show ∀ m : Fin 4, m = 0 ∨ m = 1 ∨ m = 2 ∨ m = 3 by decide) n with rfl | rfl | rfl | rfl
    · show decide (Jvm.ClassFile.decode b pc = .ok (Jvm.ClassFile.Instr.iload_n 0, 1)) = true
      exact decide_eq_true (dz_g0 26 _ (fun _ k => op_26 k) h hd)
    · show decide (Jvm.ClassFile.decode b pc = .ok (Jvm.ClassFile.Instr.iload_n 1, 1)) = true
      exact decide_eq_true (dz_g0 27 _ (fun _ k => op_27 k) h hd)
    · show decide (Jvm.ClassFile.decode b pc = .ok (Jvm.ClassFile.Instr.iload_n 2, 1)) = true
      exact decide_eq_true (dz_g0 28 _ (fun _ k => op_28 k) h hd)
    · show decide (Jvm.ClassFile.decode b pc = .ok (Jvm.ClassFile.Instr.iload_n 3, 1)) = true
      exact decide_eq_true (dz_g0 29 _ (fun _ k => op_29 k) h hd)
  | aload_n n =>
    rcases (show ∀ m : Fin 4, m = 0 ∨ m = 1 ∨ m = 2 ∨ m = 3 by decide) n with rfl | rfl | rfl | rfl
    · show decide (Jvm.ClassFile.decode b pc = .ok (Jvm.ClassFile.Instr.aload_n 0, 1)) = true
      exact decide_eq_true (dz_g0 42 _ (fun _ k => op_42 k) h hd)
    · show decide (Jvm.ClassFile.decode b pc = .ok (Jvm.ClassFile.Instr.aload_n 1, 1)) = true
      exact decide_eq_true (dz_g0 43 _ (fun _ k => op_43 k) h hd)
    · show decide (Jvm.ClassFile.decode b pc = .ok (Jvm.ClassFile.Instr.aload_n 2, 1)) = true
      exact decide_eq_true (dz_g0 44 _ (fun _ k => op_44 k) h hd)
    · show decide (Jvm.ClassFile.decode b pc = .ok (Jvm.ClassFile.Instr.aload_n 3, 1)) = true
      exact decide_eq_true (dz_g0 45 _ (fun _ k => op_45 k) h hd)
  | istore_n n =>
    rcases (show ∀ m : Fin 4, m = 0 ∨ m = 1 ∨ m = 2 ∨ m = 3 by decide) n with rfl | rfl | rfl | rfl
    · show decide (Jvm.ClassFile.decode b pc = .ok (Jvm.ClassFile.Instr.istore_n 0, 1)) = true
      exact decide_eq_true (dz_g0 59 _ (fun _ k => op_59 k) h hd)
    · show decide (Jvm.ClassFile.decode b pc = .ok (Jvm.ClassFile.Instr.istore_n 1, 1)) = true
      exact decide_eq_true (dz_g0 60 _ (fun _ k => op_60 k) h hd)
    · show decide (Jvm.ClassFile.decode b pc = .ok (Jvm.ClassFile.Instr.istore_n 2, 1)) = true
      exact decide_eq_true (dz_g0 61 _ (fun _ k => op_61 k) h hd)
    · show decide (Jvm.ClassFile.decode b pc = .ok (Jvm.ClassFile.Instr.istore_n 3, 1)) = true
      exact decide_eq_true (dz_g0 62 _ (fun _ k => op_62 k) h hd)
  | astore_n n =>
    rcases (show ∀ m : Fin 4, m = 0 ∨ m = 1 ∨ m = 2 ∨ m = 3 by decide) n with rfl | rfl | rfl | rfl
    · show decide (Jvm.ClassFile.decode b pc = .ok (Jvm.ClassFile.Instr.astore_n 0, 1)) = true
      exact decide_eq_true (dz_g0 75 _ (fun _ k => op_75 k) h hd)
    · show decide (Jvm.ClassFile.decode b pc = .ok (Jvm.ClassFile.Instr.astore_n 1, 1)) = true
      exact decide_eq_true (dz_g0 76 _ (fun _ k => op_76 k) h hd)
    · show decide (Jvm.ClassFile.decode b pc = .ok (Jvm.ClassFile.Instr.astore_n 2, 1)) = true
      exact decide_eq_true (dz_g0 77 _ (fun _ k => op_77 k) h hd)
    · show decide (Jvm.ClassFile.decode b pc = .ok (Jvm.ClassFile.Instr.astore_n 3, 1)) = true
      exact decide_eq_true (dz_g0 78 _ (fun _ k => op_78 k) h hd)
  | ldc n =>
    show decide (Jvm.ClassFile.decode b pc = .ok (Jvm.ClassFile.Instr.ldc n, 2)) = true
    exact decide_eq_true (dz_g1 18 Jvm.ClassFile.Instr.ldc (fun _ k => op_18 k) h hd)
  | iload n =>
    show decide (Jvm.ClassFile.decode b pc = .ok (Jvm.ClassFile.Instr.iload n, 2)) = true
    exact decide_eq_true (dz_g1 21 Jvm.ClassFile.Instr.iload (fun _ k => op_21 k) h hd)
  | aload n =>
    show decide (Jvm.ClassFile.decode b pc = .ok (Jvm.ClassFile.Instr.aload n, 2)) = true
    exact decide_eq_true (dz_g1 25 Jvm.ClassFile.Instr.aload (fun _ k => op_25 k) h hd)
  | istore n =>
    show decide (Jvm.ClassFile.decode b pc = .ok (Jvm.ClassFile.Instr.istore n, 2)) = true
    exact decide_eq_true (dz_g1 54 Jvm.ClassFile.Instr.istore (fun _ k => op_54 k) h hd)
  | astore n =>
    show decide (Jvm.ClassFile.decode b pc = .ok (Jvm.ClassFile.Instr.astore n, 2)) = true
    exact decide_eq_true (dz_g1 58 Jvm.ClassFile.Instr.astore (fun _ k => op_58 k) h hd)
  | ldc_w n =>
    show decide (Jvm.ClassFile.decode b pc = .ok (Jvm.ClassFile.Instr.ldc_w n, 3)) = true
    exact decide_eq_true (dz_g2 19 Jvm.ClassFile.Instr.ldc_w (fun _ k => op_19 k) h hd)
  | ldc2_w n =>
    show decide (Jvm.ClassFile.decode b pc = .ok (Jvm.ClassFile.Instr.ldc2_w n, 3)) = true
    exact decide_eq_true (dz_g2 20 Jvm.ClassFile.Instr.ldc2_w (fun _ k => op_20 k) h hd)
  | getfield n =>
    show decide (Jvm.ClassFile.decode b pc = .ok (Jvm.ClassFile.Instr.getfield n, 3)) = true
    exact decide_eq_true (dz_g2 180 Jvm.ClassFile.Instr.getfield (fun _ k => op_180 k) h hd)
  | putfield n =>
    show decide (Jvm.ClassFile.decode b pc = .ok (Jvm.ClassFile.Instr.putfield n, 3)) = true
    exact decide_eq_true (dz_g2 181 Jvm.ClassFile.Instr.putfield (fun _ k => op_181 k) h hd)
  | invokevirtual n =>
    show decide (Jvm.ClassFile.decode b pc = .ok (Jvm.ClassFile.Instr.invokevirtual n, 3)) = true
    exact decide_eq_true (dz_g2 182 Jvm.ClassFile.Instr.invokevirtual (fun _ k => op_182 k) h hd)
  | invokespecial n =>
    show decide (Jvm.ClassFile.decode b pc = .ok (Jvm.ClassFile.Instr.invokespecial n, 3)) = true
    exact decide_eq_true (dz_g2 183 Jvm.ClassFile.Instr.invokespecial (fun _ k => op_183 k) h hd)
  | invokestatic n =>
    show decide (Jvm.ClassFile.decode b pc = .ok (Jvm.ClassFile.Instr.invokestatic n, 3)) = true
    exact decide_eq_true (dz_g2 184 Jvm.ClassFile.Instr.invokestatic (fun _ k => op_184 k) h hd)
  | new n =>
    show decide (Jvm.ClassFile.decode b pc = .ok (Jvm.ClassFile.Instr.new n, 3)) = true
    exact decide_eq_true (dz_g2 187 Jvm.ClassFile.Instr.new (fun _ k => op_187 k) h hd)
  | anewarray n =>
    show decide (Jvm.ClassFile.decode b pc = .ok (Jvm.ClassFile.Instr.anewarray n, 3)) = true
    exact decide_eq_true (dz_g2 189 Jvm.ClassFile.Instr.anewarray (fun _ k => op_189 k) h hd)
  | bipush n =>
    show decide (Jvm.ClassFile.decode b pc = .ok (Jvm.ClassFile.Instr.bipush n, 2)) = true
    exact decide_eq_true (dz_gs1 16 Jvm.ClassFile.Instr.bipush (fun _ k => op_16 k) h hd)
  | sipush n =>
    show decide (Jvm.ClassFile.decode b pc = .ok (Jvm.ClassFile.Instr.sipush n, 3)) = true
    exact decide_eq_true (dz_gs2 17 Jvm.ClassFile.Instr.sipush (fun _ k => op_17 k) h hd)
  | goto n =>
    show decide (Jvm.ClassFile.decode b pc = .ok (Jvm.ClassFile.Instr.goto n, 3)) = true
    exact decide_eq_true (dz_gs2 167 Jvm.ClassFile.Instr.goto (fun _ k => op_167 k) h hd)
  | ifnull n =>
    show decide (Jvm.ClassFile.decode b pc = .ok (Jvm.ClassFile.Instr.ifnull n, 3)) = true
    exact decide_eq_true (dz_gs2 198 Jvm.ClassFile.Instr.ifnull (fun _ k => op_198 k) h hd)
  | ifnonnull n =>
    show decide (Jvm.ClassFile.decode b pc = .ok (Jvm.ClassFile.Instr.ifnonnull n, 3)) = true
    exact decide_eq_true (dz_gs2 199 Jvm.ClassFile.Instr.ifnonnull (fun _ k => op_199 k) h hd)
  | ifCond c n =>
    cases c with
    | eq =>
      show decide (Jvm.ClassFile.decode b pc = .ok (Jvm.ClassFile.Instr.ifCond .eq n, 3)) = true
      exact decide_eq_true (dz_gs2 153 (Jvm.ClassFile.Instr.ifCond .eq) (fun _ k => op_153 k) h hd)
    | ne =>
      show decide (Jvm.ClassFile.decode b pc = .ok (Jvm.ClassFile.Instr.ifCond .ne n, 3)) = true
      exact decide_eq_true (dz_gs2 154 (Jvm.ClassFile.Instr.ifCond .ne) (fun _ k => op_154 k) h hd)
    | lt =>
      show decide (Jvm.ClassFile.decode b pc = .ok (Jvm.ClassFile.Instr.ifCond .lt n, 3)) = true
      exact decide_eq_true (dz_gs2 155 (Jvm.ClassFile.Instr.ifCond .lt) (fun _ k => op_155 k) h hd)
    | ge =>
      show decide (Jvm.ClassFile.decode b pc = .ok (Jvm.ClassFile.Instr.ifCond .ge n, 3)) = true
      exact decide_eq_true (dz_gs2 156 (Jvm.ClassFile.Instr.ifCond .ge) (fun _ k => op_156 k) h hd)
    | gt =>
      show decide (Jvm.ClassFile.decode b pc = .ok (Jvm.ClassFile.Instr.ifCond .gt n, 3)) = true
      exact decide_eq_true (dz_gs2 157 (Jvm.ClassFile.Instr.ifCond .gt) (fun _ k => op_157 k) h hd)
    | le =>
      show decide (Jvm.ClassFile.decode b pc = .ok (Jvm.ClassFile.Instr.ifCond .le n, 3)) = true
      exact decide_eq_true (dz_gs2 158 (Jvm.ClassFile.Instr.ifCond .le) (fun _ k => op_158 k) h hd)
  | if_icmp c n =>
    cases c with
    | eq =>
      show decide (Jvm.ClassFile.decode b pc = .ok (Jvm.ClassFile.Instr.if_icmp .eq n, 3)) = true
      exact decide_eq_true (dz_gs2 159 (Jvm.ClassFile.Instr.if_icmp .eq) (fun _ k => op_159 k) h hd)
    | ne =>
      show decide (Jvm.ClassFile.decode b pc = .ok (Jvm.ClassFile.Instr.if_icmp .ne n, 3)) = true
      exact decide_eq_true (dz_gs2 160 (Jvm.ClassFile.Instr.if_icmp .ne) (fun _ k => op_160 k) h hd)
    | lt =>
      show decide (Jvm.ClassFile.decode b pc = .ok (Jvm.ClassFile.Instr.if_icmp .lt n, 3)) = true
      exact decide_eq_true (dz_gs2 161 (Jvm.ClassFile.Instr.if_icmp .lt) (fun _ k => op_161 k) h hd)
    | ge =>
      show decide (Jvm.ClassFile.decode b pc = .ok (Jvm.ClassFile.Instr.if_icmp .ge n, 3)) = true
      exact decide_eq_true (dz_gs2 162 (Jvm.ClassFile.Instr.if_icmp .ge) (fun _ k => op_162 k) h hd)
    | gt =>
      show decide (Jvm.ClassFile.decode b pc = .ok (Jvm.ClassFile.Instr.if_icmp .gt n, 3)) = true
      exact decide_eq_true (dz_gs2 163 (Jvm.ClassFile.Instr.if_icmp .gt) (fun _ k => op_163 k) h hd)
    | le =>
      show decide (Jvm.ClassFile.decode b pc = .ok (Jvm.ClassFile.Instr.if_icmp .le n, 3)) = true
      exact decide_eq_true (dz_gs2 164 (Jvm.ClassFile.Instr.if_icmp .le) (fun _ k => op_164 k) h hd)
  | iinc n c =>
    show decide (Jvm.ClassFile.decode b pc = .ok (Jvm.ClassFile.Instr.iinc n c, 3)) = true
    have hd : (Nat.beq x.toNat 132 && dz_isb r n c) = true := hd
    rw [Bool.and_eq_true] at hd
    obtain ⟨h1, h2⟩ := hd
    match r, h, h2 with
    | [], h, h2 => cases (show false = true from h2)
    | [y], h, h2 => cases (show false = true from h2)
    | y :: z :: r, h, h2 =>
      have h2 : (Nat.beq y.toNat n && decide (Jvm.ClassFile.Reader.signed 8 z.toNat = c)) = true := h2
      rw [Bool.and_eq_true] at h2
      refine decide_eq_true (dz_dec_of ((op_132 (q := pc + 1) (by rw [dz_u1_at h, Nat.eq_of_beq_eq_true h1])).trans ?_))
      rw [dz_bnd _ _ (dz_u1_at (dz_dr1 _ _ _ _ h)), dz_bnd _ _ (dz_s1_at (dz_dr1 _ _ _ _ (dz_dr1 _ _ _ _ h))), Nat.eq_of_beq_eq_true h2.1, of_decide_eq_true h2.2]
      rfl
  | newarray a =>
    cases a with
    | int =>
      show decide (Jvm.ClassFile.decode b pc = .ok (Jvm.ClassFile.Instr.newarray .int, 2)) = true
      have hd : (Nat.beq x.toNat 188 && dz_r1 r 10) = true := hd
      rw [Bool.and_eq_true] at hd
      obtain ⟨h1, h2⟩ := hd
      cases r with
      | nil => cases (show false = true from h2)
      | cons y r =>
        have hn : Nat.beq y.toNat 10 = true := h2
        refine decide_eq_true (dz_dec_of ((op_188 (q := pc + 1) (by rw [dz_u1_at h, Nat.eq_of_beq_eq_true h1])).trans ?_))
        have h3 := dz_u1_at (dz_dr1 _ _ _ _ h)
        rw [Nat.eq_of_beq_eq_true hn] at h3
        unfold Jvm.ClassFile.Decoder.newarray
        exact (dz_bnd (a := 10) _ _ h3).trans rfl
    | _ => exact hd
  | _ => exact hd
end
def dz_dl1 (t : pE) : Nat := match e_in t with
  | .tableswitch _ _ _ _ => Nat.pred (e_y t)
  | .lookupswitch _ _ => Nat.pred (e_y t)
  | i => Nat.pred (ilen i)
noncomputable def dz_dchk (b : ByteArray) (l : List pE) : List UInt8 → Nat → Bool := List.rec (motive := fun _ => List UInt8 → Nat → Bool) (fun _ _ => true) (fun t _ ih bs pc => Bool.rec (motive := fun _ => Bool) false (List.rec (motive := fun _ => Bool) false (fun x r _ => Bool.rec (motive := fun _ => Bool) false (ih (List.drop (dz_dl1 t) r) (Nat.add (Nat.succ (e_pc t)) (dz_dl1 t))) (dz_don b x r t)) bs) (Nat.beq (e_pc t) pc)) l
theorem dz_dchk_ok {b : ByteArray} : ∀ (l : List pE) (bs : List UInt8) (pc : Nat), b.data.toList.drop pc = bs → dz_dchk b l bs pc = true → ∀ t ∈ l, pwdec b t = true
  | [], _, _, _, _, t, ht => absurd ht List.not_mem_nil
  | u :: l, bs, pc, hb, h, t, ht => by
    have h : (Bool.rec (motive := fun _ => Bool) false (List.rec (motive := fun _ => Bool) false (fun x r _ => Bool.rec (motive := fun _ => Bool) false (dz_dchk b l (List.drop (dz_dl1 u) r) (Nat.add (Nat.succ (e_pc u)) (dz_dl1 u))) (dz_don b x r u)) bs) (Nat.beq (e_pc u) pc)) = true := h
    cases h1 : Nat.beq (e_pc u) pc with
    | false =>
      rw [h1] at h
      cases (show false = true from h)
    | true =>
      rw [h1] at h
      have e := Nat.eq_of_beq_eq_true h1
      cases bs with
      | nil => cases (show false = true from h)
      | cons x r =>
        have h : (Bool.rec (motive := fun _ => Bool) false (dz_dchk b l (List.drop (dz_dl1 u) r) (Nat.add (Nat.succ (e_pc u)) (dz_dl1 u))) (dz_don b x r u)) = true := h
        cases h2 : dz_don b x r u with
        | false =>
          rw [h2] at h
          cases (show false = true from h)
        | true =>
          rw [h2] at h
          have h : dz_dchk b l (List.drop (dz_dl1 u) r) (e_pc u + 1 + dz_dl1 u) = true := h
          rw [← e] at hb
          rcases List.mem_cons.mp ht with rfl | ht
          · exact dz_don_ok hb h2
          · refine dz_dchk_ok l _ _ ?_ h t ht
            rw [← dz_dr1 _ _ _ _ hb, List.drop_drop]
/-- what is left to be asked of a table, one pass over it -/
def dz_nxq (r : List pE) (k : Nat) : Bool := match r with
  | u :: _ => Nat.beq (e_pc u) k
  | [] => false
def dz_nx (t : pE) (r : List pE) : Bool := match e_in t with
  | .goto _ => true
  | .ireturn => true
  | .areturn => true
  | .return_ => true
  | .tableswitch _ _ _ _ => true
  | .lookupswitch _ _ => true
  | i => dz_nxq r (e_pc t + ilen i)
theorem dz_nx_ok {c : List pE} {i : Nat} {t : pE} {r : List pE} (hc : c.drop i = t :: r) (h : dz_nx t r = true) : pwnext c i t = true := by
  have key : ∀ k : Nat, dz_nxq r k = true → pcOf c (i + 1) = k := fun k hk => by
    cases r with
    | nil => cases (show false = true from hk)
    | cons u r =>
      have e : c[i + 1]? = some u := by
        rw [← List.getElem?_drop, hc]
        rfl
      unfold pcOf
      rw [e]
      exact Nat.eq_of_beq_eq_true hk
  obtain ⟨pc, ins, tx, ty, tv, ts⟩ := t
  cases ins with
  | goto _ => rfl
  | ireturn => rfl
  | areturn => rfl
  | return_ => rfl
  | tableswitch _ _ _ _ => rfl
  | lookupswitch _ _ => rfl
  | _ => exact decide_eq_true (key _ h)
noncomputable def pwA3 (P : List pM) (M : pM) (l : List pE) : Bool := List.rec (motive := fun _ => Bool) true (fun t r ih => Bool.rec (motive := fun _ => Bool) false (Bool.rec (motive := fun _ => Bool) false ih (pwarg P M t)) (dz_nx t r)) l
theorem pwA3_ok {P : List pM} {M : pM} : ∀ (l : List pE) (i : Nat), (m_code M).drop i = l → (∀ t ∈ l, pwdec (m_b M) t = true) → pwA3 P M l = true → pwAll P M i l = true
  | [], _, _, _, _ => rfl
  | t :: r, i, hc, hd, h => by
    have h : (Bool.rec (motive := fun _ => Bool) false (Bool.rec (motive := fun _ => Bool) false (pwA3 P M r) (pwarg P M t)) (dz_nx t r)) = true := h
    cases h1 : dz_nx t r with
    | false =>
      rw [h1] at h
      cases (show false = true from h)
    | true =>
      rw [h1] at h
      cases h2 : pwarg P M t with
      | false =>
        rw [h2] at h
        cases (show false = true from h)
      | true =>
        rw [h2] at h
        have h : pwA3 P M r = true := h
        have hc2 : (m_code M).drop (i + 1) = r := by
          rw [← List.drop_drop, hc]
          rfl
        unfold pwAll
        rw [Bool.and_eq_true, Bool.and_eq_true, Bool.and_eq_true]
        exact ⟨⟨hd t List.mem_cons_self, dz_nx_ok hc h1, h2⟩, pwA3_ok r (i + 1) hc2 (fun u hu => hd u (List.mem_cons_of_mem _ hu)) h⟩
theorem WFm.of4 {P : List pM} {M : pM} {ps gs : List Nat} {g : Nat} (h0 : pmB M = true) (h1 : dz_dchk (m_b M) (m_code M) (m_b M).data.toList 0 = true) (h3 : pwA3 P M (m_code M) = true) (h2 : cEqL (plnks P M ++ pmw M) (ps.filterMap (nthT (pkT lw_tbl g gs))) = true) (hu : (plnks P M ++ pmw M).all uword = true) : WFm P M := by
  refine WFm.of3 ?_ h2 hu
  unfold pwB
  rw [Bool.and_eq_true]
  exact ⟨h0, pwA3_ok (m_code M) 0 List.drop_zero (dz_dchk_ok (m_code M) _ 0 List.drop_zero h1) h3⟩
end DEC
