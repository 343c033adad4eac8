/-! decode rows by bytes -/
noncomputable def bpre : List UInt8 → List Nat → Bool
  | _, [] => true
  | [], _ :: _ => false
  | b :: t, n :: ns => Nat.beq b.toNat n && bpre t ns
noncomputable def btw : List UInt8 → Nat → List (Nat × List Nat) → Bool
  | _, _, [] => true
  | L, p, r :: T => Nat.ble p r.1 && (bpre (L.drop (r.1 - p)) r.2 && btw (L.drop (r.1 - p)) r.1 T)
noncomputable def btA (c : ByteArray) (T : List (Nat × List Nat)) : Bool := btw c.data.toList 0 T
theorem btw_ok {full : List UInt8} : ∀ (T : List (Nat × List Nat)) (p : Nat), btw (full.drop p) p T = true → ∀ r, r ∈ T → bpre (full.drop r.1) r.2 = true := by
  intro T
  induction T with
  | nil => intro p h r hr; cases hr
  | cons x T ih =>
    intro p h r hr
    have h1 := (Bool.and_eq_true_iff).mp h
    have h2 := (Bool.and_eq_true_iff).mp h1.2
    have hle : p ≤ x.1 := Nat.le_of_ble_eq_true h1.1
    have e : (full.drop p).drop (x.1 - p) = full.drop x.1 := by
      rw [List.drop_drop]
      congr 1
      omega
    rw [e] at h2
    rcases List.mem_cons.mp hr with q | q
    · rw [q]; exact h2.1
    · exact ih x.1 h2.2 r q
theorem btAt {c : ByteArray} {T : List (Nat × List Nat)} (h : btA c T = true) (i : Nat) {p : Nat} {bs : List Nat} (hi : T[i]? = some (p, bs)) : bpre (c.data.toList.drop p) bs = true := btw_ok (full := c.data.toList) T 0 h (p, bs) (List.mem_of_getElem? hi)
theorem bpre_cons {L : List UInt8} {n : Nat} {ns : List Nat} (h : bpre L (n :: ns) = true) : ∃ b t, L = b :: t ∧ b.toNat = n ∧ bpre t ns = true := by
  cases L with
  | nil => exact absurd (show false = true from h) (by decide)
  | cons b t => exact ⟨b, t, rfl, Nat.eq_of_beq_eq_true ((Bool.and_eq_true_iff).mp h).1, ((Bool.and_eq_true_iff).mp h).2⟩
theorem bpre_at {L : List UInt8} {p n : Nat} {ns : List Nat} (h : bpre (L.drop p) (n :: ns) = true) : ∃ hp : p < L.length, (L[p]'hp).toNat = n ∧ bpre (L.drop (p + 1)) ns = true := by
  have hp : p < L.length := by
    rcases Nat.lt_or_ge p L.length with q | q
    · exact q
    · rw [List.drop_eq_nil_of_le q] at h
      exact absurd (show false = true from h) (by decide)
  refine ⟨hp, ?_⟩
  rw [List.drop_eq_getElem_cons hp] at h
  exact ⟨Nat.eq_of_beq_eq_true ((Bool.and_eq_true_iff).mp h).1, ((Bool.and_eq_true_iff).mp h).2⟩
theorem bu1 {c : ByteArray} {p n : Nat} {ns : List Nat} (h : bpre (c.data.toList.drop p) (n :: ns) = true) : (Jvm.ClassFile.Reader.u1 : Jvm.ClassFile.Decoder Nat) c p = .ok (n, p + 1) := by
  obtain ⟨hp, e, -⟩ := bpre_at h
  have hs : p < c.size := hp
  have e2 : (c[p]'hs).toNat = n := e
  show (if h : p < c.size then (do set (p + 1); Pure.pure (c[p]'h).toNat : Jvm.ClassFile.Decoder Nat) else throw (Jvm.ClassFile.HasTruncated.truncated p)) c p = _
  rw [dif_pos hs, e2]
  rfl
theorem bnx {c : ByteArray} {p n : Nat} {ns : List Nat} (h : bpre (c.data.toList.drop p) (n :: ns) = true) : bpre (c.data.toList.drop (p + 1)) ns = true := by
  obtain ⟨hp, -, e⟩ := bpre_at h
  exact e
theorem brb {α β : Type} {x : Jvm.ClassFile.Decoder α} {f : α → Jvm.ClassFile.Decoder β} {c : ByteArray} {p q : Nat} {a : α} (h : x c p = .ok (a, q)) : (x >>= f) c p = f a c q := by
  have e : (x >>= f) c p = Except.bind (x c p) (fun r => f r.1 c r.2) := rfl
  rw [e, h]
  rfl
theorem brm {α β : Type} {x : Jvm.ClassFile.Decoder α} {f : α → β} {c : ByteArray} {p q : Nat} {a : α} (h : x c p = .ok (a, q)) : (f <$> x : Jvm.ClassFile.Decoder β) c p = .ok (f a, q) := by
  have e : (f <$> x : Jvm.ClassFile.Decoder β) c p = Except.bind (x c p) (fun r => .ok (f r.1, r.2)) := rfl
  rw [e, h]
  rfl
theorem bu2 {c : ByteArray} {p a b : Nat} {ns : List Nat} (h : bpre (c.data.toList.drop p) (a :: b :: ns) = true) : (Jvm.ClassFile.Reader.u2 : Jvm.ClassFile.Decoder Nat) c p = .ok (a * 256 + b, p + 1 + 1) := by
  have e : (Jvm.ClassFile.Reader.u2 : Jvm.ClassFile.Decoder Nat) = ((Jvm.ClassFile.Reader.u1 : Jvm.ClassFile.Decoder Nat) >>= fun x => (Jvm.ClassFile.Reader.u1 : Jvm.ClassFile.Decoder Nat) >>= fun y => Pure.pure (x * 256 + y)) := rfl
  rw [e, brb (bu1 h), brb (bu1 (bnx h))]
  rfl
noncomputable def bop (p : Nat) : { f : Nat → Jvm.ClassFile.Decoder Instr // Jvm.ClassFile.Decoder.instr p = (Jvm.ClassFile.Reader.u1 : Jvm.ClassFile.Decoder Nat) >>= f } := ⟨_, rfl⟩
theorem bdec {c : ByteArray} {p n l : Nat} {ns : List Nat} {ins : Instr} (h : bpre (c.data.toList.drop p) (n :: ns) = true) (e : (bop p).1 n c (p + 1) = .ok (ins, p + l)) : decode c p = .ok (ins, l) := by
  have h1 : Jvm.ClassFile.Decoder.instr p c p = .ok (ins, p + l) := by
    rw [(bop p).2, brb (bu1 h)]
    exact e
  have e2 : decode c p = Except.bind (Jvm.ClassFile.Decoder.instr p c p) (fun r => .ok (r.1, r.2 - p)) := rfl
  rw [e2, h1]
  show Except.ok (ins, p + l - p) = _
  rw [Nat.add_sub_cancel_left]
theorem bz {c : ByteArray} {p : Nat} {ins : Instr} (n : Nat) (o : (bop p).1 n = Pure.pure ins) (h : bpre (c.data.toList.drop p) [n] = true) : decode c p = .ok (ins, 1) := bdec h (by rw [o]; rfl)
theorem bu {c : ByteArray} {p a : Nat} {F : Nat → Instr} (n : Nat) (o : (bop p).1 n = ((Jvm.ClassFile.Reader.u1 : Jvm.ClassFile.Decoder Nat) >>= fun k => Pure.pure (F k))) (h : bpre (c.data.toList.drop p) [n, a] = true) : decode c p = .ok (F a, 2) := bdec h (by rw [o, brb (bu1 (bnx h))]; rfl)
theorem bs {c : ByteArray} {p a : Nat} {F : Int → Instr} (n : Nat) (o : (bop p).1 n = ((Jvm.ClassFile.Reader.s1 : Jvm.ClassFile.Decoder Int) >>= fun k => Pure.pure (F k))) (h : bpre (c.data.toList.drop p) [n, a] = true) : decode c p = .ok (F (Jvm.ClassFile.Reader.signed 8 a), 2) := bdec h (by rw [o, brb (x := (Jvm.ClassFile.Reader.s1 : Jvm.ClassFile.Decoder Int)) (brm (f := Jvm.ClassFile.Reader.signed 8) (bu1 (bnx h)))]; rfl)
theorem bU {c : ByteArray} {p a b : Nat} {F : Nat → Instr} (n : Nat) (o : (bop p).1 n = ((Jvm.ClassFile.Reader.u2 : Jvm.ClassFile.Decoder Nat) >>= fun k => Pure.pure (F k))) (h : bpre (c.data.toList.drop p) [n, a, b] = true) : decode c p = .ok (F (a * 256 + b), 3) := bdec h (by rw [o, brb (bu2 (bnx h))]; rfl)
theorem bS {c : ByteArray} {p a b : Nat} {F : Int → Instr} (n : Nat) (o : (bop p).1 n = ((Jvm.ClassFile.Reader.s2 : Jvm.ClassFile.Decoder Int) >>= fun k => Pure.pure (F k))) (h : bpre (c.data.toList.drop p) [n, a, b] = true) : decode c p = .ok (F (Jvm.ClassFile.Reader.signed 16 (a * 256 + b)), 3) := bdec h (by rw [o, brb (x := (Jvm.ClassFile.Reader.s2 : Jvm.ClassFile.Decoder Int)) (brm (f := Jvm.ClassFile.Reader.signed 16) (bu2 (bnx h)))]; rfl)
theorem bi {c : ByteArray} {p a b : Nat} {F : Nat → Int → Instr} (n : Nat) (o : (bop p).1 n = ((Jvm.ClassFile.Reader.u1 : Jvm.ClassFile.Decoder Nat) >>= fun k => (Jvm.ClassFile.Reader.s1 : Jvm.ClassFile.Decoder Int) >>= fun j => Pure.pure (F k j))) (h : bpre (c.data.toList.drop p) [n, a, b] = true) : decode c p = .ok (F a (Jvm.ClassFile.Reader.signed 8 b), 3) := bdec h (by rw [o, brb (bu1 (bnx h)), brb (x := (Jvm.ClassFile.Reader.s1 : Jvm.ClassFile.Decoder Int)) (brm (f := Jvm.ClassFile.Reader.signed 8) (bu1 (bnx (bnx h))))]; rfl)
set_option maxRecDepth 100000 in
theorem bo1 (p : Nat) : (bop p).1 1 = Pure.pure (.aconst_null) := rfl
theorem bd1 {c : ByteArray} {p : Nat} (h : bpre (c.data.toList.drop p) [1] = true) : decode c p = .ok (.aconst_null, 1) := bz 1 (bo1 p) h
set_option maxRecDepth 100000 in
theorem bo2 (p : Nat) : (bop p).1 2 = Pure.pure (.iconst (-1)) := rfl
theorem bd2 {c : ByteArray} {p : Nat} (h : bpre (c.data.toList.drop p) [2] = true) : decode c p = .ok (.iconst (-1), 1) := bz 2 (bo2 p) h
set_option maxRecDepth 100000 in
theorem bo3 (p : Nat) : (bop p).1 3 = Pure.pure (.iconst 0) := rfl
theorem bd3 {c : ByteArray} {p : Nat} (h : bpre (c.data.toList.drop p) [3] = true) : decode c p = .ok (.iconst 0, 1) := bz 3 (bo3 p) h
set_option maxRecDepth 100000 in
theorem bo4 (p : Nat) : (bop p).1 4 = Pure.pure (.iconst 1) := rfl
theorem bd4 {c : ByteArray} {p : Nat} (h : bpre (c.data.toList.drop p) [4] = true) : decode c p = .ok (.iconst 1, 1) := bz 4 (bo4 p) h
set_option maxRecDepth 100000 in
theorem bo5 (p : Nat) : (bop p).1 5 = Pure.pure (.iconst 2) := rfl
theorem bd5 {c : ByteArray} {p : Nat} (h : bpre (c.data.toList.drop p) [5] = true) : decode c p = .ok (.iconst 2, 1) := bz 5 (bo5 p) h
set_option maxRecDepth 100000 in
theorem bo6 (p : Nat) : (bop p).1 6 = Pure.pure (.iconst 3) := rfl
theorem bd6 {c : ByteArray} {p : Nat} (h : bpre (c.data.toList.drop p) [6] = true) : decode c p = .ok (.iconst 3, 1) := bz 6 (bo6 p) h
set_option maxRecDepth 100000 in
theorem bo7 (p : Nat) : (bop p).1 7 = Pure.pure (.iconst 4) := rfl
theorem bd7 {c : ByteArray} {p : Nat} (h : bpre (c.data.toList.drop p) [7] = true) : decode c p = .ok (.iconst 4, 1) := bz 7 (bo7 p) h
set_option maxRecDepth 100000 in
theorem bo8 (p : Nat) : (bop p).1 8 = Pure.pure (.iconst 5) := rfl
theorem bd8 {c : ByteArray} {p : Nat} (h : bpre (c.data.toList.drop p) [8] = true) : decode c p = .ok (.iconst 5, 1) := bz 8 (bo8 p) h
set_option maxRecDepth 100000 in
theorem bo9 (p : Nat) : (bop p).1 9 = Pure.pure (.lconst 0) := rfl
theorem bd9 {c : ByteArray} {p : Nat} (h : bpre (c.data.toList.drop p) [9] = true) : decode c p = .ok (.lconst 0, 1) := bz 9 (bo9 p) h
set_option maxRecDepth 100000 in
theorem bo10 (p : Nat) : (bop p).1 10 = Pure.pure (.lconst 1) := rfl
theorem bd10 {c : ByteArray} {p : Nat} (h : bpre (c.data.toList.drop p) [10] = true) : decode c p = .ok (.lconst 1, 1) := bz 10 (bo10 p) h
set_option maxRecDepth 100000 in
theorem bo16 (p : Nat) : (bop p).1 16 = ((Jvm.ClassFile.Reader.s1 : Jvm.ClassFile.Decoder Int) >>= fun k => Pure.pure (.bipush k)) := rfl
theorem bd16 {c : ByteArray} {p : Nat} {a : Nat} (h : bpre (c.data.toList.drop p) [16, a] = true) : decode c p = .ok (.bipush (Jvm.ClassFile.Reader.signed 8 a), 2) := bs 16 (bo16 p) h
set_option maxRecDepth 100000 in
theorem bo17 (p : Nat) : (bop p).1 17 = ((Jvm.ClassFile.Reader.s2 : Jvm.ClassFile.Decoder Int) >>= fun k => Pure.pure (.sipush k)) := rfl
theorem bd17 {c : ByteArray} {p : Nat} {a b : Nat} (h : bpre (c.data.toList.drop p) [17, a, b] = true) : decode c p = .ok (.sipush (Jvm.ClassFile.Reader.signed 16 (a * 256 + b)), 3) := bS 17 (bo17 p) h
set_option maxRecDepth 100000 in
theorem bo18 (p : Nat) : (bop p).1 18 = ((Jvm.ClassFile.Reader.u1 : Jvm.ClassFile.Decoder Nat) >>= fun k => Pure.pure (.ldc k)) := rfl
theorem bd18 {c : ByteArray} {p : Nat} {a : Nat} (h : bpre (c.data.toList.drop p) [18, a] = true) : decode c p = .ok (.ldc a, 2) := bu 18 (bo18 p) h
set_option maxRecDepth 100000 in
theorem bo20 (p : Nat) : (bop p).1 20 = ((Jvm.ClassFile.Reader.u2 : Jvm.ClassFile.Decoder Nat) >>= fun k => Pure.pure (.ldc2_w k)) := rfl
theorem bd20 {c : ByteArray} {p : Nat} {a b : Nat} (h : bpre (c.data.toList.drop p) [20, a, b] = true) : decode c p = .ok (.ldc2_w (a * 256 + b), 3) := bU 20 (bo20 p) h
set_option maxRecDepth 100000 in
theorem bo21 (p : Nat) : (bop p).1 21 = ((Jvm.ClassFile.Reader.u1 : Jvm.ClassFile.Decoder Nat) >>= fun k => Pure.pure (.iload k)) := rfl
theorem bd21 {c : ByteArray} {p : Nat} {a : Nat} (h : bpre (c.data.toList.drop p) [21, a] = true) : decode c p = .ok (.iload a, 2) := bu 21 (bo21 p) h
set_option maxRecDepth 100000 in
theorem bo22 (p : Nat) : (bop p).1 22 = ((Jvm.ClassFile.Reader.u1 : Jvm.ClassFile.Decoder Nat) >>= fun k => Pure.pure (.lload k)) := rfl
theorem bd22 {c : ByteArray} {p : Nat} {a : Nat} (h : bpre (c.data.toList.drop p) [22, a] = true) : decode c p = .ok (.lload a, 2) := bu 22 (bo22 p) h
set_option maxRecDepth 100000 in
theorem bo25 (p : Nat) : (bop p).1 25 = ((Jvm.ClassFile.Reader.u1 : Jvm.ClassFile.Decoder Nat) >>= fun k => Pure.pure (.aload k)) := rfl
theorem bd25 {c : ByteArray} {p : Nat} {a : Nat} (h : bpre (c.data.toList.drop p) [25, a] = true) : decode c p = .ok (.aload a, 2) := bu 25 (bo25 p) h
set_option maxRecDepth 100000 in
theorem bo26 (p : Nat) : (bop p).1 26 = Pure.pure (.iload_n 0) := rfl
theorem bd26 {c : ByteArray} {p : Nat} (h : bpre (c.data.toList.drop p) [26] = true) : decode c p = .ok (.iload_n 0, 1) := bz 26 (bo26 p) h
set_option maxRecDepth 100000 in
theorem bo27 (p : Nat) : (bop p).1 27 = Pure.pure (.iload_n 1) := rfl
theorem bd27 {c : ByteArray} {p : Nat} (h : bpre (c.data.toList.drop p) [27] = true) : decode c p = .ok (.iload_n 1, 1) := bz 27 (bo27 p) h
set_option maxRecDepth 100000 in
theorem bo28 (p : Nat) : (bop p).1 28 = Pure.pure (.iload_n 2) := rfl
theorem bd28 {c : ByteArray} {p : Nat} (h : bpre (c.data.toList.drop p) [28] = true) : decode c p = .ok (.iload_n 2, 1) := bz 28 (bo28 p) h
set_option maxRecDepth 100000 in
theorem bo29 (p : Nat) : (bop p).1 29 = Pure.pure (.iload_n 3) := rfl
theorem bd29 {c : ByteArray} {p : Nat} (h : bpre (c.data.toList.drop p) [29] = true) : decode c p = .ok (.iload_n 3, 1) := bz 29 (bo29 p) h
set_option maxRecDepth 100000 in
theorem bo30 (p : Nat) : (bop p).1 30 = Pure.pure (.lload_n 0) := rfl
theorem bd30 {c : ByteArray} {p : Nat} (h : bpre (c.data.toList.drop p) [30] = true) : decode c p = .ok (.lload_n 0, 1) := bz 30 (bo30 p) h
set_option maxRecDepth 100000 in
theorem bo31 (p : Nat) : (bop p).1 31 = Pure.pure (.lload_n 1) := rfl
theorem bd31 {c : ByteArray} {p : Nat} (h : bpre (c.data.toList.drop p) [31] = true) : decode c p = .ok (.lload_n 1, 1) := bz 31 (bo31 p) h
set_option maxRecDepth 100000 in
theorem bo32 (p : Nat) : (bop p).1 32 = Pure.pure (.lload_n 2) := rfl
theorem bd32 {c : ByteArray} {p : Nat} (h : bpre (c.data.toList.drop p) [32] = true) : decode c p = .ok (.lload_n 2, 1) := bz 32 (bo32 p) h
set_option maxRecDepth 100000 in
theorem bo33 (p : Nat) : (bop p).1 33 = Pure.pure (.lload_n 3) := rfl
theorem bd33 {c : ByteArray} {p : Nat} (h : bpre (c.data.toList.drop p) [33] = true) : decode c p = .ok (.lload_n 3, 1) := bz 33 (bo33 p) h
set_option maxRecDepth 100000 in
theorem bo42 (p : Nat) : (bop p).1 42 = Pure.pure (.aload_n 0) := rfl
theorem bd42 {c : ByteArray} {p : Nat} (h : bpre (c.data.toList.drop p) [42] = true) : decode c p = .ok (.aload_n 0, 1) := bz 42 (bo42 p) h
set_option maxRecDepth 100000 in
theorem bo43 (p : Nat) : (bop p).1 43 = Pure.pure (.aload_n 1) := rfl
theorem bd43 {c : ByteArray} {p : Nat} (h : bpre (c.data.toList.drop p) [43] = true) : decode c p = .ok (.aload_n 1, 1) := bz 43 (bo43 p) h
set_option maxRecDepth 100000 in
theorem bo44 (p : Nat) : (bop p).1 44 = Pure.pure (.aload_n 2) := rfl
theorem bd44 {c : ByteArray} {p : Nat} (h : bpre (c.data.toList.drop p) [44] = true) : decode c p = .ok (.aload_n 2, 1) := bz 44 (bo44 p) h
set_option maxRecDepth 100000 in
theorem bo45 (p : Nat) : (bop p).1 45 = Pure.pure (.aload_n 3) := rfl
theorem bd45 {c : ByteArray} {p : Nat} (h : bpre (c.data.toList.drop p) [45] = true) : decode c p = .ok (.aload_n 3, 1) := bz 45 (bo45 p) h
set_option maxRecDepth 100000 in
theorem bo46 (p : Nat) : (bop p).1 46 = Pure.pure (.iaload) := rfl
theorem bd46 {c : ByteArray} {p : Nat} (h : bpre (c.data.toList.drop p) [46] = true) : decode c p = .ok (.iaload, 1) := bz 46 (bo46 p) h
set_option maxRecDepth 100000 in
theorem bo47 (p : Nat) : (bop p).1 47 = Pure.pure (.laload) := rfl
theorem bd47 {c : ByteArray} {p : Nat} (h : bpre (c.data.toList.drop p) [47] = true) : decode c p = .ok (.laload, 1) := bz 47 (bo47 p) h
set_option maxRecDepth 100000 in
theorem bo50 (p : Nat) : (bop p).1 50 = Pure.pure (.aaload) := rfl
theorem bd50 {c : ByteArray} {p : Nat} (h : bpre (c.data.toList.drop p) [50] = true) : decode c p = .ok (.aaload, 1) := bz 50 (bo50 p) h
set_option maxRecDepth 100000 in
theorem bo51 (p : Nat) : (bop p).1 51 = Pure.pure (.baload) := rfl
theorem bd51 {c : ByteArray} {p : Nat} (h : bpre (c.data.toList.drop p) [51] = true) : decode c p = .ok (.baload, 1) := bz 51 (bo51 p) h
set_option maxRecDepth 100000 in
theorem bo54 (p : Nat) : (bop p).1 54 = ((Jvm.ClassFile.Reader.u1 : Jvm.ClassFile.Decoder Nat) >>= fun k => Pure.pure (.istore k)) := rfl
theorem bd54 {c : ByteArray} {p : Nat} {a : Nat} (h : bpre (c.data.toList.drop p) [54, a] = true) : decode c p = .ok (.istore a, 2) := bu 54 (bo54 p) h
set_option maxRecDepth 100000 in
theorem bo55 (p : Nat) : (bop p).1 55 = ((Jvm.ClassFile.Reader.u1 : Jvm.ClassFile.Decoder Nat) >>= fun k => Pure.pure (.lstore k)) := rfl
theorem bd55 {c : ByteArray} {p : Nat} {a : Nat} (h : bpre (c.data.toList.drop p) [55, a] = true) : decode c p = .ok (.lstore a, 2) := bu 55 (bo55 p) h
set_option maxRecDepth 100000 in
theorem bo58 (p : Nat) : (bop p).1 58 = ((Jvm.ClassFile.Reader.u1 : Jvm.ClassFile.Decoder Nat) >>= fun k => Pure.pure (.astore k)) := rfl
theorem bd58 {c : ByteArray} {p : Nat} {a : Nat} (h : bpre (c.data.toList.drop p) [58, a] = true) : decode c p = .ok (.astore a, 2) := bu 58 (bo58 p) h
set_option maxRecDepth 100000 in
theorem bo60 (p : Nat) : (bop p).1 60 = Pure.pure (.istore_n 1) := rfl
theorem bd60 {c : ByteArray} {p : Nat} (h : bpre (c.data.toList.drop p) [60] = true) : decode c p = .ok (.istore_n 1, 1) := bz 60 (bo60 p) h
set_option maxRecDepth 100000 in
theorem bo61 (p : Nat) : (bop p).1 61 = Pure.pure (.istore_n 2) := rfl
theorem bd61 {c : ByteArray} {p : Nat} (h : bpre (c.data.toList.drop p) [61] = true) : decode c p = .ok (.istore_n 2, 1) := bz 61 (bo61 p) h
set_option maxRecDepth 100000 in
theorem bo62 (p : Nat) : (bop p).1 62 = Pure.pure (.istore_n 3) := rfl
theorem bd62 {c : ByteArray} {p : Nat} (h : bpre (c.data.toList.drop p) [62] = true) : decode c p = .ok (.istore_n 3, 1) := bz 62 (bo62 p) h
set_option maxRecDepth 100000 in
theorem bo63 (p : Nat) : (bop p).1 63 = Pure.pure (.lstore_n 0) := rfl
theorem bd63 {c : ByteArray} {p : Nat} (h : bpre (c.data.toList.drop p) [63] = true) : decode c p = .ok (.lstore_n 0, 1) := bz 63 (bo63 p) h
set_option maxRecDepth 100000 in
theorem bo64 (p : Nat) : (bop p).1 64 = Pure.pure (.lstore_n 1) := rfl
theorem bd64 {c : ByteArray} {p : Nat} (h : bpre (c.data.toList.drop p) [64] = true) : decode c p = .ok (.lstore_n 1, 1) := bz 64 (bo64 p) h
set_option maxRecDepth 100000 in
theorem bo65 (p : Nat) : (bop p).1 65 = Pure.pure (.lstore_n 2) := rfl
theorem bd65 {c : ByteArray} {p : Nat} (h : bpre (c.data.toList.drop p) [65] = true) : decode c p = .ok (.lstore_n 2, 1) := bz 65 (bo65 p) h
set_option maxRecDepth 100000 in
theorem bo76 (p : Nat) : (bop p).1 76 = Pure.pure (.astore_n 1) := rfl
theorem bd76 {c : ByteArray} {p : Nat} (h : bpre (c.data.toList.drop p) [76] = true) : decode c p = .ok (.astore_n 1, 1) := bz 76 (bo76 p) h
set_option maxRecDepth 100000 in
theorem bo77 (p : Nat) : (bop p).1 77 = Pure.pure (.astore_n 2) := rfl
theorem bd77 {c : ByteArray} {p : Nat} (h : bpre (c.data.toList.drop p) [77] = true) : decode c p = .ok (.astore_n 2, 1) := bz 77 (bo77 p) h
set_option maxRecDepth 100000 in
theorem bo78 (p : Nat) : (bop p).1 78 = Pure.pure (.astore_n 3) := rfl
theorem bd78 {c : ByteArray} {p : Nat} (h : bpre (c.data.toList.drop p) [78] = true) : decode c p = .ok (.astore_n 3, 1) := bz 78 (bo78 p) h
set_option maxRecDepth 100000 in
theorem bo79 (p : Nat) : (bop p).1 79 = Pure.pure (.iastore) := rfl
theorem bd79 {c : ByteArray} {p : Nat} (h : bpre (c.data.toList.drop p) [79] = true) : decode c p = .ok (.iastore, 1) := bz 79 (bo79 p) h
set_option maxRecDepth 100000 in
theorem bo80 (p : Nat) : (bop p).1 80 = Pure.pure (.lastore) := rfl
theorem bd80 {c : ByteArray} {p : Nat} (h : bpre (c.data.toList.drop p) [80] = true) : decode c p = .ok (.lastore, 1) := bz 80 (bo80 p) h
set_option maxRecDepth 100000 in
theorem bo83 (p : Nat) : (bop p).1 83 = Pure.pure (.aastore) := rfl
theorem bd83 {c : ByteArray} {p : Nat} (h : bpre (c.data.toList.drop p) [83] = true) : decode c p = .ok (.aastore, 1) := bz 83 (bo83 p) h
set_option maxRecDepth 100000 in
theorem bo84 (p : Nat) : (bop p).1 84 = Pure.pure (.bastore) := rfl
theorem bd84 {c : ByteArray} {p : Nat} (h : bpre (c.data.toList.drop p) [84] = true) : decode c p = .ok (.bastore, 1) := bz 84 (bo84 p) h
set_option maxRecDepth 100000 in
theorem bo87 (p : Nat) : (bop p).1 87 = Pure.pure (.pop) := rfl
theorem bd87 {c : ByteArray} {p : Nat} (h : bpre (c.data.toList.drop p) [87] = true) : decode c p = .ok (.pop, 1) := bz 87 (bo87 p) h
set_option maxRecDepth 100000 in
theorem bo88 (p : Nat) : (bop p).1 88 = Pure.pure (.pop2) := rfl
theorem bd88 {c : ByteArray} {p : Nat} (h : bpre (c.data.toList.drop p) [88] = true) : decode c p = .ok (.pop2, 1) := bz 88 (bo88 p) h
set_option maxRecDepth 100000 in
theorem bo89 (p : Nat) : (bop p).1 89 = Pure.pure (.dup) := rfl
theorem bd89 {c : ByteArray} {p : Nat} (h : bpre (c.data.toList.drop p) [89] = true) : decode c p = .ok (.dup, 1) := bz 89 (bo89 p) h
set_option maxRecDepth 100000 in
theorem bo90 (p : Nat) : (bop p).1 90 = Pure.pure (.dup_x1) := rfl
theorem bd90 {c : ByteArray} {p : Nat} (h : bpre (c.data.toList.drop p) [90] = true) : decode c p = .ok (.dup_x1, 1) := bz 90 (bo90 p) h
set_option maxRecDepth 100000 in
theorem bo92 (p : Nat) : (bop p).1 92 = Pure.pure (.dup2) := rfl
theorem bd92 {c : ByteArray} {p : Nat} (h : bpre (c.data.toList.drop p) [92] = true) : decode c p = .ok (.dup2, 1) := bz 92 (bo92 p) h
set_option maxRecDepth 100000 in
theorem bo96 (p : Nat) : (bop p).1 96 = Pure.pure (.iadd) := rfl
theorem bd96 {c : ByteArray} {p : Nat} (h : bpre (c.data.toList.drop p) [96] = true) : decode c p = .ok (.iadd, 1) := bz 96 (bo96 p) h
set_option maxRecDepth 100000 in
theorem bo97 (p : Nat) : (bop p).1 97 = Pure.pure (.ladd) := rfl
theorem bd97 {c : ByteArray} {p : Nat} (h : bpre (c.data.toList.drop p) [97] = true) : decode c p = .ok (.ladd, 1) := bz 97 (bo97 p) h
set_option maxRecDepth 100000 in
theorem bo100 (p : Nat) : (bop p).1 100 = Pure.pure (.isub) := rfl
theorem bd100 {c : ByteArray} {p : Nat} (h : bpre (c.data.toList.drop p) [100] = true) : decode c p = .ok (.isub, 1) := bz 100 (bo100 p) h
set_option maxRecDepth 100000 in
theorem bo101 (p : Nat) : (bop p).1 101 = Pure.pure (.lsub) := rfl
theorem bd101 {c : ByteArray} {p : Nat} (h : bpre (c.data.toList.drop p) [101] = true) : decode c p = .ok (.lsub, 1) := bz 101 (bo101 p) h
set_option maxRecDepth 100000 in
theorem bo104 (p : Nat) : (bop p).1 104 = Pure.pure (.imul) := rfl
theorem bd104 {c : ByteArray} {p : Nat} (h : bpre (c.data.toList.drop p) [104] = true) : decode c p = .ok (.imul, 1) := bz 104 (bo104 p) h
set_option maxRecDepth 100000 in
theorem bo105 (p : Nat) : (bop p).1 105 = Pure.pure (.lmul) := rfl
theorem bd105 {c : ByteArray} {p : Nat} (h : bpre (c.data.toList.drop p) [105] = true) : decode c p = .ok (.lmul, 1) := bz 105 (bo105 p) h
set_option maxRecDepth 100000 in
theorem bo108 (p : Nat) : (bop p).1 108 = Pure.pure (.idiv) := rfl
theorem bd108 {c : ByteArray} {p : Nat} (h : bpre (c.data.toList.drop p) [108] = true) : decode c p = .ok (.idiv, 1) := bz 108 (bo108 p) h
set_option maxRecDepth 100000 in
theorem bo109 (p : Nat) : (bop p).1 109 = Pure.pure (.ldiv) := rfl
theorem bd109 {c : ByteArray} {p : Nat} (h : bpre (c.data.toList.drop p) [109] = true) : decode c p = .ok (.ldiv, 1) := bz 109 (bo109 p) h
set_option maxRecDepth 100000 in
theorem bo112 (p : Nat) : (bop p).1 112 = Pure.pure (.irem) := rfl
theorem bd112 {c : ByteArray} {p : Nat} (h : bpre (c.data.toList.drop p) [112] = true) : decode c p = .ok (.irem, 1) := bz 112 (bo112 p) h
set_option maxRecDepth 100000 in
theorem bo113 (p : Nat) : (bop p).1 113 = Pure.pure (.lrem) := rfl
theorem bd113 {c : ByteArray} {p : Nat} (h : bpre (c.data.toList.drop p) [113] = true) : decode c p = .ok (.lrem, 1) := bz 113 (bo113 p) h
set_option maxRecDepth 100000 in
theorem bo116 (p : Nat) : (bop p).1 116 = Pure.pure (.ineg) := rfl
theorem bd116 {c : ByteArray} {p : Nat} (h : bpre (c.data.toList.drop p) [116] = true) : decode c p = .ok (.ineg, 1) := bz 116 (bo116 p) h
set_option maxRecDepth 100000 in
theorem bo117 (p : Nat) : (bop p).1 117 = Pure.pure (.lneg) := rfl
theorem bd117 {c : ByteArray} {p : Nat} (h : bpre (c.data.toList.drop p) [117] = true) : decode c p = .ok (.lneg, 1) := bz 117 (bo117 p) h
set_option maxRecDepth 100000 in
theorem bo120 (p : Nat) : (bop p).1 120 = Pure.pure (.ishl) := rfl
theorem bd120 {c : ByteArray} {p : Nat} (h : bpre (c.data.toList.drop p) [120] = true) : decode c p = .ok (.ishl, 1) := bz 120 (bo120 p) h
set_option maxRecDepth 100000 in
theorem bo121 (p : Nat) : (bop p).1 121 = Pure.pure (.lshl) := rfl
theorem bd121 {c : ByteArray} {p : Nat} (h : bpre (c.data.toList.drop p) [121] = true) : decode c p = .ok (.lshl, 1) := bz 121 (bo121 p) h
set_option maxRecDepth 100000 in
theorem bo122 (p : Nat) : (bop p).1 122 = Pure.pure (.ishr) := rfl
theorem bd122 {c : ByteArray} {p : Nat} (h : bpre (c.data.toList.drop p) [122] = true) : decode c p = .ok (.ishr, 1) := bz 122 (bo122 p) h
set_option maxRecDepth 100000 in
theorem bo123 (p : Nat) : (bop p).1 123 = Pure.pure (.lshr) := rfl
theorem bd123 {c : ByteArray} {p : Nat} (h : bpre (c.data.toList.drop p) [123] = true) : decode c p = .ok (.lshr, 1) := bz 123 (bo123 p) h
set_option maxRecDepth 100000 in
theorem bo125 (p : Nat) : (bop p).1 125 = Pure.pure (.lushr) := rfl
theorem bd125 {c : ByteArray} {p : Nat} (h : bpre (c.data.toList.drop p) [125] = true) : decode c p = .ok (.lushr, 1) := bz 125 (bo125 p) h
set_option maxRecDepth 100000 in
theorem bo126 (p : Nat) : (bop p).1 126 = Pure.pure (.iand) := rfl
theorem bd126 {c : ByteArray} {p : Nat} (h : bpre (c.data.toList.drop p) [126] = true) : decode c p = .ok (.iand, 1) := bz 126 (bo126 p) h
set_option maxRecDepth 100000 in
theorem bo127 (p : Nat) : (bop p).1 127 = Pure.pure (.land) := rfl
theorem bd127 {c : ByteArray} {p : Nat} (h : bpre (c.data.toList.drop p) [127] = true) : decode c p = .ok (.land, 1) := bz 127 (bo127 p) h
set_option maxRecDepth 100000 in
theorem bo128 (p : Nat) : (bop p).1 128 = Pure.pure (.ior) := rfl
theorem bd128 {c : ByteArray} {p : Nat} (h : bpre (c.data.toList.drop p) [128] = true) : decode c p = .ok (.ior, 1) := bz 128 (bo128 p) h
set_option maxRecDepth 100000 in
theorem bo129 (p : Nat) : (bop p).1 129 = Pure.pure (.lor) := rfl
theorem bd129 {c : ByteArray} {p : Nat} (h : bpre (c.data.toList.drop p) [129] = true) : decode c p = .ok (.lor, 1) := bz 129 (bo129 p) h
set_option maxRecDepth 100000 in
theorem bo130 (p : Nat) : (bop p).1 130 = Pure.pure (.ixor) := rfl
theorem bd130 {c : ByteArray} {p : Nat} (h : bpre (c.data.toList.drop p) [130] = true) : decode c p = .ok (.ixor, 1) := bz 130 (bo130 p) h
set_option maxRecDepth 100000 in
theorem bo131 (p : Nat) : (bop p).1 131 = Pure.pure (.lxor) := rfl
theorem bd131 {c : ByteArray} {p : Nat} (h : bpre (c.data.toList.drop p) [131] = true) : decode c p = .ok (.lxor, 1) := bz 131 (bo131 p) h
set_option maxRecDepth 100000 in
theorem bo132 (p : Nat) : (bop p).1 132 = ((Jvm.ClassFile.Reader.u1 : Jvm.ClassFile.Decoder Nat) >>= fun k => (Jvm.ClassFile.Reader.s1 : Jvm.ClassFile.Decoder Int) >>= fun j => Pure.pure (.iinc k j)) := rfl
theorem bd132 {c : ByteArray} {p : Nat} {a b : Nat} (h : bpre (c.data.toList.drop p) [132, a, b] = true) : decode c p = .ok (.iinc a (Jvm.ClassFile.Reader.signed 8 b), 3) := bi 132 (bo132 p) h
set_option maxRecDepth 100000 in
theorem bo133 (p : Nat) : (bop p).1 133 = Pure.pure (.i2l) := rfl
theorem bd133 {c : ByteArray} {p : Nat} (h : bpre (c.data.toList.drop p) [133] = true) : decode c p = .ok (.i2l, 1) := bz 133 (bo133 p) h
set_option maxRecDepth 100000 in
theorem bo136 (p : Nat) : (bop p).1 136 = Pure.pure (.l2i) := rfl
theorem bd136 {c : ByteArray} {p : Nat} (h : bpre (c.data.toList.drop p) [136] = true) : decode c p = .ok (.l2i, 1) := bz 136 (bo136 p) h
set_option maxRecDepth 100000 in
theorem bo145 (p : Nat) : (bop p).1 145 = Pure.pure (.i2b) := rfl
theorem bd145 {c : ByteArray} {p : Nat} (h : bpre (c.data.toList.drop p) [145] = true) : decode c p = .ok (.i2b, 1) := bz 145 (bo145 p) h
set_option maxRecDepth 100000 in
theorem bo146 (p : Nat) : (bop p).1 146 = Pure.pure (.i2c) := rfl
theorem bd146 {c : ByteArray} {p : Nat} (h : bpre (c.data.toList.drop p) [146] = true) : decode c p = .ok (.i2c, 1) := bz 146 (bo146 p) h
set_option maxRecDepth 100000 in
theorem bo148 (p : Nat) : (bop p).1 148 = Pure.pure (.lcmp) := rfl
theorem bd148 {c : ByteArray} {p : Nat} (h : bpre (c.data.toList.drop p) [148] = true) : decode c p = .ok (.lcmp, 1) := bz 148 (bo148 p) h
set_option maxRecDepth 100000 in
theorem bo153 (p : Nat) : (bop p).1 153 = ((Jvm.ClassFile.Reader.s2 : Jvm.ClassFile.Decoder Int) >>= fun k => Pure.pure (.ifCond .eq k)) := rfl
theorem bd153 {c : ByteArray} {p : Nat} {a b : Nat} (h : bpre (c.data.toList.drop p) [153, a, b] = true) : decode c p = .ok (.ifCond .eq (Jvm.ClassFile.Reader.signed 16 (a * 256 + b)), 3) := bS 153 (bo153 p) h
set_option maxRecDepth 100000 in
theorem bo154 (p : Nat) : (bop p).1 154 = ((Jvm.ClassFile.Reader.s2 : Jvm.ClassFile.Decoder Int) >>= fun k => Pure.pure (.ifCond .ne k)) := rfl
theorem bd154 {c : ByteArray} {p : Nat} {a b : Nat} (h : bpre (c.data.toList.drop p) [154, a, b] = true) : decode c p = .ok (.ifCond .ne (Jvm.ClassFile.Reader.signed 16 (a * 256 + b)), 3) := bS 154 (bo154 p) h
set_option maxRecDepth 100000 in
theorem bo155 (p : Nat) : (bop p).1 155 = ((Jvm.ClassFile.Reader.s2 : Jvm.ClassFile.Decoder Int) >>= fun k => Pure.pure (.ifCond .lt k)) := rfl
theorem bd155 {c : ByteArray} {p : Nat} {a b : Nat} (h : bpre (c.data.toList.drop p) [155, a, b] = true) : decode c p = .ok (.ifCond .lt (Jvm.ClassFile.Reader.signed 16 (a * 256 + b)), 3) := bS 155 (bo155 p) h
set_option maxRecDepth 100000 in
theorem bo156 (p : Nat) : (bop p).1 156 = ((Jvm.ClassFile.Reader.s2 : Jvm.ClassFile.Decoder Int) >>= fun k => Pure.pure (.ifCond .ge k)) := rfl
theorem bd156 {c : ByteArray} {p : Nat} {a b : Nat} (h : bpre (c.data.toList.drop p) [156, a, b] = true) : decode c p = .ok (.ifCond .ge (Jvm.ClassFile.Reader.signed 16 (a * 256 + b)), 3) := bS 156 (bo156 p) h
set_option maxRecDepth 100000 in
theorem bo157 (p : Nat) : (bop p).1 157 = ((Jvm.ClassFile.Reader.s2 : Jvm.ClassFile.Decoder Int) >>= fun k => Pure.pure (.ifCond .gt k)) := rfl
theorem bd157 {c : ByteArray} {p : Nat} {a b : Nat} (h : bpre (c.data.toList.drop p) [157, a, b] = true) : decode c p = .ok (.ifCond .gt (Jvm.ClassFile.Reader.signed 16 (a * 256 + b)), 3) := bS 157 (bo157 p) h
set_option maxRecDepth 100000 in
theorem bo158 (p : Nat) : (bop p).1 158 = ((Jvm.ClassFile.Reader.s2 : Jvm.ClassFile.Decoder Int) >>= fun k => Pure.pure (.ifCond .le k)) := rfl
theorem bd158 {c : ByteArray} {p : Nat} {a b : Nat} (h : bpre (c.data.toList.drop p) [158, a, b] = true) : decode c p = .ok (.ifCond .le (Jvm.ClassFile.Reader.signed 16 (a * 256 + b)), 3) := bS 158 (bo158 p) h
set_option maxRecDepth 100000 in
theorem bo159 (p : Nat) : (bop p).1 159 = ((Jvm.ClassFile.Reader.s2 : Jvm.ClassFile.Decoder Int) >>= fun k => Pure.pure (.if_icmp .eq k)) := rfl
theorem bd159 {c : ByteArray} {p : Nat} {a b : Nat} (h : bpre (c.data.toList.drop p) [159, a, b] = true) : decode c p = .ok (.if_icmp .eq (Jvm.ClassFile.Reader.signed 16 (a * 256 + b)), 3) := bS 159 (bo159 p) h
set_option maxRecDepth 100000 in
theorem bo160 (p : Nat) : (bop p).1 160 = ((Jvm.ClassFile.Reader.s2 : Jvm.ClassFile.Decoder Int) >>= fun k => Pure.pure (.if_icmp .ne k)) := rfl
theorem bd160 {c : ByteArray} {p : Nat} {a b : Nat} (h : bpre (c.data.toList.drop p) [160, a, b] = true) : decode c p = .ok (.if_icmp .ne (Jvm.ClassFile.Reader.signed 16 (a * 256 + b)), 3) := bS 160 (bo160 p) h
set_option maxRecDepth 100000 in
theorem bo161 (p : Nat) : (bop p).1 161 = ((Jvm.ClassFile.Reader.s2 : Jvm.ClassFile.Decoder Int) >>= fun k => Pure.pure (.if_icmp .lt k)) := rfl
theorem bd161 {c : ByteArray} {p : Nat} {a b : Nat} (h : bpre (c.data.toList.drop p) [161, a, b] = true) : decode c p = .ok (.if_icmp .lt (Jvm.ClassFile.Reader.signed 16 (a * 256 + b)), 3) := bS 161 (bo161 p) h
set_option maxRecDepth 100000 in
theorem bo162 (p : Nat) : (bop p).1 162 = ((Jvm.ClassFile.Reader.s2 : Jvm.ClassFile.Decoder Int) >>= fun k => Pure.pure (.if_icmp .ge k)) := rfl
theorem bd162 {c : ByteArray} {p : Nat} {a b : Nat} (h : bpre (c.data.toList.drop p) [162, a, b] = true) : decode c p = .ok (.if_icmp .ge (Jvm.ClassFile.Reader.signed 16 (a * 256 + b)), 3) := bS 162 (bo162 p) h
set_option maxRecDepth 100000 in
theorem bo163 (p : Nat) : (bop p).1 163 = ((Jvm.ClassFile.Reader.s2 : Jvm.ClassFile.Decoder Int) >>= fun k => Pure.pure (.if_icmp .gt k)) := rfl
theorem bd163 {c : ByteArray} {p : Nat} {a b : Nat} (h : bpre (c.data.toList.drop p) [163, a, b] = true) : decode c p = .ok (.if_icmp .gt (Jvm.ClassFile.Reader.signed 16 (a * 256 + b)), 3) := bS 163 (bo163 p) h
set_option maxRecDepth 100000 in
theorem bo164 (p : Nat) : (bop p).1 164 = ((Jvm.ClassFile.Reader.s2 : Jvm.ClassFile.Decoder Int) >>= fun k => Pure.pure (.if_icmp .le k)) := rfl
theorem bd164 {c : ByteArray} {p : Nat} {a b : Nat} (h : bpre (c.data.toList.drop p) [164, a, b] = true) : decode c p = .ok (.if_icmp .le (Jvm.ClassFile.Reader.signed 16 (a * 256 + b)), 3) := bS 164 (bo164 p) h
set_option maxRecDepth 100000 in
theorem bo165 (p : Nat) : (bop p).1 165 = ((Jvm.ClassFile.Reader.s2 : Jvm.ClassFile.Decoder Int) >>= fun k => Pure.pure (.if_acmp .eq k)) := rfl
theorem bd165 {c : ByteArray} {p : Nat} {a b : Nat} (h : bpre (c.data.toList.drop p) [165, a, b] = true) : decode c p = .ok (.if_acmp .eq (Jvm.ClassFile.Reader.signed 16 (a * 256 + b)), 3) := bS 165 (bo165 p) h
set_option maxRecDepth 100000 in
theorem bo167 (p : Nat) : (bop p).1 167 = ((Jvm.ClassFile.Reader.s2 : Jvm.ClassFile.Decoder Int) >>= fun k => Pure.pure (.goto k)) := rfl
theorem bd167 {c : ByteArray} {p : Nat} {a b : Nat} (h : bpre (c.data.toList.drop p) [167, a, b] = true) : decode c p = .ok (.goto (Jvm.ClassFile.Reader.signed 16 (a * 256 + b)), 3) := bS 167 (bo167 p) h
set_option maxRecDepth 100000 in
theorem bo172 (p : Nat) : (bop p).1 172 = Pure.pure (.ireturn) := rfl
theorem bd172 {c : ByteArray} {p : Nat} (h : bpre (c.data.toList.drop p) [172] = true) : decode c p = .ok (.ireturn, 1) := bz 172 (bo172 p) h
set_option maxRecDepth 100000 in
theorem bo173 (p : Nat) : (bop p).1 173 = Pure.pure (.lreturn) := rfl
theorem bd173 {c : ByteArray} {p : Nat} (h : bpre (c.data.toList.drop p) [173] = true) : decode c p = .ok (.lreturn, 1) := bz 173 (bo173 p) h
set_option maxRecDepth 100000 in
theorem bo176 (p : Nat) : (bop p).1 176 = Pure.pure (.areturn) := rfl
theorem bd176 {c : ByteArray} {p : Nat} (h : bpre (c.data.toList.drop p) [176] = true) : decode c p = .ok (.areturn, 1) := bz 176 (bo176 p) h
set_option maxRecDepth 100000 in
theorem bo177 (p : Nat) : (bop p).1 177 = Pure.pure (.return_) := rfl
theorem bd177 {c : ByteArray} {p : Nat} (h : bpre (c.data.toList.drop p) [177] = true) : decode c p = .ok (.return_, 1) := bz 177 (bo177 p) h
set_option maxRecDepth 100000 in
theorem bo178 (p : Nat) : (bop p).1 178 = ((Jvm.ClassFile.Reader.u2 : Jvm.ClassFile.Decoder Nat) >>= fun k => Pure.pure (.getstatic k)) := rfl
theorem bd178 {c : ByteArray} {p : Nat} {a b : Nat} (h : bpre (c.data.toList.drop p) [178, a, b] = true) : decode c p = .ok (.getstatic (a * 256 + b), 3) := bU 178 (bo178 p) h
set_option maxRecDepth 100000 in
theorem bo180 (p : Nat) : (bop p).1 180 = ((Jvm.ClassFile.Reader.u2 : Jvm.ClassFile.Decoder Nat) >>= fun k => Pure.pure (.getfield k)) := rfl
theorem bd180 {c : ByteArray} {p : Nat} {a b : Nat} (h : bpre (c.data.toList.drop p) [180, a, b] = true) : decode c p = .ok (.getfield (a * 256 + b), 3) := bU 180 (bo180 p) h
set_option maxRecDepth 100000 in
theorem bo181 (p : Nat) : (bop p).1 181 = ((Jvm.ClassFile.Reader.u2 : Jvm.ClassFile.Decoder Nat) >>= fun k => Pure.pure (.putfield k)) := rfl
theorem bd181 {c : ByteArray} {p : Nat} {a b : Nat} (h : bpre (c.data.toList.drop p) [181, a, b] = true) : decode c p = .ok (.putfield (a * 256 + b), 3) := bU 181 (bo181 p) h
set_option maxRecDepth 100000 in
theorem bo182 (p : Nat) : (bop p).1 182 = ((Jvm.ClassFile.Reader.u2 : Jvm.ClassFile.Decoder Nat) >>= fun k => Pure.pure (.invokevirtual k)) := rfl
theorem bd182 {c : ByteArray} {p : Nat} {a b : Nat} (h : bpre (c.data.toList.drop p) [182, a, b] = true) : decode c p = .ok (.invokevirtual (a * 256 + b), 3) := bU 182 (bo182 p) h
set_option maxRecDepth 100000 in
theorem bo183 (p : Nat) : (bop p).1 183 = ((Jvm.ClassFile.Reader.u2 : Jvm.ClassFile.Decoder Nat) >>= fun k => Pure.pure (.invokespecial k)) := rfl
theorem bd183 {c : ByteArray} {p : Nat} {a b : Nat} (h : bpre (c.data.toList.drop p) [183, a, b] = true) : decode c p = .ok (.invokespecial (a * 256 + b), 3) := bU 183 (bo183 p) h
set_option maxRecDepth 100000 in
theorem bo184 (p : Nat) : (bop p).1 184 = ((Jvm.ClassFile.Reader.u2 : Jvm.ClassFile.Decoder Nat) >>= fun k => Pure.pure (.invokestatic k)) := rfl
theorem bd184 {c : ByteArray} {p : Nat} {a b : Nat} (h : bpre (c.data.toList.drop p) [184, a, b] = true) : decode c p = .ok (.invokestatic (a * 256 + b), 3) := bU 184 (bo184 p) h
set_option maxRecDepth 100000 in
theorem bo187 (p : Nat) : (bop p).1 187 = ((Jvm.ClassFile.Reader.u2 : Jvm.ClassFile.Decoder Nat) >>= fun k => Pure.pure (.new k)) := rfl
theorem bd187 {c : ByteArray} {p : Nat} {a b : Nat} (h : bpre (c.data.toList.drop p) [187, a, b] = true) : decode c p = .ok (.new (a * 256 + b), 3) := bU 187 (bo187 p) h
set_option maxRecDepth 100000 in
theorem bo189 (p : Nat) : (bop p).1 189 = ((Jvm.ClassFile.Reader.u2 : Jvm.ClassFile.Decoder Nat) >>= fun k => Pure.pure (.anewarray k)) := rfl
theorem bd189 {c : ByteArray} {p : Nat} {a b : Nat} (h : bpre (c.data.toList.drop p) [189, a, b] = true) : decode c p = .ok (.anewarray (a * 256 + b), 3) := bU 189 (bo189 p) h
set_option maxRecDepth 100000 in
theorem bo190 (p : Nat) : (bop p).1 190 = Pure.pure (.arraylength) := rfl
theorem bd190 {c : ByteArray} {p : Nat} (h : bpre (c.data.toList.drop p) [190] = true) : decode c p = .ok (.arraylength, 1) := bz 190 (bo190 p) h
set_option maxRecDepth 100000 in
theorem bo192 (p : Nat) : (bop p).1 192 = ((Jvm.ClassFile.Reader.u2 : Jvm.ClassFile.Decoder Nat) >>= fun k => Pure.pure (.checkcast k)) := rfl
theorem bd192 {c : ByteArray} {p : Nat} {a b : Nat} (h : bpre (c.data.toList.drop p) [192, a, b] = true) : decode c p = .ok (.checkcast (a * 256 + b), 3) := bU 192 (bo192 p) h
set_option maxRecDepth 100000 in
theorem bo198 (p : Nat) : (bop p).1 198 = ((Jvm.ClassFile.Reader.s2 : Jvm.ClassFile.Decoder Int) >>= fun k => Pure.pure (.ifnull k)) := rfl
theorem bd198 {c : ByteArray} {p : Nat} {a b : Nat} (h : bpre (c.data.toList.drop p) [198, a, b] = true) : decode c p = .ok (.ifnull (Jvm.ClassFile.Reader.signed 16 (a * 256 + b)), 3) := bS 198 (bo198 p) h
set_option maxRecDepth 100000 in
theorem bo199 (p : Nat) : (bop p).1 199 = ((Jvm.ClassFile.Reader.s2 : Jvm.ClassFile.Decoder Int) >>= fun k => Pure.pure (.ifnonnull k)) := rfl
theorem bd199 {c : ByteArray} {p : Nat} {a b : Nat} (h : bpre (c.data.toList.drop p) [199, a, b] = true) : decode c p = .ok (.ifnonnull (Jvm.ClassFile.Reader.signed 16 (a * 256 + b)), 3) := bS 199 (bo199 p) h
/-! the state at a call has the heap and the machine that it had -/
theorem mvz {n : Nat} {U : State} (g : _) (mk : _) (a : _) (h : U.heap.size = n) : (U.calling g mk a).heap.size = n := h
theorem mvP {D : _} {cl : _} {ws : va_W} {U : State} (g : _) (mk : _) (a : _) (h : va_P D cl ws U.heap) : va_P D cl ws (U.calling g mk a).heap := h
theorem mvK {D : _} {cl : _} {tys : _} {U : State} (g : _) (mk : _) (a : _) (h : va_K D cl tys U) : va_K D cl tys (U.calling g mk a) := va_K.moved (u := U) (U := U.calling g mk a) (Vm.Alike.refl U.vm) h
