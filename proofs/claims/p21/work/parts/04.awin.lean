-- decode rows by windows of bytes: what the class file's bytes are there is shown once a window, what an opcode means once an opcode
def eqY (c : ByteArray) (o : Nat) (L : List Nat) : Bool := decide (((c.data.toList.drop o).take L.length).map UInt8.toNat = L)
abbrev WLy (c : ByteArray) (o : Nat) (L : List Nat) : Prop := eqY c o L = true
theorem WLy.at {c : ByteArray} {o : Nat} {L : List Nat} (h : WLy c o L) {p a : Nat} (e : L[p]? = some a) : ∃ h' : o + p < c.size, (c[o + p]'h').toNat = a := by
  have h := of_decide_eq_true h
  obtain ⟨hp, e0⟩ := List.getElem?_eq_some_iff.mp e
  have e1 : (((c.data.toList.drop o).take L.length).map UInt8.toNat)[p]? = some a := by rw [h]; exact e
  rw [List.getElem?_map, List.getElem?_take_of_lt hp, List.getElem?_drop] at e1
  cases e2 : c.data.toList[o + p]? with
  | none => rw [e2] at e1; cases e1
  | some x =>
    rw [e2] at e1
    obtain ⟨h', e3⟩ := List.getElem?_eq_some_iff.mp e2
    have e4 : x.toNat = a := Option.some.inj e1
    exact ⟨h', by rw [← e4, ← e3]; rfl⟩
theorem wl_tl {L r : List Nat} {p a : Nat} (e : L.drop p = a :: r) : L.drop (p + 1) = r := by
  rw [← List.drop_drop, e]; rfl
theorem wl_hd {L r : List Nat} {p a : Nat} (e : L.drop p = a :: r) : L[p]? = some a := by
  have h : (L.drop p)[0]? = some a := by rw [e]; rfl
  rw [List.getElem?_drop] at h
  exact h
theorem run_bind {α β : Type} (r : Decoder α) (f : α → Decoder β) (x : ByteArray) (s : Nat) : Reader.runAt (r >>= f) x s = (match Reader.runAt r x s with | .ok z => Reader.runAt (f z.1) x z.2 | .error e => .error e) := by
  have e : Reader.runAt (r >>= f) x s = Except.bind (Reader.runAt r x s) (fun z => Reader.runAt (f z.1) x z.2) := rfl
  rw [e]
  cases Reader.runAt r x s <;> rfl
theorem run_u1 {x : ByteArray} {s : Nat} : Reader.runAt (Reader.u1 : Decoder Nat) x s = if h : s < x.size then .ok ((x[s]'h).toNat, s + 1) else .error (HasTruncated.truncated s) := by
  by_cases h : s < x.size
  · have e : Reader.runAt (Reader.u1 : Decoder Nat) x s = Reader.runAt (if h : s < x.size then (do set (s + 1); Pure.pure (x[s]'h).toNat : Decoder Nat) else throw (HasTruncated.truncated s)) x s := rfl
    rw [e, dif_pos h, dif_pos h]
    rfl
  · have e : Reader.runAt (Reader.u1 : Decoder Nat) x s = Reader.runAt (if h : s < x.size then (do set (s + 1); Pure.pure (x[s]'h).toNat : Decoder Nat) else throw (HasTruncated.truncated s)) x s := rfl
    rw [e, dif_neg h, dif_neg h]
    rfl
theorem wl_u1 {c : ByteArray} {o : Nat} {L r : List Nat} (h : WLy c o L) {p a : Nat} (e : L.drop p = a :: r) : Reader.runAt (Reader.u1 : Decoder Nat) c (o + p) = .ok (a, o + (p + 1)) := by
  obtain ⟨h', e1⟩ := WLy.at h (wl_hd e)
  rw [run_u1, dif_pos h', e1]
  rfl
theorem wl_u2 {c : ByteArray} {o : Nat} {L r : List Nat} (h : WLy c o L) {p a b : Nat} (e : L.drop p = a :: b :: r) : Reader.runAt (Reader.u2 : Decoder Nat) c (o + p) = .ok (a * 256 + b, o + (p + 2)) := by
  have e0 : (Reader.u2 : Decoder Nat) = Reader.u1 >>= fun hi => Reader.u1 >>= fun lo => Pure.pure (hi * 256 + lo) := rfl
  rw [e0, run_bind, wl_u1 h e]
  show Reader.runAt ((Reader.u1 : Decoder Nat) >>= fun lo => (Pure.pure (a * 256 + lo) : Decoder Nat)) c (o + (p + 1)) = _
  rw [run_bind, wl_u1 h (wl_tl e)]
  rfl
theorem run_map {α β : Type} (f : α → β) (r : Decoder α) (x : ByteArray) (s : Nat) : Reader.runAt (f <$> r) x s = (match Reader.runAt r x s with | .ok z => .ok (f z.1, z.2) | .error e => .error e) := by
  have e2 : Reader.runAt (f <$> r) x s = Except.map (fun z : α × Nat => (f z.1, z.2)) (Reader.runAt r x s) := rfl
  rw [e2]
  cases Reader.runAt r x s <;> rfl
theorem sg_p {k n v : Nat} (h : Nat.beq n v = true) (h1 : Nat.blt v (2 ^ (k - 1)) = true) : Reader.signed k n = Int.ofNat v := by
  have e := Nat.eq_of_beq_eq_true h
  subst e
  have h2 : n < 2 ^ (k - 1) := Nat.le_of_ble_eq_true h1
  unfold Reader.signed
  rw [if_pos h2]
  rfl
theorem sg_n {k n w : Nat} (h : Nat.beq (n + w) (2 ^ k) = true) (h1 : Nat.ble (2 ^ (k - 1)) n = true) : Reader.signed k n = -(Int.ofNat w) := by
  have e := Nat.eq_of_beq_eq_true h
  have h2 : 2 ^ (k - 1) ≤ n := Nat.le_of_ble_eq_true h1
  unfold Reader.signed
  rw [if_neg (Nat.not_lt.mpr h2), ← e]
  show (n : Int) - ((n + w : Nat) : Int) = -((w : Nat) : Int)
  omega
theorem wl_dec {c : ByteArray} {o : Nat} {L r : List Nat} (h : WLy c o L) {p a n : Nat} {i : Instr} {k : Nat → Decoder Instr} (e : L.drop p = a :: r) (hk : Decoder.instr (o + p) = (Reader.u1 : Decoder Nat) >>= k) (hr : Reader.runAt (k a) c (o + (p + 1)) = .ok (i, o + (p + 1 + n))) : decode c (o + p) = .ok (i, 1 + n) := by
  have e7 : Reader.runAt (Decoder.instr (o + p)) c (o + p) = .ok (i, o + (p + 1 + n)) := by
    rw [hk, run_bind, wl_u1 h e]
    exact hr
  have e9 : decode c (o + p) = Except.bind (Reader.runAt (Decoder.instr (o + p)) c (o + p)) (fun q => .ok (q.1, q.2 - (o + p))) := rfl
  rw [e9, e7]
  show (Except.ok (i, o + (p + 1 + n) - (o + p)) : Except DecodeError (Instr × Nat)) = .ok (i, 1 + n)
  rw [show o + (p + 1 + n) - (o + p) = 1 + n by omega]
theorem wl_f1 {c : ByteArray} {o : Nat} {L r : List Nat} (h : WLy c o L) {p a : Nat} (f : Nat → Instr) (e : L.drop p = a :: r) : Reader.runAt ((Reader.u1 : Decoder Nat) >>= fun x => (Pure.pure (f x) : Decoder Instr)) c (o + p) = .ok (f a, o + (p + 1)) := by
  rw [run_bind, wl_u1 h e]
  rfl
theorem wl_f2 {c : ByteArray} {o : Nat} {L r : List Nat} (h : WLy c o L) {p a b : Nat} (f : Nat → Instr) (e : L.drop p = a :: b :: r) : Reader.runAt ((Reader.u2 : Decoder Nat) >>= fun x => (Pure.pure (f x) : Decoder Instr)) c (o + p) = .ok (f (a * 256 + b), o + (p + 2)) := by
  rw [run_bind, wl_u2 h e]
  rfl
theorem wl_g1 {c : ByteArray} {o : Nat} {L r : List Nat} (h : WLy c o L) {p a : Nat} (f : Int → Instr) (e : L.drop p = a :: r) : Reader.runAt ((Reader.s1 : Decoder Int) >>= fun x => (Pure.pure (f x) : Decoder Instr)) c (o + p) = .ok (f (Reader.signed 8 a), o + (p + 1)) := by
  have e0 : (Reader.s1 : Decoder Int) = Reader.signed 8 <$> (Reader.u1 : Decoder Nat) := rfl
  rw [e0, run_bind, run_map, wl_u1 h e]
  rfl
theorem wl_g2 {c : ByteArray} {o : Nat} {L r : List Nat} (h : WLy c o L) {p a b : Nat} (f : Int → Instr) (e : L.drop p = a :: b :: r) : Reader.runAt ((Reader.s2 : Decoder Int) >>= fun x => (Pure.pure (f x) : Decoder Instr)) c (o + p) = .ok (f (Reader.signed 16 (a * 256 + b)), o + (p + 2)) := by
  have e0 : (Reader.s2 : Decoder Int) = Reader.signed 16 <$> (Reader.u2 : Decoder Nat) := rfl
  rw [e0, run_bind, run_map, wl_u2 h e]
  rfl
theorem wl_h2 {c : ByteArray} {o : Nat} {L r : List Nat} (h : WLy c o L) {p a b : Nat} (f : Nat → Int → Instr) (e : L.drop p = a :: b :: r) : Reader.runAt ((Reader.u1 : Decoder Nat) >>= fun x => (Reader.s1 : Decoder Int) >>= fun y => (Pure.pure (f x y) : Decoder Instr)) c (o + p) = .ok (f a (Reader.signed 8 b), o + (p + 2)) := by
  rw [run_bind, wl_u1 h e]
  show Reader.runAt ((Reader.s1 : Decoder Int) >>= fun y => (Pure.pure (f a y) : Decoder Instr)) c (o + (p + 1)) = _
  exact wl_g1 h (f a) (wl_tl e)
theorem zD2 {c : ByteArray} {o : Nat} {L r : List Nat} (h : WLy c o L) {p : Nat} (e : L.drop p = 2 :: r) : decode c (o + p) = .ok (.iconst (-1), 1) := wl_dec (n := 0) h e rfl rfl
theorem zD3 {c : ByteArray} {o : Nat} {L r : List Nat} (h : WLy c o L) {p : Nat} (e : L.drop p = 3 :: r) : decode c (o + p) = .ok (.iconst 0, 1) := wl_dec (n := 0) h e rfl rfl
theorem zD4 {c : ByteArray} {o : Nat} {L r : List Nat} (h : WLy c o L) {p : Nat} (e : L.drop p = 4 :: r) : decode c (o + p) = .ok (.iconst 1, 1) := wl_dec (n := 0) h e rfl rfl
theorem zD5 {c : ByteArray} {o : Nat} {L r : List Nat} (h : WLy c o L) {p : Nat} (e : L.drop p = 5 :: r) : decode c (o + p) = .ok (.iconst 2, 1) := wl_dec (n := 0) h e rfl rfl
theorem zD6 {c : ByteArray} {o : Nat} {L r : List Nat} (h : WLy c o L) {p : Nat} (e : L.drop p = 6 :: r) : decode c (o + p) = .ok (.iconst 3, 1) := wl_dec (n := 0) h e rfl rfl
theorem zD7 {c : ByteArray} {o : Nat} {L r : List Nat} (h : WLy c o L) {p : Nat} (e : L.drop p = 7 :: r) : decode c (o + p) = .ok (.iconst 4, 1) := wl_dec (n := 0) h e rfl rfl
theorem zD8 {c : ByteArray} {o : Nat} {L r : List Nat} (h : WLy c o L) {p : Nat} (e : L.drop p = 8 :: r) : decode c (o + p) = .ok (.iconst 5, 1) := wl_dec (n := 0) h e rfl rfl
theorem zD9 {c : ByteArray} {o : Nat} {L r : List Nat} (h : WLy c o L) {p : Nat} (e : L.drop p = 9 :: r) : decode c (o + p) = .ok (.lconst 0, 1) := wl_dec (n := 0) h e rfl rfl
theorem zD10 {c : ByteArray} {o : Nat} {L r : List Nat} (h : WLy c o L) {p : Nat} (e : L.drop p = 10 :: r) : decode c (o + p) = .ok (.lconst 1, 1) := wl_dec (n := 0) h e rfl rfl
theorem zD16p {c : ByteArray} {o : Nat} {L r : List Nat} (h : WLy c o L) {p a v : Nat} (e : L.drop p = 16 :: a :: r) (hv : Nat.beq a v = true) (h1 : Nat.blt v 128 = true) : decode c (o + p) = .ok (.bipush (Int.ofNat v), 2) := by
  have e2 := wl_g1 h (fun x => .bipush x) (wl_tl e)
  rw [sg_p (k := 8) hv h1] at e2
  exact wl_dec (n := 1) h e rfl e2
theorem zD16n {c : ByteArray} {o : Nat} {L r : List Nat} (h : WLy c o L) {p a v : Nat} (e : L.drop p = 16 :: a :: r) (hv : Nat.beq (a + v) 256 = true) (h1 : Nat.ble 128 a = true) : decode c (o + p) = .ok (.bipush (-(Int.ofNat v)), 2) := by
  have e2 := wl_g1 h (fun x => .bipush x) (wl_tl e)
  rw [sg_n (k := 8) hv h1] at e2
  exact wl_dec (n := 1) h e rfl e2
theorem zD17p {c : ByteArray} {o : Nat} {L r : List Nat} (h : WLy c o L) {p a b v : Nat} (e : L.drop p = 17 :: a :: b :: r) (hv : Nat.beq (a * 256 + b) v = true) (h1 : Nat.blt v 32768 = true) : decode c (o + p) = .ok (.sipush (Int.ofNat v), 3) := by
  have e2 := wl_g2 h (fun x => .sipush x) (wl_tl e)
  rw [sg_p (k := 16) hv h1] at e2
  exact wl_dec (n := 2) h e rfl e2
theorem zD18 {c : ByteArray} {o : Nat} {L r : List Nat} (h : WLy c o L) {p a : Nat} (e : L.drop p = 18 :: a :: r) : decode c (o + p) = .ok (.ldc a, 2) := wl_dec (n := 1) h e rfl (wl_f1 h (fun x => .ldc x) (wl_tl e))
theorem zD19 {c : ByteArray} {o : Nat} {L r : List Nat} (h : WLy c o L) {p a b v : Nat} (e : L.drop p = 19 :: a :: b :: r) (hv : Nat.beq (a * 256 + b) v = true) : decode c (o + p) = .ok (.ldc_w v, 3) := by
  have e1 := Nat.eq_of_beq_eq_true hv
  subst e1
  exact wl_dec (n := 2) h e rfl (wl_f2 h (fun x => .ldc_w x) (wl_tl e))
theorem zD20 {c : ByteArray} {o : Nat} {L r : List Nat} (h : WLy c o L) {p a b v : Nat} (e : L.drop p = 20 :: a :: b :: r) (hv : Nat.beq (a * 256 + b) v = true) : decode c (o + p) = .ok (.ldc2_w v, 3) := by
  have e1 := Nat.eq_of_beq_eq_true hv
  subst e1
  exact wl_dec (n := 2) h e rfl (wl_f2 h (fun x => .ldc2_w x) (wl_tl e))
theorem zD21 {c : ByteArray} {o : Nat} {L r : List Nat} (h : WLy c o L) {p a : Nat} (e : L.drop p = 21 :: a :: r) : decode c (o + p) = .ok (.iload a, 2) := wl_dec (n := 1) h e rfl (wl_f1 h (fun x => .iload x) (wl_tl e))
theorem zD22 {c : ByteArray} {o : Nat} {L r : List Nat} (h : WLy c o L) {p a : Nat} (e : L.drop p = 22 :: a :: r) : decode c (o + p) = .ok (.lload a, 2) := wl_dec (n := 1) h e rfl (wl_f1 h (fun x => .lload x) (wl_tl e))
theorem zD26 {c : ByteArray} {o : Nat} {L r : List Nat} (h : WLy c o L) {p : Nat} (e : L.drop p = 26 :: r) : decode c (o + p) = .ok (.iload_n 0, 1) := wl_dec (n := 0) h e rfl rfl
theorem zD27 {c : ByteArray} {o : Nat} {L r : List Nat} (h : WLy c o L) {p : Nat} (e : L.drop p = 27 :: r) : decode c (o + p) = .ok (.iload_n 1, 1) := wl_dec (n := 0) h e rfl rfl
theorem zD28 {c : ByteArray} {o : Nat} {L r : List Nat} (h : WLy c o L) {p : Nat} (e : L.drop p = 28 :: r) : decode c (o + p) = .ok (.iload_n 2, 1) := wl_dec (n := 0) h e rfl rfl
theorem zD29 {c : ByteArray} {o : Nat} {L r : List Nat} (h : WLy c o L) {p : Nat} (e : L.drop p = 29 :: r) : decode c (o + p) = .ok (.iload_n 3, 1) := wl_dec (n := 0) h e rfl rfl
theorem zD30 {c : ByteArray} {o : Nat} {L r : List Nat} (h : WLy c o L) {p : Nat} (e : L.drop p = 30 :: r) : decode c (o + p) = .ok (.lload_n 0, 1) := wl_dec (n := 0) h e rfl rfl
theorem zD31 {c : ByteArray} {o : Nat} {L r : List Nat} (h : WLy c o L) {p : Nat} (e : L.drop p = 31 :: r) : decode c (o + p) = .ok (.lload_n 1, 1) := wl_dec (n := 0) h e rfl rfl
theorem zD32 {c : ByteArray} {o : Nat} {L r : List Nat} (h : WLy c o L) {p : Nat} (e : L.drop p = 32 :: r) : decode c (o + p) = .ok (.lload_n 2, 1) := wl_dec (n := 0) h e rfl rfl
theorem zD33 {c : ByteArray} {o : Nat} {L r : List Nat} (h : WLy c o L) {p : Nat} (e : L.drop p = 33 :: r) : decode c (o + p) = .ok (.lload_n 3, 1) := wl_dec (n := 0) h e rfl rfl
theorem zD42 {c : ByteArray} {o : Nat} {L r : List Nat} (h : WLy c o L) {p : Nat} (e : L.drop p = 42 :: r) : decode c (o + p) = .ok (.aload_n 0, 1) := wl_dec (n := 0) h e rfl rfl
theorem zD43 {c : ByteArray} {o : Nat} {L r : List Nat} (h : WLy c o L) {p : Nat} (e : L.drop p = 43 :: r) : decode c (o + p) = .ok (.aload_n 1, 1) := wl_dec (n := 0) h e rfl rfl
theorem zD44 {c : ByteArray} {o : Nat} {L r : List Nat} (h : WLy c o L) {p : Nat} (e : L.drop p = 44 :: r) : decode c (o + p) = .ok (.aload_n 2, 1) := wl_dec (n := 0) h e rfl rfl
theorem zD45 {c : ByteArray} {o : Nat} {L r : List Nat} (h : WLy c o L) {p : Nat} (e : L.drop p = 45 :: r) : decode c (o + p) = .ok (.aload_n 3, 1) := wl_dec (n := 0) h e rfl rfl
theorem zD46 {c : ByteArray} {o : Nat} {L r : List Nat} (h : WLy c o L) {p : Nat} (e : L.drop p = 46 :: r) : decode c (o + p) = .ok (.iaload, 1) := wl_dec (n := 0) h e rfl rfl
theorem zD47 {c : ByteArray} {o : Nat} {L r : List Nat} (h : WLy c o L) {p : Nat} (e : L.drop p = 47 :: r) : decode c (o + p) = .ok (.laload, 1) := wl_dec (n := 0) h e rfl rfl
theorem zD50 {c : ByteArray} {o : Nat} {L r : List Nat} (h : WLy c o L) {p : Nat} (e : L.drop p = 50 :: r) : decode c (o + p) = .ok (.aaload, 1) := wl_dec (n := 0) h e rfl rfl
theorem zD51 {c : ByteArray} {o : Nat} {L r : List Nat} (h : WLy c o L) {p : Nat} (e : L.drop p = 51 :: r) : decode c (o + p) = .ok (.baload, 1) := wl_dec (n := 0) h e rfl rfl
theorem zD54 {c : ByteArray} {o : Nat} {L r : List Nat} (h : WLy c o L) {p a : Nat} (e : L.drop p = 54 :: a :: r) : decode c (o + p) = .ok (.istore a, 2) := wl_dec (n := 1) h e rfl (wl_f1 h (fun x => .istore x) (wl_tl e))
theorem zD55 {c : ByteArray} {o : Nat} {L r : List Nat} (h : WLy c o L) {p a : Nat} (e : L.drop p = 55 :: a :: r) : decode c (o + p) = .ok (.lstore a, 2) := wl_dec (n := 1) h e rfl (wl_f1 h (fun x => .lstore x) (wl_tl e))
theorem zD59 {c : ByteArray} {o : Nat} {L r : List Nat} (h : WLy c o L) {p : Nat} (e : L.drop p = 59 :: r) : decode c (o + p) = .ok (.istore_n 0, 1) := wl_dec (n := 0) h e rfl rfl
theorem zD60 {c : ByteArray} {o : Nat} {L r : List Nat} (h : WLy c o L) {p : Nat} (e : L.drop p = 60 :: r) : decode c (o + p) = .ok (.istore_n 1, 1) := wl_dec (n := 0) h e rfl rfl
theorem zD61 {c : ByteArray} {o : Nat} {L r : List Nat} (h : WLy c o L) {p : Nat} (e : L.drop p = 61 :: r) : decode c (o + p) = .ok (.istore_n 2, 1) := wl_dec (n := 0) h e rfl rfl
theorem zD62 {c : ByteArray} {o : Nat} {L r : List Nat} (h : WLy c o L) {p : Nat} (e : L.drop p = 62 :: r) : decode c (o + p) = .ok (.istore_n 3, 1) := wl_dec (n := 0) h e rfl rfl
theorem zD64 {c : ByteArray} {o : Nat} {L r : List Nat} (h : WLy c o L) {p : Nat} (e : L.drop p = 64 :: r) : decode c (o + p) = .ok (.lstore_n 1, 1) := wl_dec (n := 0) h e rfl rfl
theorem zD65 {c : ByteArray} {o : Nat} {L r : List Nat} (h : WLy c o L) {p : Nat} (e : L.drop p = 65 :: r) : decode c (o + p) = .ok (.lstore_n 2, 1) := wl_dec (n := 0) h e rfl rfl
theorem zD66 {c : ByteArray} {o : Nat} {L r : List Nat} (h : WLy c o L) {p : Nat} (e : L.drop p = 66 :: r) : decode c (o + p) = .ok (.lstore_n 3, 1) := wl_dec (n := 0) h e rfl rfl
theorem zD76 {c : ByteArray} {o : Nat} {L r : List Nat} (h : WLy c o L) {p : Nat} (e : L.drop p = 76 :: r) : decode c (o + p) = .ok (.astore_n 1, 1) := wl_dec (n := 0) h e rfl rfl
theorem zD77 {c : ByteArray} {o : Nat} {L r : List Nat} (h : WLy c o L) {p : Nat} (e : L.drop p = 77 :: r) : decode c (o + p) = .ok (.astore_n 2, 1) := wl_dec (n := 0) h e rfl rfl
theorem zD79 {c : ByteArray} {o : Nat} {L r : List Nat} (h : WLy c o L) {p : Nat} (e : L.drop p = 79 :: r) : decode c (o + p) = .ok (.iastore, 1) := wl_dec (n := 0) h e rfl rfl
theorem zD80 {c : ByteArray} {o : Nat} {L r : List Nat} (h : WLy c o L) {p : Nat} (e : L.drop p = 80 :: r) : decode c (o + p) = .ok (.lastore, 1) := wl_dec (n := 0) h e rfl rfl
theorem zD83 {c : ByteArray} {o : Nat} {L r : List Nat} (h : WLy c o L) {p : Nat} (e : L.drop p = 83 :: r) : decode c (o + p) = .ok (.aastore, 1) := wl_dec (n := 0) h e rfl rfl
theorem zD84 {c : ByteArray} {o : Nat} {L r : List Nat} (h : WLy c o L) {p : Nat} (e : L.drop p = 84 :: r) : decode c (o + p) = .ok (.bastore, 1) := wl_dec (n := 0) h e rfl rfl
theorem zD87 {c : ByteArray} {o : Nat} {L r : List Nat} (h : WLy c o L) {p : Nat} (e : L.drop p = 87 :: r) : decode c (o + p) = .ok (.pop, 1) := wl_dec (n := 0) h e rfl rfl
theorem zD88 {c : ByteArray} {o : Nat} {L r : List Nat} (h : WLy c o L) {p : Nat} (e : L.drop p = 88 :: r) : decode c (o + p) = .ok (.pop2, 1) := wl_dec (n := 0) h e rfl rfl
theorem zD89 {c : ByteArray} {o : Nat} {L r : List Nat} (h : WLy c o L) {p : Nat} (e : L.drop p = 89 :: r) : decode c (o + p) = .ok (.dup, 1) := wl_dec (n := 0) h e rfl rfl
theorem zD92 {c : ByteArray} {o : Nat} {L r : List Nat} (h : WLy c o L) {p : Nat} (e : L.drop p = 92 :: r) : decode c (o + p) = .ok (.dup2, 1) := wl_dec (n := 0) h e rfl rfl
theorem zD96 {c : ByteArray} {o : Nat} {L r : List Nat} (h : WLy c o L) {p : Nat} (e : L.drop p = 96 :: r) : decode c (o + p) = .ok (.iadd, 1) := wl_dec (n := 0) h e rfl rfl
theorem zD97 {c : ByteArray} {o : Nat} {L r : List Nat} (h : WLy c o L) {p : Nat} (e : L.drop p = 97 :: r) : decode c (o + p) = .ok (.ladd, 1) := wl_dec (n := 0) h e rfl rfl
theorem zD100 {c : ByteArray} {o : Nat} {L r : List Nat} (h : WLy c o L) {p : Nat} (e : L.drop p = 100 :: r) : decode c (o + p) = .ok (.isub, 1) := wl_dec (n := 0) h e rfl rfl
theorem zD104 {c : ByteArray} {o : Nat} {L r : List Nat} (h : WLy c o L) {p : Nat} (e : L.drop p = 104 :: r) : decode c (o + p) = .ok (.imul, 1) := wl_dec (n := 0) h e rfl rfl
theorem zD105 {c : ByteArray} {o : Nat} {L r : List Nat} (h : WLy c o L) {p : Nat} (e : L.drop p = 105 :: r) : decode c (o + p) = .ok (.lmul, 1) := wl_dec (n := 0) h e rfl rfl
theorem zD108 {c : ByteArray} {o : Nat} {L r : List Nat} (h : WLy c o L) {p : Nat} (e : L.drop p = 108 :: r) : decode c (o + p) = .ok (.idiv, 1) := wl_dec (n := 0) h e rfl rfl
theorem zD109 {c : ByteArray} {o : Nat} {L r : List Nat} (h : WLy c o L) {p : Nat} (e : L.drop p = 109 :: r) : decode c (o + p) = .ok (.ldiv, 1) := wl_dec (n := 0) h e rfl rfl
theorem zD112 {c : ByteArray} {o : Nat} {L r : List Nat} (h : WLy c o L) {p : Nat} (e : L.drop p = 112 :: r) : decode c (o + p) = .ok (.irem, 1) := wl_dec (n := 0) h e rfl rfl
theorem zD113 {c : ByteArray} {o : Nat} {L r : List Nat} (h : WLy c o L) {p : Nat} (e : L.drop p = 113 :: r) : decode c (o + p) = .ok (.lrem, 1) := wl_dec (n := 0) h e rfl rfl
theorem zD116 {c : ByteArray} {o : Nat} {L r : List Nat} (h : WLy c o L) {p : Nat} (e : L.drop p = 116 :: r) : decode c (o + p) = .ok (.ineg, 1) := wl_dec (n := 0) h e rfl rfl
theorem zD120 {c : ByteArray} {o : Nat} {L r : List Nat} (h : WLy c o L) {p : Nat} (e : L.drop p = 120 :: r) : decode c (o + p) = .ok (.ishl, 1) := wl_dec (n := 0) h e rfl rfl
theorem zD121 {c : ByteArray} {o : Nat} {L r : List Nat} (h : WLy c o L) {p : Nat} (e : L.drop p = 121 :: r) : decode c (o + p) = .ok (.lshl, 1) := wl_dec (n := 0) h e rfl rfl
theorem zD122 {c : ByteArray} {o : Nat} {L r : List Nat} (h : WLy c o L) {p : Nat} (e : L.drop p = 122 :: r) : decode c (o + p) = .ok (.ishr, 1) := wl_dec (n := 0) h e rfl rfl
theorem zD123 {c : ByteArray} {o : Nat} {L r : List Nat} (h : WLy c o L) {p : Nat} (e : L.drop p = 123 :: r) : decode c (o + p) = .ok (.lshr, 1) := wl_dec (n := 0) h e rfl rfl
theorem zD124 {c : ByteArray} {o : Nat} {L r : List Nat} (h : WLy c o L) {p : Nat} (e : L.drop p = 124 :: r) : decode c (o + p) = .ok (.iushr, 1) := wl_dec (n := 0) h e rfl rfl
theorem zD125 {c : ByteArray} {o : Nat} {L r : List Nat} (h : WLy c o L) {p : Nat} (e : L.drop p = 125 :: r) : decode c (o + p) = .ok (.lushr, 1) := wl_dec (n := 0) h e rfl rfl
theorem zD126 {c : ByteArray} {o : Nat} {L r : List Nat} (h : WLy c o L) {p : Nat} (e : L.drop p = 126 :: r) : decode c (o + p) = .ok (.iand, 1) := wl_dec (n := 0) h e rfl rfl
theorem zD127 {c : ByteArray} {o : Nat} {L r : List Nat} (h : WLy c o L) {p : Nat} (e : L.drop p = 127 :: r) : decode c (o + p) = .ok (.land, 1) := wl_dec (n := 0) h e rfl rfl
theorem zD128 {c : ByteArray} {o : Nat} {L r : List Nat} (h : WLy c o L) {p : Nat} (e : L.drop p = 128 :: r) : decode c (o + p) = .ok (.ior, 1) := wl_dec (n := 0) h e rfl rfl
theorem zD129 {c : ByteArray} {o : Nat} {L r : List Nat} (h : WLy c o L) {p : Nat} (e : L.drop p = 129 :: r) : decode c (o + p) = .ok (.lor, 1) := wl_dec (n := 0) h e rfl rfl
theorem zD132p {c : ByteArray} {o : Nat} {L r : List Nat} (h : WLy c o L) {p a b v : Nat} (e : L.drop p = 132 :: a :: b :: r) (hv : Nat.beq b v = true) (h1 : Nat.blt v 128 = true) : decode c (o + p) = .ok (.iinc a (Int.ofNat v), 3) := by
  have e2 := wl_h2 h (fun x y => .iinc x y) (wl_tl e)
  rw [sg_p (k := 8) hv h1] at e2
  exact wl_dec (n := 2) h e rfl e2
theorem zD132n {c : ByteArray} {o : Nat} {L r : List Nat} (h : WLy c o L) {p a b v : Nat} (e : L.drop p = 132 :: a :: b :: r) (hv : Nat.beq (b + v) 256 = true) (h1 : Nat.ble 128 b = true) : decode c (o + p) = .ok (.iinc a (-(Int.ofNat v)), 3) := by
  have e2 := wl_h2 h (fun x y => .iinc x y) (wl_tl e)
  rw [sg_n (k := 8) hv h1] at e2
  exact wl_dec (n := 2) h e rfl e2
theorem zD133 {c : ByteArray} {o : Nat} {L r : List Nat} (h : WLy c o L) {p : Nat} (e : L.drop p = 133 :: r) : decode c (o + p) = .ok (.i2l, 1) := wl_dec (n := 0) h e rfl rfl
theorem zD136 {c : ByteArray} {o : Nat} {L r : List Nat} (h : WLy c o L) {p : Nat} (e : L.drop p = 136 :: r) : decode c (o + p) = .ok (.l2i, 1) := wl_dec (n := 0) h e rfl rfl
theorem zD145 {c : ByteArray} {o : Nat} {L r : List Nat} (h : WLy c o L) {p : Nat} (e : L.drop p = 145 :: r) : decode c (o + p) = .ok (.i2b, 1) := wl_dec (n := 0) h e rfl rfl
theorem zD146 {c : ByteArray} {o : Nat} {L r : List Nat} (h : WLy c o L) {p : Nat} (e : L.drop p = 146 :: r) : decode c (o + p) = .ok (.i2c, 1) := wl_dec (n := 0) h e rfl rfl
theorem zD147 {c : ByteArray} {o : Nat} {L r : List Nat} (h : WLy c o L) {p : Nat} (e : L.drop p = 147 :: r) : decode c (o + p) = .ok (.i2s, 1) := wl_dec (n := 0) h e rfl rfl
theorem zD148 {c : ByteArray} {o : Nat} {L r : List Nat} (h : WLy c o L) {p : Nat} (e : L.drop p = 148 :: r) : decode c (o + p) = .ok (.lcmp, 1) := wl_dec (n := 0) h e rfl rfl
theorem zD153p {c : ByteArray} {o : Nat} {L r : List Nat} (h : WLy c o L) {p a b v : Nat} (e : L.drop p = 153 :: a :: b :: r) (hv : Nat.beq (a * 256 + b) v = true) (h1 : Nat.blt v 32768 = true) : decode c (o + p) = .ok (.ifCond .eq (Int.ofNat v), 3) := by
  have e2 := wl_g2 h (fun x => .ifCond .eq x) (wl_tl e)
  rw [sg_p (k := 16) hv h1] at e2
  exact wl_dec (n := 2) h e rfl e2
theorem zD154p {c : ByteArray} {o : Nat} {L r : List Nat} (h : WLy c o L) {p a b v : Nat} (e : L.drop p = 154 :: a :: b :: r) (hv : Nat.beq (a * 256 + b) v = true) (h1 : Nat.blt v 32768 = true) : decode c (o + p) = .ok (.ifCond .ne (Int.ofNat v), 3) := by
  have e2 := wl_g2 h (fun x => .ifCond .ne x) (wl_tl e)
  rw [sg_p (k := 16) hv h1] at e2
  exact wl_dec (n := 2) h e rfl e2
theorem zD155p {c : ByteArray} {o : Nat} {L r : List Nat} (h : WLy c o L) {p a b v : Nat} (e : L.drop p = 155 :: a :: b :: r) (hv : Nat.beq (a * 256 + b) v = true) (h1 : Nat.blt v 32768 = true) : decode c (o + p) = .ok (.ifCond .lt (Int.ofNat v), 3) := by
  have e2 := wl_g2 h (fun x => .ifCond .lt x) (wl_tl e)
  rw [sg_p (k := 16) hv h1] at e2
  exact wl_dec (n := 2) h e rfl e2
theorem zD156p {c : ByteArray} {o : Nat} {L r : List Nat} (h : WLy c o L) {p a b v : Nat} (e : L.drop p = 156 :: a :: b :: r) (hv : Nat.beq (a * 256 + b) v = true) (h1 : Nat.blt v 32768 = true) : decode c (o + p) = .ok (.ifCond .ge (Int.ofNat v), 3) := by
  have e2 := wl_g2 h (fun x => .ifCond .ge x) (wl_tl e)
  rw [sg_p (k := 16) hv h1] at e2
  exact wl_dec (n := 2) h e rfl e2
theorem zD157p {c : ByteArray} {o : Nat} {L r : List Nat} (h : WLy c o L) {p a b v : Nat} (e : L.drop p = 157 :: a :: b :: r) (hv : Nat.beq (a * 256 + b) v = true) (h1 : Nat.blt v 32768 = true) : decode c (o + p) = .ok (.ifCond .gt (Int.ofNat v), 3) := by
  have e2 := wl_g2 h (fun x => .ifCond .gt x) (wl_tl e)
  rw [sg_p (k := 16) hv h1] at e2
  exact wl_dec (n := 2) h e rfl e2
theorem zD158p {c : ByteArray} {o : Nat} {L r : List Nat} (h : WLy c o L) {p a b v : Nat} (e : L.drop p = 158 :: a :: b :: r) (hv : Nat.beq (a * 256 + b) v = true) (h1 : Nat.blt v 32768 = true) : decode c (o + p) = .ok (.ifCond .le (Int.ofNat v), 3) := by
  have e2 := wl_g2 h (fun x => .ifCond .le x) (wl_tl e)
  rw [sg_p (k := 16) hv h1] at e2
  exact wl_dec (n := 2) h e rfl e2
theorem zD159p {c : ByteArray} {o : Nat} {L r : List Nat} (h : WLy c o L) {p a b v : Nat} (e : L.drop p = 159 :: a :: b :: r) (hv : Nat.beq (a * 256 + b) v = true) (h1 : Nat.blt v 32768 = true) : decode c (o + p) = .ok (.if_icmp .eq (Int.ofNat v), 3) := by
  have e2 := wl_g2 h (fun x => .if_icmp .eq x) (wl_tl e)
  rw [sg_p (k := 16) hv h1] at e2
  exact wl_dec (n := 2) h e rfl e2
theorem zD160p {c : ByteArray} {o : Nat} {L r : List Nat} (h : WLy c o L) {p a b v : Nat} (e : L.drop p = 160 :: a :: b :: r) (hv : Nat.beq (a * 256 + b) v = true) (h1 : Nat.blt v 32768 = true) : decode c (o + p) = .ok (.if_icmp .ne (Int.ofNat v), 3) := by
  have e2 := wl_g2 h (fun x => .if_icmp .ne x) (wl_tl e)
  rw [sg_p (k := 16) hv h1] at e2
  exact wl_dec (n := 2) h e rfl e2
theorem zD161p {c : ByteArray} {o : Nat} {L r : List Nat} (h : WLy c o L) {p a b v : Nat} (e : L.drop p = 161 :: a :: b :: r) (hv : Nat.beq (a * 256 + b) v = true) (h1 : Nat.blt v 32768 = true) : decode c (o + p) = .ok (.if_icmp .lt (Int.ofNat v), 3) := by
  have e2 := wl_g2 h (fun x => .if_icmp .lt x) (wl_tl e)
  rw [sg_p (k := 16) hv h1] at e2
  exact wl_dec (n := 2) h e rfl e2
theorem zD162p {c : ByteArray} {o : Nat} {L r : List Nat} (h : WLy c o L) {p a b v : Nat} (e : L.drop p = 162 :: a :: b :: r) (hv : Nat.beq (a * 256 + b) v = true) (h1 : Nat.blt v 32768 = true) : decode c (o + p) = .ok (.if_icmp .ge (Int.ofNat v), 3) := by
  have e2 := wl_g2 h (fun x => .if_icmp .ge x) (wl_tl e)
  rw [sg_p (k := 16) hv h1] at e2
  exact wl_dec (n := 2) h e rfl e2
theorem zD163p {c : ByteArray} {o : Nat} {L r : List Nat} (h : WLy c o L) {p a b v : Nat} (e : L.drop p = 163 :: a :: b :: r) (hv : Nat.beq (a * 256 + b) v = true) (h1 : Nat.blt v 32768 = true) : decode c (o + p) = .ok (.if_icmp .gt (Int.ofNat v), 3) := by
  have e2 := wl_g2 h (fun x => .if_icmp .gt x) (wl_tl e)
  rw [sg_p (k := 16) hv h1] at e2
  exact wl_dec (n := 2) h e rfl e2
theorem zD164p {c : ByteArray} {o : Nat} {L r : List Nat} (h : WLy c o L) {p a b v : Nat} (e : L.drop p = 164 :: a :: b :: r) (hv : Nat.beq (a * 256 + b) v = true) (h1 : Nat.blt v 32768 = true) : decode c (o + p) = .ok (.if_icmp .le (Int.ofNat v), 3) := by
  have e2 := wl_g2 h (fun x => .if_icmp .le x) (wl_tl e)
  rw [sg_p (k := 16) hv h1] at e2
  exact wl_dec (n := 2) h e rfl e2
theorem zD167p {c : ByteArray} {o : Nat} {L r : List Nat} (h : WLy c o L) {p a b v : Nat} (e : L.drop p = 167 :: a :: b :: r) (hv : Nat.beq (a * 256 + b) v = true) (h1 : Nat.blt v 32768 = true) : decode c (o + p) = .ok (.goto (Int.ofNat v), 3) := by
  have e2 := wl_g2 h (fun x => .goto x) (wl_tl e)
  rw [sg_p (k := 16) hv h1] at e2
  exact wl_dec (n := 2) h e rfl e2
theorem zD167n {c : ByteArray} {o : Nat} {L r : List Nat} (h : WLy c o L) {p a b v : Nat} (e : L.drop p = 167 :: a :: b :: r) (hv : Nat.beq ((a * 256 + b) + v) 65536 = true) (h1 : Nat.ble 32768 (a * 256 + b) = true) : decode c (o + p) = .ok (.goto (-(Int.ofNat v)), 3) := by
  have e2 := wl_g2 h (fun x => .goto x) (wl_tl e)
  rw [sg_n (k := 16) hv h1] at e2
  exact wl_dec (n := 2) h e rfl e2
theorem zD172 {c : ByteArray} {o : Nat} {L r : List Nat} (h : WLy c o L) {p : Nat} (e : L.drop p = 172 :: r) : decode c (o + p) = .ok (.ireturn, 1) := wl_dec (n := 0) h e rfl rfl
theorem zD173 {c : ByteArray} {o : Nat} {L r : List Nat} (h : WLy c o L) {p : Nat} (e : L.drop p = 173 :: r) : decode c (o + p) = .ok (.lreturn, 1) := wl_dec (n := 0) h e rfl rfl
theorem zD177 {c : ByteArray} {o : Nat} {L r : List Nat} (h : WLy c o L) {p : Nat} (e : L.drop p = 177 :: r) : decode c (o + p) = .ok (.return_, 1) := wl_dec (n := 0) h e rfl rfl
theorem zD178 {c : ByteArray} {o : Nat} {L r : List Nat} (h : WLy c o L) {p a b v : Nat} (e : L.drop p = 178 :: a :: b :: r) (hv : Nat.beq (a * 256 + b) v = true) : decode c (o + p) = .ok (.getstatic v, 3) := by
  have e1 := Nat.eq_of_beq_eq_true hv
  subst e1
  exact wl_dec (n := 2) h e rfl (wl_f2 h (fun x => .getstatic x) (wl_tl e))
theorem zD180 {c : ByteArray} {o : Nat} {L r : List Nat} (h : WLy c o L) {p a b v : Nat} (e : L.drop p = 180 :: a :: b :: r) (hv : Nat.beq (a * 256 + b) v = true) : decode c (o + p) = .ok (.getfield v, 3) := by
  have e1 := Nat.eq_of_beq_eq_true hv
  subst e1
  exact wl_dec (n := 2) h e rfl (wl_f2 h (fun x => .getfield x) (wl_tl e))
theorem zD181 {c : ByteArray} {o : Nat} {L r : List Nat} (h : WLy c o L) {p a b v : Nat} (e : L.drop p = 181 :: a :: b :: r) (hv : Nat.beq (a * 256 + b) v = true) : decode c (o + p) = .ok (.putfield v, 3) := by
  have e1 := Nat.eq_of_beq_eq_true hv
  subst e1
  exact wl_dec (n := 2) h e rfl (wl_f2 h (fun x => .putfield x) (wl_tl e))
theorem zD182 {c : ByteArray} {o : Nat} {L r : List Nat} (h : WLy c o L) {p a b v : Nat} (e : L.drop p = 182 :: a :: b :: r) (hv : Nat.beq (a * 256 + b) v = true) : decode c (o + p) = .ok (.invokevirtual v, 3) := by
  have e1 := Nat.eq_of_beq_eq_true hv
  subst e1
  exact wl_dec (n := 2) h e rfl (wl_f2 h (fun x => .invokevirtual x) (wl_tl e))
theorem zD183 {c : ByteArray} {o : Nat} {L r : List Nat} (h : WLy c o L) {p a b v : Nat} (e : L.drop p = 183 :: a :: b :: r) (hv : Nat.beq (a * 256 + b) v = true) : decode c (o + p) = .ok (.invokespecial v, 3) := by
  have e1 := Nat.eq_of_beq_eq_true hv
  subst e1
  exact wl_dec (n := 2) h e rfl (wl_f2 h (fun x => .invokespecial x) (wl_tl e))
theorem zD184 {c : ByteArray} {o : Nat} {L r : List Nat} (h : WLy c o L) {p a b v : Nat} (e : L.drop p = 184 :: a :: b :: r) (hv : Nat.beq (a * 256 + b) v = true) : decode c (o + p) = .ok (.invokestatic v, 3) := by
  have e1 := Nat.eq_of_beq_eq_true hv
  subst e1
  exact wl_dec (n := 2) h e rfl (wl_f2 h (fun x => .invokestatic x) (wl_tl e))
theorem zD187 {c : ByteArray} {o : Nat} {L r : List Nat} (h : WLy c o L) {p a b v : Nat} (e : L.drop p = 187 :: a :: b :: r) (hv : Nat.beq (a * 256 + b) v = true) : decode c (o + p) = .ok (.new v, 3) := by
  have e1 := Nat.eq_of_beq_eq_true hv
  subst e1
  exact wl_dec (n := 2) h e rfl (wl_f2 h (fun x => .new x) (wl_tl e))
theorem zD189 {c : ByteArray} {o : Nat} {L r : List Nat} (h : WLy c o L) {p a b v : Nat} (e : L.drop p = 189 :: a :: b :: r) (hv : Nat.beq (a * 256 + b) v = true) : decode c (o + p) = .ok (.anewarray v, 3) := by
  have e1 := Nat.eq_of_beq_eq_true hv
  subst e1
  exact wl_dec (n := 2) h e rfl (wl_f2 h (fun x => .anewarray x) (wl_tl e))
theorem zD190 {c : ByteArray} {o : Nat} {L r : List Nat} (h : WLy c o L) {p : Nat} (e : L.drop p = 190 :: r) : decode c (o + p) = .ok (.arraylength, 1) := wl_dec (n := 0) h e rfl rfl

def wlX0_init_0 : List Nat := [42, 183, 0, 3, 42, 10, 181, 0, 9, 42, 16, 11, 16, 70, 197, 0, 15, 2, 181, 0, 17, 42, 16, 10, 16, 70, 197, 0, 20, 2, 181, 0, 22]
theorem whX0_init_0 : WLy cX0_init 0 wlX0_init_0 := by decide +kernel
theorem dX0_init_0 : decode cX0_init 0 = .ok (.aload_n 0, 1) := zD42 whX0_init_0 (p := 0) rfl
theorem dX0_init_1 : decode cX0_init 1 = .ok (.invokespecial 3, 3) := zD183 whX0_init_0 (p := 1) rfl rfl
theorem dX0_init_4 : decode cX0_init 4 = .ok (.aload_n 0, 1) := zD42 whX0_init_0 (p := 4) rfl
theorem dX0_init_5 : decode cX0_init 5 = .ok (.lconst 1, 1) := zD10 whX0_init_0 (p := 5) rfl
theorem dX0_init_6 : decode cX0_init 6 = .ok (.putfield 9, 3) := zD181 whX0_init_0 (p := 6) rfl rfl
theorem dX0_init_9 : decode cX0_init 9 = .ok (.aload_n 0, 1) := zD42 whX0_init_0 (p := 9) rfl
theorem dX0_init_10 : decode cX0_init 10 = .ok (.bipush 11, 2) := zD16p whX0_init_0 (p := 10) (v := 11) rfl rfl rfl
theorem dX0_init_12 : decode cX0_init 12 = .ok (.bipush 70, 2) := zD16p whX0_init_0 (p := 12) (v := 70) rfl rfl rfl
theorem dX0_init_18 : decode cX0_init 18 = .ok (.putfield 17, 3) := zD181 whX0_init_0 (p := 18) rfl rfl
theorem dX0_init_21 : decode cX0_init 21 = .ok (.aload_n 0, 1) := zD42 whX0_init_0 (p := 21) rfl
theorem dX0_init_22 : decode cX0_init 22 = .ok (.bipush 10, 2) := zD16p whX0_init_0 (p := 22) (v := 10) rfl rfl rfl
theorem dX0_init_24 : decode cX0_init 24 = .ok (.bipush 70, 2) := zD16p whX0_init_0 (p := 24) (v := 70) rfl rfl rfl
theorem dX0_init_30 : decode cX0_init 30 = .ok (.putfield 22, 3) := zD181 whX0_init_0 (p := 30) rfl rfl
def wlX0_init_1 : List Nat := [177]
theorem whX0_init_1 : WLy cX0_init 33 wlX0_init_1 := by decide +kernel
theorem dX0_init_33 : decode cX0_init 33 = .ok (.return_, 1) := zD177 whX0_init_1 (p := 0) rfl
def wlX0_slot_0 : List Nat := [26, 16, 252, 160, 0, 7, 3, 167, 0, 6, 26, 4, 96, 16, 10, 104, 27, 96, 172]
theorem whX0_slot_0 : WLy cX0_slot 0 wlX0_slot_0 := by decide +kernel
theorem dX0_slot_0 : decode cX0_slot 0 = .ok (.iload_n 0, 1) := zD26 whX0_slot_0 (p := 0) rfl
theorem dX0_slot_1 : decode cX0_slot 1 = .ok (.bipush (-4), 2) := zD16n whX0_slot_0 (p := 1) (v := 4) rfl rfl rfl
theorem dX0_slot_3 : decode cX0_slot 3 = .ok (.if_icmp .ne 7, 3) := zD160p whX0_slot_0 (p := 3) (v := 7) rfl rfl rfl
theorem dX0_slot_6 : decode cX0_slot 6 = .ok (.iconst 0, 1) := zD3 whX0_slot_0 (p := 6) rfl
theorem dX0_slot_7 : decode cX0_slot 7 = .ok (.goto 6, 3) := zD167p whX0_slot_0 (p := 7) (v := 6) rfl rfl rfl
theorem dX0_slot_10 : decode cX0_slot 10 = .ok (.iload_n 0, 1) := zD26 whX0_slot_0 (p := 10) rfl
theorem dX0_slot_11 : decode cX0_slot 11 = .ok (.iconst 1, 1) := zD4 whX0_slot_0 (p := 11) rfl
theorem dX0_slot_12 : decode cX0_slot 12 = .ok (.iadd, 1) := zD96 whX0_slot_0 (p := 12) rfl
theorem dX0_slot_13 : decode cX0_slot 13 = .ok (.bipush 10, 2) := zD16p whX0_slot_0 (p := 13) (v := 10) rfl rfl rfl
theorem dX0_slot_15 : decode cX0_slot 15 = .ok (.imul, 1) := zD104 whX0_slot_0 (p := 15) rfl
theorem dX0_slot_16 : decode cX0_slot 16 = .ok (.iload_n 1, 1) := zD27 whX0_slot_0 (p := 16) rfl
theorem dX0_slot_17 : decode cX0_slot 17 = .ok (.iadd, 1) := zD96 whX0_slot_0 (p := 17) rfl
theorem dX0_slot_18 : decode cX0_slot 18 = .ok (.ireturn, 1) := zD172 whX0_slot_0 (p := 18) rfl
def wlX0_plan_0 : List Nat := [42, 10, 181, 0, 9, 3, 62, 29, 16, 70, 162, 0, 32, 42, 180, 0, 17, 43, 180, 0, 25, 50, 29, 29, 16, 10, 112, 154, 0, 7, 10, 167, 0, 4]
theorem whX0_plan_0 : WLy cX0_plan 0 wlX0_plan_0 := by decide +kernel
theorem dX0_plan_0 : decode cX0_plan 0 = .ok (.aload_n 0, 1) := zD42 whX0_plan_0 (p := 0) rfl
theorem dX0_plan_1 : decode cX0_plan 1 = .ok (.lconst 1, 1) := zD10 whX0_plan_0 (p := 1) rfl
theorem dX0_plan_2 : decode cX0_plan 2 = .ok (.putfield 9, 3) := zD181 whX0_plan_0 (p := 2) rfl rfl
theorem dX0_plan_5 : decode cX0_plan 5 = .ok (.iconst 0, 1) := zD3 whX0_plan_0 (p := 5) rfl
theorem dX0_plan_6 : decode cX0_plan 6 = .ok (.istore_n 3, 1) := zD62 whX0_plan_0 (p := 6) rfl
theorem dX0_plan_7 : decode cX0_plan 7 = .ok (.iload_n 3, 1) := zD29 whX0_plan_0 (p := 7) rfl
theorem dX0_plan_8 : decode cX0_plan 8 = .ok (.bipush 70, 2) := zD16p whX0_plan_0 (p := 8) (v := 70) rfl rfl rfl
theorem dX0_plan_10 : decode cX0_plan 10 = .ok (.if_icmp .ge 32, 3) := zD162p whX0_plan_0 (p := 10) (v := 32) rfl rfl rfl
theorem dX0_plan_13 : decode cX0_plan 13 = .ok (.aload_n 0, 1) := zD42 whX0_plan_0 (p := 13) rfl
theorem dX0_plan_14 : decode cX0_plan 14 = .ok (.getfield 17, 3) := zD180 whX0_plan_0 (p := 14) rfl rfl
theorem dX0_plan_17 : decode cX0_plan 17 = .ok (.aload_n 1, 1) := zD43 whX0_plan_0 (p := 17) rfl
theorem dX0_plan_18 : decode cX0_plan 18 = .ok (.getfield 25, 3) := zD180 whX0_plan_0 (p := 18) rfl rfl
theorem dX0_plan_21 : decode cX0_plan 21 = .ok (.aaload, 1) := zD50 whX0_plan_0 (p := 21) rfl
theorem dX0_plan_22 : decode cX0_plan 22 = .ok (.iload_n 3, 1) := zD29 whX0_plan_0 (p := 22) rfl
theorem dX0_plan_23 : decode cX0_plan 23 = .ok (.iload_n 3, 1) := zD29 whX0_plan_0 (p := 23) rfl
theorem dX0_plan_24 : decode cX0_plan 24 = .ok (.bipush 10, 2) := zD16p whX0_plan_0 (p := 24) (v := 10) rfl rfl rfl
theorem dX0_plan_26 : decode cX0_plan 26 = .ok (.irem, 1) := zD112 whX0_plan_0 (p := 26) rfl
theorem dX0_plan_27 : decode cX0_plan 27 = .ok (.ifCond .ne 7, 3) := zD154p whX0_plan_0 (p := 27) (v := 7) rfl rfl rfl
theorem dX0_plan_30 : decode cX0_plan 30 = .ok (.lconst 1, 1) := zD10 whX0_plan_0 (p := 30) rfl
theorem dX0_plan_31 : decode cX0_plan 31 = .ok (.goto 4, 3) := zD167p whX0_plan_0 (p := 31) (v := 4) rfl rfl rfl
def wlX0_plan_1 : List Nat := [9, 80, 132, 3, 1, 167, 255, 224, 43, 180, 0, 25, 4, 100, 62, 29, 155, 0, 57, 42, 89, 180, 0, 9, 20, 0, 31, 105, 181, 0, 9, 42]
theorem whX0_plan_1 : WLy cX0_plan 34 wlX0_plan_1 := by decide +kernel
theorem dX0_plan_34 : decode cX0_plan 34 = .ok (.lconst 0, 1) := zD9 whX0_plan_1 (p := 0) rfl
theorem dX0_plan_35 : decode cX0_plan 35 = .ok (.lastore, 1) := zD80 whX0_plan_1 (p := 1) rfl
theorem dX0_plan_36 : decode cX0_plan 36 = .ok (.iinc 3 1, 3) := zD132p whX0_plan_1 (p := 2) (v := 1) rfl rfl rfl
theorem dX0_plan_39 : decode cX0_plan 39 = .ok (.goto (-32), 3) := zD167n whX0_plan_1 (p := 5) (v := 32) rfl rfl rfl
theorem dX0_plan_42 : decode cX0_plan 42 = .ok (.aload_n 1, 1) := zD43 whX0_plan_1 (p := 8) rfl
theorem dX0_plan_43 : decode cX0_plan 43 = .ok (.getfield 25, 3) := zD180 whX0_plan_1 (p := 9) rfl rfl
theorem dX0_plan_46 : decode cX0_plan 46 = .ok (.iconst 1, 1) := zD4 whX0_plan_1 (p := 12) rfl
theorem dX0_plan_47 : decode cX0_plan 47 = .ok (.isub, 1) := zD100 whX0_plan_1 (p := 13) rfl
theorem dX0_plan_48 : decode cX0_plan 48 = .ok (.istore_n 3, 1) := zD62 whX0_plan_1 (p := 14) rfl
theorem dX0_plan_49 : decode cX0_plan 49 = .ok (.iload_n 3, 1) := zD29 whX0_plan_1 (p := 15) rfl
theorem dX0_plan_50 : decode cX0_plan 50 = .ok (.ifCond .lt 57, 3) := zD155p whX0_plan_1 (p := 16) (v := 57) rfl rfl rfl
theorem dX0_plan_53 : decode cX0_plan 53 = .ok (.aload_n 0, 1) := zD42 whX0_plan_1 (p := 19) rfl
theorem dX0_plan_54 : decode cX0_plan 54 = .ok (.dup, 1) := zD89 whX0_plan_1 (p := 20) rfl
theorem dX0_plan_55 : decode cX0_plan 55 = .ok (.getfield 9, 3) := zD180 whX0_plan_1 (p := 21) rfl rfl
theorem dX0_plan_58 : decode cX0_plan 58 = .ok (.ldc2_w 31, 3) := zD20 whX0_plan_1 (p := 24) rfl rfl
theorem dX0_plan_61 : decode cX0_plan 61 = .ok (.lmul, 1) := zD105 whX0_plan_1 (p := 27) rfl
theorem dX0_plan_62 : decode cX0_plan 62 = .ok (.putfield 9, 3) := zD181 whX0_plan_1 (p := 28) rfl rfl
theorem dX0_plan_65 : decode cX0_plan 65 = .ok (.aload_n 0, 1) := zD42 whX0_plan_1 (p := 31) rfl
def wlX0_plan_2 : List Nat := [43, 29, 16, 252, 28, 182, 0, 33, 3, 54, 4, 21, 4, 43, 180, 0, 37, 162, 0, 18, 42, 43, 29, 21, 4, 28, 182, 0, 33, 132, 4, 1]
theorem whX0_plan_2 : WLy cX0_plan 66 wlX0_plan_2 := by decide +kernel
theorem dX0_plan_66 : decode cX0_plan 66 = .ok (.aload_n 1, 1) := zD43 whX0_plan_2 (p := 0) rfl
theorem dX0_plan_67 : decode cX0_plan 67 = .ok (.iload_n 3, 1) := zD29 whX0_plan_2 (p := 1) rfl
theorem dX0_plan_68 : decode cX0_plan 68 = .ok (.bipush (-4), 2) := zD16n whX0_plan_2 (p := 2) (v := 4) rfl rfl rfl
theorem dX0_plan_70 : decode cX0_plan 70 = .ok (.iload_n 2, 1) := zD28 whX0_plan_2 (p := 4) rfl
theorem dX0_plan_71 : decode cX0_plan 71 = .ok (.invokevirtual 33, 3) := zD182 whX0_plan_2 (p := 5) rfl rfl
theorem dX0_plan_74 : decode cX0_plan 74 = .ok (.iconst 0, 1) := zD3 whX0_plan_2 (p := 8) rfl
theorem dX0_plan_75 : decode cX0_plan 75 = .ok (.istore 4, 2) := zD54 whX0_plan_2 (p := 9) rfl
theorem dX0_plan_77 : decode cX0_plan 77 = .ok (.iload 4, 2) := zD21 whX0_plan_2 (p := 11) rfl
theorem dX0_plan_79 : decode cX0_plan 79 = .ok (.aload_n 1, 1) := zD43 whX0_plan_2 (p := 13) rfl
theorem dX0_plan_80 : decode cX0_plan 80 = .ok (.getfield 37, 3) := zD180 whX0_plan_2 (p := 14) rfl rfl
theorem dX0_plan_83 : decode cX0_plan 83 = .ok (.if_icmp .ge 18, 3) := zD162p whX0_plan_2 (p := 17) (v := 18) rfl rfl rfl
theorem dX0_plan_86 : decode cX0_plan 86 = .ok (.aload_n 0, 1) := zD42 whX0_plan_2 (p := 20) rfl
theorem dX0_plan_87 : decode cX0_plan 87 = .ok (.aload_n 1, 1) := zD43 whX0_plan_2 (p := 21) rfl
theorem dX0_plan_88 : decode cX0_plan 88 = .ok (.iload_n 3, 1) := zD29 whX0_plan_2 (p := 22) rfl
theorem dX0_plan_89 : decode cX0_plan 89 = .ok (.iload 4, 2) := zD21 whX0_plan_2 (p := 23) rfl
theorem dX0_plan_91 : decode cX0_plan 91 = .ok (.iload_n 2, 1) := zD28 whX0_plan_2 (p := 25) rfl
theorem dX0_plan_92 : decode cX0_plan 92 = .ok (.invokevirtual 33, 3) := zD182 whX0_plan_2 (p := 26) rfl rfl
theorem dX0_plan_95 : decode cX0_plan 95 = .ok (.iinc 4 1, 3) := zD132p whX0_plan_2 (p := 29) (v := 1) rfl rfl rfl
def wlX0_plan_3 : List Nat := [167, 255, 235, 132, 3, 255, 167, 255, 201, 177]
theorem whX0_plan_3 : WLy cX0_plan 98 wlX0_plan_3 := by decide +kernel
theorem dX0_plan_98 : decode cX0_plan 98 = .ok (.goto (-21), 3) := zD167n whX0_plan_3 (p := 0) (v := 21) rfl rfl rfl
theorem dX0_plan_101 : decode cX0_plan 101 = .ok (.iinc 3 (-1), 3) := zD132n whX0_plan_3 (p := 3) (v := 1) rfl rfl rfl
theorem dX0_plan_104 : decode cX0_plan 104 = .ok (.goto (-55), 3) := zD167n whX0_plan_3 (p := 6) (v := 55) rfl rfl rfl
theorem dX0_plan_107 : decode cX0_plan 107 = .ok (.return_, 1) := zD177 whX0_plan_3 (p := 9) rfl
def wlX0_chooseFrom_0 : List Nat := [42, 180, 0, 17, 28, 50, 29, 3, 184, 0, 40, 42, 180, 0, 9, 80, 4, 54, 5, 21, 5, 16, 10, 162, 0, 25, 42, 180, 0, 17, 28, 50]
theorem whX0_chooseFrom_0 : WLy cX0_chooseFrom 0 wlX0_chooseFrom_0 := by decide +kernel
theorem dX0_chooseFrom_0 : decode cX0_chooseFrom 0 = .ok (.aload_n 0, 1) := zD42 whX0_chooseFrom_0 (p := 0) rfl
theorem dX0_chooseFrom_1 : decode cX0_chooseFrom 1 = .ok (.getfield 17, 3) := zD180 whX0_chooseFrom_0 (p := 1) rfl rfl
theorem dX0_chooseFrom_4 : decode cX0_chooseFrom 4 = .ok (.iload_n 2, 1) := zD28 whX0_chooseFrom_0 (p := 4) rfl
theorem dX0_chooseFrom_5 : decode cX0_chooseFrom 5 = .ok (.aaload, 1) := zD50 whX0_chooseFrom_0 (p := 5) rfl
theorem dX0_chooseFrom_6 : decode cX0_chooseFrom 6 = .ok (.iload_n 3, 1) := zD29 whX0_chooseFrom_0 (p := 6) rfl
theorem dX0_chooseFrom_7 : decode cX0_chooseFrom 7 = .ok (.iconst 0, 1) := zD3 whX0_chooseFrom_0 (p := 7) rfl
theorem dX0_chooseFrom_8 : decode cX0_chooseFrom 8 = .ok (.invokestatic 40, 3) := zD184 whX0_chooseFrom_0 (p := 8) rfl rfl
theorem dX0_chooseFrom_11 : decode cX0_chooseFrom 11 = .ok (.aload_n 0, 1) := zD42 whX0_chooseFrom_0 (p := 11) rfl
theorem dX0_chooseFrom_12 : decode cX0_chooseFrom 12 = .ok (.getfield 9, 3) := zD180 whX0_chooseFrom_0 (p := 12) rfl rfl
theorem dX0_chooseFrom_15 : decode cX0_chooseFrom 15 = .ok (.lastore, 1) := zD80 whX0_chooseFrom_0 (p := 15) rfl
theorem dX0_chooseFrom_16 : decode cX0_chooseFrom 16 = .ok (.iconst 1, 1) := zD4 whX0_chooseFrom_0 (p := 16) rfl
theorem dX0_chooseFrom_17 : decode cX0_chooseFrom 17 = .ok (.istore 5, 2) := zD54 whX0_chooseFrom_0 (p := 17) rfl
theorem dX0_chooseFrom_19 : decode cX0_chooseFrom 19 = .ok (.iload 5, 2) := zD21 whX0_chooseFrom_0 (p := 19) rfl
theorem dX0_chooseFrom_21 : decode cX0_chooseFrom 21 = .ok (.bipush 10, 2) := zD16p whX0_chooseFrom_0 (p := 21) (v := 10) rfl rfl rfl
theorem dX0_chooseFrom_23 : decode cX0_chooseFrom 23 = .ok (.if_icmp .ge 25, 3) := zD162p whX0_chooseFrom_0 (p := 23) (v := 25) rfl rfl rfl
theorem dX0_chooseFrom_26 : decode cX0_chooseFrom 26 = .ok (.aload_n 0, 1) := zD42 whX0_chooseFrom_0 (p := 26) rfl
theorem dX0_chooseFrom_27 : decode cX0_chooseFrom 27 = .ok (.getfield 17, 3) := zD180 whX0_chooseFrom_0 (p := 27) rfl rfl
theorem dX0_chooseFrom_30 : decode cX0_chooseFrom 30 = .ok (.iload_n 2, 1) := zD28 whX0_chooseFrom_0 (p := 30) rfl
theorem dX0_chooseFrom_31 : decode cX0_chooseFrom 31 = .ok (.aaload, 1) := zD50 whX0_chooseFrom_0 (p := 31) rfl
def wlX0_chooseFrom_1 : List Nat := [29, 21, 5, 184, 0, 40, 20, 0, 44, 80, 132, 5, 1, 167, 255, 230, 3, 54, 5, 21, 5, 43, 180, 0, 37, 162, 0, 32, 21, 5, 21, 4]
theorem whX0_chooseFrom_1 : WLy cX0_chooseFrom 32 wlX0_chooseFrom_1 := by decide +kernel
theorem dX0_chooseFrom_32 : decode cX0_chooseFrom 32 = .ok (.iload_n 3, 1) := zD29 whX0_chooseFrom_1 (p := 0) rfl
theorem dX0_chooseFrom_33 : decode cX0_chooseFrom 33 = .ok (.iload 5, 2) := zD21 whX0_chooseFrom_1 (p := 1) rfl
theorem dX0_chooseFrom_35 : decode cX0_chooseFrom 35 = .ok (.invokestatic 40, 3) := zD184 whX0_chooseFrom_1 (p := 3) rfl rfl
theorem dX0_chooseFrom_38 : decode cX0_chooseFrom 38 = .ok (.ldc2_w 44, 3) := zD20 whX0_chooseFrom_1 (p := 6) rfl rfl
theorem dX0_chooseFrom_41 : decode cX0_chooseFrom 41 = .ok (.lastore, 1) := zD80 whX0_chooseFrom_1 (p := 9) rfl
theorem dX0_chooseFrom_42 : decode cX0_chooseFrom 42 = .ok (.iinc 5 1, 3) := zD132p whX0_chooseFrom_1 (p := 10) (v := 1) rfl rfl rfl
theorem dX0_chooseFrom_45 : decode cX0_chooseFrom 45 = .ok (.goto (-26), 3) := zD167n whX0_chooseFrom_1 (p := 13) (v := 26) rfl rfl rfl
theorem dX0_chooseFrom_48 : decode cX0_chooseFrom 48 = .ok (.iconst 0, 1) := zD3 whX0_chooseFrom_1 (p := 16) rfl
theorem dX0_chooseFrom_49 : decode cX0_chooseFrom 49 = .ok (.istore 5, 2) := zD54 whX0_chooseFrom_1 (p := 17) rfl
theorem dX0_chooseFrom_51 : decode cX0_chooseFrom 51 = .ok (.iload 5, 2) := zD21 whX0_chooseFrom_1 (p := 19) rfl
theorem dX0_chooseFrom_53 : decode cX0_chooseFrom 53 = .ok (.aload_n 1, 1) := zD43 whX0_chooseFrom_1 (p := 21) rfl
theorem dX0_chooseFrom_54 : decode cX0_chooseFrom 54 = .ok (.getfield 37, 3) := zD180 whX0_chooseFrom_1 (p := 22) rfl rfl
theorem dX0_chooseFrom_57 : decode cX0_chooseFrom 57 = .ok (.if_icmp .ge 32, 3) := zD162p whX0_chooseFrom_1 (p := 25) (v := 32) rfl rfl rfl
theorem dX0_chooseFrom_60 : decode cX0_chooseFrom 60 = .ok (.iload 5, 2) := zD21 whX0_chooseFrom_1 (p := 28) rfl
theorem dX0_chooseFrom_62 : decode cX0_chooseFrom 62 = .ok (.iload 4, 2) := zD21 whX0_chooseFrom_1 (p := 30) rfl
def wlX0_chooseFrom_2 : List Nat := [159, 0, 19, 42, 28, 29, 21, 5, 43, 28, 29, 21, 5, 182, 0, 46, 182, 0, 50, 132, 5, 1, 167, 255, 221, 177]
theorem whX0_chooseFrom_2 : WLy cX0_chooseFrom 64 wlX0_chooseFrom_2 := by decide +kernel
theorem dX0_chooseFrom_64 : decode cX0_chooseFrom 64 = .ok (.if_icmp .eq 19, 3) := zD159p whX0_chooseFrom_2 (p := 0) (v := 19) rfl rfl rfl
theorem dX0_chooseFrom_67 : decode cX0_chooseFrom 67 = .ok (.aload_n 0, 1) := zD42 whX0_chooseFrom_2 (p := 3) rfl
theorem dX0_chooseFrom_68 : decode cX0_chooseFrom 68 = .ok (.iload_n 2, 1) := zD28 whX0_chooseFrom_2 (p := 4) rfl
theorem dX0_chooseFrom_69 : decode cX0_chooseFrom 69 = .ok (.iload_n 3, 1) := zD29 whX0_chooseFrom_2 (p := 5) rfl
theorem dX0_chooseFrom_70 : decode cX0_chooseFrom 70 = .ok (.iload 5, 2) := zD21 whX0_chooseFrom_2 (p := 6) rfl
theorem dX0_chooseFrom_72 : decode cX0_chooseFrom 72 = .ok (.aload_n 1, 1) := zD43 whX0_chooseFrom_2 (p := 8) rfl
theorem dX0_chooseFrom_73 : decode cX0_chooseFrom 73 = .ok (.iload_n 2, 1) := zD28 whX0_chooseFrom_2 (p := 9) rfl
theorem dX0_chooseFrom_74 : decode cX0_chooseFrom 74 = .ok (.iload_n 3, 1) := zD29 whX0_chooseFrom_2 (p := 10) rfl
theorem dX0_chooseFrom_75 : decode cX0_chooseFrom 75 = .ok (.iload 5, 2) := zD21 whX0_chooseFrom_2 (p := 11) rfl
theorem dX0_chooseFrom_77 : decode cX0_chooseFrom 77 = .ok (.invokevirtual 46, 3) := zD182 whX0_chooseFrom_2 (p := 13) rfl rfl
theorem dX0_chooseFrom_80 : decode cX0_chooseFrom 80 = .ok (.invokevirtual 50, 3) := zD182 whX0_chooseFrom_2 (p := 16) rfl rfl
theorem dX0_chooseFrom_83 : decode cX0_chooseFrom 83 = .ok (.iinc 5 1, 3) := zD132p whX0_chooseFrom_2 (p := 19) (v := 1) rfl rfl rfl
theorem dX0_chooseFrom_86 : decode cX0_chooseFrom 86 = .ok (.goto (-35), 3) := zD167n whX0_chooseFrom_2 (p := 22) (v := 35) rfl rfl rfl
theorem dX0_chooseFrom_89 : decode cX0_chooseFrom 89 = .ok (.return_, 1) := zD177 whX0_chooseFrom_2 (p := 25) rfl
def wlX0_weigh_0 : List Nat := [4, 54, 5, 21, 5, 16, 10, 162, 0, 118, 42, 180, 0, 17, 27, 4, 96, 50, 29, 21, 5, 4, 100, 184, 0, 40, 47, 55, 6, 42, 180, 0, 17]
theorem whX0_weigh_0 : WLy cX0_weigh 0 wlX0_weigh_0 := by decide +kernel
theorem dX0_weigh_0 : decode cX0_weigh 0 = .ok (.iconst 1, 1) := zD4 whX0_weigh_0 (p := 0) rfl
theorem dX0_weigh_1 : decode cX0_weigh 1 = .ok (.istore 5, 2) := zD54 whX0_weigh_0 (p := 1) rfl
theorem dX0_weigh_3 : decode cX0_weigh 3 = .ok (.iload 5, 2) := zD21 whX0_weigh_0 (p := 3) rfl
theorem dX0_weigh_5 : decode cX0_weigh 5 = .ok (.bipush 10, 2) := zD16p whX0_weigh_0 (p := 5) (v := 10) rfl rfl rfl
theorem dX0_weigh_7 : decode cX0_weigh 7 = .ok (.if_icmp .ge 118, 3) := zD162p whX0_weigh_0 (p := 7) (v := 118) rfl rfl rfl
theorem dX0_weigh_10 : decode cX0_weigh 10 = .ok (.aload_n 0, 1) := zD42 whX0_weigh_0 (p := 10) rfl
theorem dX0_weigh_11 : decode cX0_weigh 11 = .ok (.getfield 17, 3) := zD180 whX0_weigh_0 (p := 11) rfl rfl
theorem dX0_weigh_14 : decode cX0_weigh 14 = .ok (.iload_n 1, 1) := zD27 whX0_weigh_0 (p := 14) rfl
theorem dX0_weigh_15 : decode cX0_weigh 15 = .ok (.iconst 1, 1) := zD4 whX0_weigh_0 (p := 15) rfl
theorem dX0_weigh_16 : decode cX0_weigh 16 = .ok (.iadd, 1) := zD96 whX0_weigh_0 (p := 16) rfl
theorem dX0_weigh_17 : decode cX0_weigh 17 = .ok (.aaload, 1) := zD50 whX0_weigh_0 (p := 17) rfl
theorem dX0_weigh_18 : decode cX0_weigh 18 = .ok (.iload_n 3, 1) := zD29 whX0_weigh_0 (p := 18) rfl
theorem dX0_weigh_19 : decode cX0_weigh 19 = .ok (.iload 5, 2) := zD21 whX0_weigh_0 (p := 19) rfl
theorem dX0_weigh_21 : decode cX0_weigh 21 = .ok (.iconst 1, 1) := zD4 whX0_weigh_0 (p := 21) rfl
theorem dX0_weigh_22 : decode cX0_weigh 22 = .ok (.isub, 1) := zD100 whX0_weigh_0 (p := 22) rfl
theorem dX0_weigh_23 : decode cX0_weigh 23 = .ok (.invokestatic 40, 3) := zD184 whX0_weigh_0 (p := 23) rfl rfl
theorem dX0_weigh_26 : decode cX0_weigh 26 = .ok (.laload, 1) := zD47 whX0_weigh_0 (p := 26) rfl
theorem dX0_weigh_27 : decode cX0_weigh 27 = .ok (.lstore 6, 2) := zD55 whX0_weigh_0 (p := 27) rfl
theorem dX0_weigh_29 : decode cX0_weigh 29 = .ok (.aload_n 0, 1) := zD42 whX0_weigh_0 (p := 29) rfl
theorem dX0_weigh_30 : decode cX0_weigh 30 = .ok (.getfield 17, 3) := zD180 whX0_weigh_0 (p := 30) rfl rfl
def wlX0_weigh_1 : List Nat := [27, 4, 96, 50, 29, 16, 9, 21, 5, 4, 96, 184, 0, 54, 184, 0, 40, 47, 55, 8, 22, 6, 21, 4, 133, 105, 22, 8, 16, 20, 21, 4]
theorem whX0_weigh_1 : WLy cX0_weigh 33 wlX0_weigh_1 := by decide +kernel
theorem dX0_weigh_33 : decode cX0_weigh 33 = .ok (.iload_n 1, 1) := zD27 whX0_weigh_1 (p := 0) rfl
theorem dX0_weigh_34 : decode cX0_weigh 34 = .ok (.iconst 1, 1) := zD4 whX0_weigh_1 (p := 1) rfl
theorem dX0_weigh_35 : decode cX0_weigh 35 = .ok (.iadd, 1) := zD96 whX0_weigh_1 (p := 2) rfl
theorem dX0_weigh_36 : decode cX0_weigh 36 = .ok (.aaload, 1) := zD50 whX0_weigh_1 (p := 3) rfl
theorem dX0_weigh_37 : decode cX0_weigh 37 = .ok (.iload_n 3, 1) := zD29 whX0_weigh_1 (p := 4) rfl
theorem dX0_weigh_38 : decode cX0_weigh 38 = .ok (.bipush 9, 2) := zD16p whX0_weigh_1 (p := 5) (v := 9) rfl rfl rfl
theorem dX0_weigh_40 : decode cX0_weigh 40 = .ok (.iload 5, 2) := zD21 whX0_weigh_1 (p := 7) rfl
theorem dX0_weigh_42 : decode cX0_weigh 42 = .ok (.iconst 1, 1) := zD4 whX0_weigh_1 (p := 9) rfl
theorem dX0_weigh_43 : decode cX0_weigh 43 = .ok (.iadd, 1) := zD96 whX0_weigh_1 (p := 10) rfl
theorem dX0_weigh_44 : decode cX0_weigh 44 = .ok (.invokestatic 54, 3) := zD184 whX0_weigh_1 (p := 11) rfl rfl
theorem dX0_weigh_47 : decode cX0_weigh 47 = .ok (.invokestatic 40, 3) := zD184 whX0_weigh_1 (p := 14) rfl rfl
theorem dX0_weigh_50 : decode cX0_weigh 50 = .ok (.laload, 1) := zD47 whX0_weigh_1 (p := 17) rfl
theorem dX0_weigh_51 : decode cX0_weigh 51 = .ok (.lstore 8, 2) := zD55 whX0_weigh_1 (p := 18) rfl
theorem dX0_weigh_53 : decode cX0_weigh 53 = .ok (.lload 6, 2) := zD22 whX0_weigh_1 (p := 20) rfl
theorem dX0_weigh_55 : decode cX0_weigh 55 = .ok (.iload 4, 2) := zD21 whX0_weigh_1 (p := 22) rfl
theorem dX0_weigh_57 : decode cX0_weigh 57 = .ok (.i2l, 1) := zD133 whX0_weigh_1 (p := 24) rfl
theorem dX0_weigh_58 : decode cX0_weigh 58 = .ok (.lmul, 1) := zD105 whX0_weigh_1 (p := 25) rfl
theorem dX0_weigh_59 : decode cX0_weigh 59 = .ok (.lload 8, 2) := zD22 whX0_weigh_1 (p := 26) rfl
theorem dX0_weigh_61 : decode cX0_weigh 61 = .ok (.bipush 20, 2) := zD16p whX0_weigh_1 (p := 28) (v := 20) rfl rfl rfl
theorem dX0_weigh_63 : decode cX0_weigh 63 = .ok (.iload 4, 2) := zD21 whX0_weigh_1 (p := 30) rfl
def wlX0_weigh_2 : List Nat := [100, 133, 105, 97, 55, 10, 22, 10, 42, 180, 0, 17, 27, 50, 28, 21, 5, 184, 0, 40, 47, 148, 156, 0, 32, 42, 180, 0, 17, 27, 50, 28]
theorem whX0_weigh_2 : WLy cX0_weigh 65 wlX0_weigh_2 := by decide +kernel
theorem dX0_weigh_65 : decode cX0_weigh 65 = .ok (.isub, 1) := zD100 whX0_weigh_2 (p := 0) rfl
theorem dX0_weigh_66 : decode cX0_weigh 66 = .ok (.i2l, 1) := zD133 whX0_weigh_2 (p := 1) rfl
theorem dX0_weigh_67 : decode cX0_weigh 67 = .ok (.lmul, 1) := zD105 whX0_weigh_2 (p := 2) rfl
theorem dX0_weigh_68 : decode cX0_weigh 68 = .ok (.ladd, 1) := zD97 whX0_weigh_2 (p := 3) rfl
theorem dX0_weigh_69 : decode cX0_weigh 69 = .ok (.lstore 10, 2) := zD55 whX0_weigh_2 (p := 4) rfl
theorem dX0_weigh_71 : decode cX0_weigh 71 = .ok (.lload 10, 2) := zD22 whX0_weigh_2 (p := 6) rfl
theorem dX0_weigh_73 : decode cX0_weigh 73 = .ok (.aload_n 0, 1) := zD42 whX0_weigh_2 (p := 8) rfl
theorem dX0_weigh_74 : decode cX0_weigh 74 = .ok (.getfield 17, 3) := zD180 whX0_weigh_2 (p := 9) rfl rfl
theorem dX0_weigh_77 : decode cX0_weigh 77 = .ok (.iload_n 1, 1) := zD27 whX0_weigh_2 (p := 12) rfl
theorem dX0_weigh_78 : decode cX0_weigh 78 = .ok (.aaload, 1) := zD50 whX0_weigh_2 (p := 13) rfl
theorem dX0_weigh_79 : decode cX0_weigh 79 = .ok (.iload_n 2, 1) := zD28 whX0_weigh_2 (p := 14) rfl
theorem dX0_weigh_80 : decode cX0_weigh 80 = .ok (.iload 5, 2) := zD21 whX0_weigh_2 (p := 15) rfl
theorem dX0_weigh_82 : decode cX0_weigh 82 = .ok (.invokestatic 40, 3) := zD184 whX0_weigh_2 (p := 17) rfl rfl
theorem dX0_weigh_85 : decode cX0_weigh 85 = .ok (.laload, 1) := zD47 whX0_weigh_2 (p := 20) rfl
theorem dX0_weigh_86 : decode cX0_weigh 86 = .ok (.lcmp, 1) := zD148 whX0_weigh_2 (p := 21) rfl
theorem dX0_weigh_87 : decode cX0_weigh 87 = .ok (.ifCond .ge 32, 3) := zD156p whX0_weigh_2 (p := 22) (v := 32) rfl rfl rfl
theorem dX0_weigh_90 : decode cX0_weigh 90 = .ok (.aload_n 0, 1) := zD42 whX0_weigh_2 (p := 25) rfl
theorem dX0_weigh_91 : decode cX0_weigh 91 = .ok (.getfield 17, 3) := zD180 whX0_weigh_2 (p := 26) rfl rfl
theorem dX0_weigh_94 : decode cX0_weigh 94 = .ok (.iload_n 1, 1) := zD27 whX0_weigh_2 (p := 29) rfl
theorem dX0_weigh_95 : decode cX0_weigh 95 = .ok (.aaload, 1) := zD50 whX0_weigh_2 (p := 30) rfl
theorem dX0_weigh_96 : decode cX0_weigh 96 = .ok (.iload_n 2, 1) := zD28 whX0_weigh_2 (p := 31) rfl
def wlX0_weigh_3 : List Nat := [21, 5, 184, 0, 40, 22, 10, 80, 42, 180, 0, 22, 27, 50, 28, 21, 5, 184, 0, 40, 29, 79, 132, 5, 1, 167, 255, 137, 177]
theorem whX0_weigh_3 : WLy cX0_weigh 97 wlX0_weigh_3 := by decide +kernel
theorem dX0_weigh_97 : decode cX0_weigh 97 = .ok (.iload 5, 2) := zD21 whX0_weigh_3 (p := 0) rfl
theorem dX0_weigh_99 : decode cX0_weigh 99 = .ok (.invokestatic 40, 3) := zD184 whX0_weigh_3 (p := 2) rfl rfl
theorem dX0_weigh_102 : decode cX0_weigh 102 = .ok (.lload 10, 2) := zD22 whX0_weigh_3 (p := 5) rfl
theorem dX0_weigh_104 : decode cX0_weigh 104 = .ok (.lastore, 1) := zD80 whX0_weigh_3 (p := 7) rfl
theorem dX0_weigh_105 : decode cX0_weigh 105 = .ok (.aload_n 0, 1) := zD42 whX0_weigh_3 (p := 8) rfl
theorem dX0_weigh_106 : decode cX0_weigh 106 = .ok (.getfield 22, 3) := zD180 whX0_weigh_3 (p := 9) rfl rfl
theorem dX0_weigh_109 : decode cX0_weigh 109 = .ok (.iload_n 1, 1) := zD27 whX0_weigh_3 (p := 12) rfl
theorem dX0_weigh_110 : decode cX0_weigh 110 = .ok (.aaload, 1) := zD50 whX0_weigh_3 (p := 13) rfl
theorem dX0_weigh_111 : decode cX0_weigh 111 = .ok (.iload_n 2, 1) := zD28 whX0_weigh_3 (p := 14) rfl
theorem dX0_weigh_112 : decode cX0_weigh 112 = .ok (.iload 5, 2) := zD21 whX0_weigh_3 (p := 15) rfl
theorem dX0_weigh_114 : decode cX0_weigh 114 = .ok (.invokestatic 40, 3) := zD184 whX0_weigh_3 (p := 17) rfl rfl
theorem dX0_weigh_117 : decode cX0_weigh 117 = .ok (.iload_n 3, 1) := zD29 whX0_weigh_3 (p := 20) rfl
theorem dX0_weigh_118 : decode cX0_weigh 118 = .ok (.iastore, 1) := zD79 whX0_weigh_3 (p := 21) rfl
theorem dX0_weigh_119 : decode cX0_weigh 119 = .ok (.iinc 5 1, 3) := zD132p whX0_weigh_3 (p := 22) (v := 1) rfl rfl rfl
theorem dX0_weigh_122 : decode cX0_weigh 122 = .ok (.goto (-119), 3) := zD167n whX0_weigh_3 (p := 25) (v := 119) rfl rfl rfl
theorem dX0_weigh_125 : decode cX0_weigh 125 = .ok (.return_, 1) := zD177 whX0_weigh_3 (p := 28) rfl
def wlX0_wakingAtFirst_0 : List Nat := [42, 180, 0, 17, 3, 50, 16, 252, 43, 180, 0, 59, 184, 0, 40, 47, 173]
theorem whX0_wakingAtFirst_0 : WLy cX0_wakingAtFirst 0 wlX0_wakingAtFirst_0 := by decide +kernel
theorem dX0_wakingAtFirst_0 : decode cX0_wakingAtFirst 0 = .ok (.aload_n 0, 1) := zD42 whX0_wakingAtFirst_0 (p := 0) rfl
theorem dX0_wakingAtFirst_1 : decode cX0_wakingAtFirst 1 = .ok (.getfield 17, 3) := zD180 whX0_wakingAtFirst_0 (p := 1) rfl rfl
theorem dX0_wakingAtFirst_4 : decode cX0_wakingAtFirst 4 = .ok (.iconst 0, 1) := zD3 whX0_wakingAtFirst_0 (p := 4) rfl
theorem dX0_wakingAtFirst_5 : decode cX0_wakingAtFirst 5 = .ok (.aaload, 1) := zD50 whX0_wakingAtFirst_0 (p := 5) rfl
theorem dX0_wakingAtFirst_6 : decode cX0_wakingAtFirst 6 = .ok (.bipush (-4), 2) := zD16n whX0_wakingAtFirst_0 (p := 6) (v := 4) rfl rfl rfl
theorem dX0_wakingAtFirst_8 : decode cX0_wakingAtFirst 8 = .ok (.aload_n 1, 1) := zD43 whX0_wakingAtFirst_0 (p := 8) rfl
theorem dX0_wakingAtFirst_9 : decode cX0_wakingAtFirst 9 = .ok (.getfield 59, 3) := zD180 whX0_wakingAtFirst_0 (p := 9) rfl rfl
theorem dX0_wakingAtFirst_12 : decode cX0_wakingAtFirst 12 = .ok (.invokestatic 40, 3) := zD184 whX0_wakingAtFirst_0 (p := 12) rfl rfl
theorem dX0_wakingAtFirst_15 : decode cX0_wakingAtFirst 15 = .ok (.laload, 1) := zD47 whX0_wakingAtFirst_0 (p := 15) rfl
theorem dX0_wakingAtFirst_16 : decode cX0_wakingAtFirst 16 = .ok (.lreturn, 1) := zD173 whX0_wakingAtFirst_0 (p := 16) rfl
def wlX1_init_0 : List Nat := [42, 183, 0, 3, 177]
theorem whX1_init_0 : WLy cX1_init 0 wlX1_init_0 := by decide +kernel
theorem dX1_init_0 : decode cX1_init 0 = .ok (.aload_n 0, 1) := zD42 whX1_init_0 (p := 0) rfl
theorem dX1_init_1 : decode cX1_init 1 = .ok (.invokespecial 3, 3) := zD183 whX1_init_0 (p := 1) rfl rfl
theorem dX1_init_4 : decode cX1_init 4 = .ok (.return_, 1) := zD177 whX1_init_0 (p := 4) rfl
def wlX1_cross_0 : List Nat := [42, 43, 180, 0, 9, 181, 0, 15, 42, 3, 181, 0, 20, 42, 16, 252, 181, 0, 23, 28, 62, 3, 54, 4, 21, 4, 43, 180, 0, 26, 162, 0, 96]
theorem whX1_cross_0 : WLy cX1_cross 0 wlX1_cross_0 := by decide +kernel
theorem dX1_cross_0 : decode cX1_cross 0 = .ok (.aload_n 0, 1) := zD42 whX1_cross_0 (p := 0) rfl
theorem dX1_cross_1 : decode cX1_cross 1 = .ok (.aload_n 1, 1) := zD43 whX1_cross_0 (p := 1) rfl
theorem dX1_cross_2 : decode cX1_cross 2 = .ok (.getfield 9, 3) := zD180 whX1_cross_0 (p := 2) rfl rfl
theorem dX1_cross_5 : decode cX1_cross 5 = .ok (.putfield 15, 3) := zD181 whX1_cross_0 (p := 5) rfl rfl
theorem dX1_cross_8 : decode cX1_cross 8 = .ok (.aload_n 0, 1) := zD42 whX1_cross_0 (p := 8) rfl
theorem dX1_cross_9 : decode cX1_cross 9 = .ok (.iconst 0, 1) := zD3 whX1_cross_0 (p := 9) rfl
theorem dX1_cross_10 : decode cX1_cross 10 = .ok (.putfield 20, 3) := zD181 whX1_cross_0 (p := 10) rfl rfl
theorem dX1_cross_13 : decode cX1_cross 13 = .ok (.aload_n 0, 1) := zD42 whX1_cross_0 (p := 13) rfl
theorem dX1_cross_14 : decode cX1_cross 14 = .ok (.bipush (-4), 2) := zD16n whX1_cross_0 (p := 14) (v := 4) rfl rfl rfl
theorem dX1_cross_16 : decode cX1_cross 16 = .ok (.putfield 23, 3) := zD181 whX1_cross_0 (p := 16) rfl rfl
theorem dX1_cross_19 : decode cX1_cross 19 = .ok (.iload_n 2, 1) := zD28 whX1_cross_0 (p := 19) rfl
theorem dX1_cross_20 : decode cX1_cross 20 = .ok (.istore_n 3, 1) := zD62 whX1_cross_0 (p := 20) rfl
theorem dX1_cross_21 : decode cX1_cross 21 = .ok (.iconst 0, 1) := zD3 whX1_cross_0 (p := 21) rfl
theorem dX1_cross_22 : decode cX1_cross 22 = .ok (.istore 4, 2) := zD54 whX1_cross_0 (p := 22) rfl
theorem dX1_cross_24 : decode cX1_cross 24 = .ok (.iload 4, 2) := zD21 whX1_cross_0 (p := 24) rfl
theorem dX1_cross_26 : decode cX1_cross 26 = .ok (.aload_n 1, 1) := zD43 whX1_cross_0 (p := 26) rfl
theorem dX1_cross_27 : decode cX1_cross 27 = .ok (.getfield 26, 3) := zD180 whX1_cross_0 (p := 27) rfl rfl
theorem dX1_cross_30 : decode cX1_cross 30 = .ok (.if_icmp .ge 96, 3) := zD162p whX1_cross_0 (p := 30) (v := 96) rfl rfl rfl
def wlX1_cross_1 : List Nat := [42, 180, 0, 15, 158, 0, 89, 29, 18, 29, 104, 17, 48, 57, 96, 62, 29, 16, 16, 122, 17, 127, 255, 126, 16, 20, 112, 43, 21, 4, 182, 0, 30]
theorem whX1_cross_1 : WLy cX1_cross 33 wlX1_cross_1 := by decide +kernel
theorem dX1_cross_33 : decode cX1_cross 33 = .ok (.aload_n 0, 1) := zD42 whX1_cross_1 (p := 0) rfl
theorem dX1_cross_34 : decode cX1_cross 34 = .ok (.getfield 15, 3) := zD180 whX1_cross_1 (p := 1) rfl rfl
theorem dX1_cross_37 : decode cX1_cross 37 = .ok (.ifCond .le 89, 3) := zD158p whX1_cross_1 (p := 4) (v := 89) rfl rfl rfl
theorem dX1_cross_40 : decode cX1_cross 40 = .ok (.iload_n 3, 1) := zD29 whX1_cross_1 (p := 7) rfl
theorem dX1_cross_41 : decode cX1_cross 41 = .ok (.ldc 29, 2) := zD18 whX1_cross_1 (p := 8) rfl
theorem dX1_cross_43 : decode cX1_cross 43 = .ok (.imul, 1) := zD104 whX1_cross_1 (p := 10) rfl
theorem dX1_cross_44 : decode cX1_cross 44 = .ok (.sipush 12345, 3) := zD17p whX1_cross_1 (p := 11) (v := 12345) rfl rfl rfl
theorem dX1_cross_47 : decode cX1_cross 47 = .ok (.iadd, 1) := zD96 whX1_cross_1 (p := 14) rfl
theorem dX1_cross_48 : decode cX1_cross 48 = .ok (.istore_n 3, 1) := zD62 whX1_cross_1 (p := 15) rfl
theorem dX1_cross_49 : decode cX1_cross 49 = .ok (.iload_n 3, 1) := zD29 whX1_cross_1 (p := 16) rfl
theorem dX1_cross_50 : decode cX1_cross 50 = .ok (.bipush 16, 2) := zD16p whX1_cross_1 (p := 17) (v := 16) rfl rfl rfl
theorem dX1_cross_52 : decode cX1_cross 52 = .ok (.ishr, 1) := zD122 whX1_cross_1 (p := 19) rfl
theorem dX1_cross_53 : decode cX1_cross 53 = .ok (.sipush 32767, 3) := zD17p whX1_cross_1 (p := 20) (v := 32767) rfl rfl rfl
theorem dX1_cross_56 : decode cX1_cross 56 = .ok (.iand, 1) := zD126 whX1_cross_1 (p := 23) rfl
theorem dX1_cross_57 : decode cX1_cross 57 = .ok (.bipush 20, 2) := zD16p whX1_cross_1 (p := 24) (v := 20) rfl rfl rfl
theorem dX1_cross_59 : decode cX1_cross 59 = .ok (.irem, 1) := zD112 whX1_cross_1 (p := 26) rfl
theorem dX1_cross_60 : decode cX1_cross 60 = .ok (.aload_n 1, 1) := zD43 whX1_cross_1 (p := 27) rfl
theorem dX1_cross_61 : decode cX1_cross 61 = .ok (.iload 4, 2) := zD21 whX1_cross_1 (p := 28) rfl
theorem dX1_cross_63 : decode cX1_cross 63 = .ok (.invokevirtual 30, 3) := zD182 whX1_cross_1 (p := 30) rfl rfl
def wlX1_cross_2 : List Nat := [162, 0, 26, 42, 89, 180, 0, 15, 4, 100, 181, 0, 15, 42, 89, 180, 0, 20, 4, 96, 181, 0, 20, 167, 0, 18, 42, 16, 9, 42, 180, 0, 15]
theorem whX1_cross_2 : WLy cX1_cross 66 wlX1_cross_2 := by decide +kernel
theorem dX1_cross_66 : decode cX1_cross 66 = .ok (.if_icmp .ge 26, 3) := zD162p whX1_cross_2 (p := 0) (v := 26) rfl rfl rfl
theorem dX1_cross_69 : decode cX1_cross 69 = .ok (.aload_n 0, 1) := zD42 whX1_cross_2 (p := 3) rfl
theorem dX1_cross_70 : decode cX1_cross 70 = .ok (.dup, 1) := zD89 whX1_cross_2 (p := 4) rfl
theorem dX1_cross_71 : decode cX1_cross 71 = .ok (.getfield 15, 3) := zD180 whX1_cross_2 (p := 5) rfl rfl
theorem dX1_cross_74 : decode cX1_cross 74 = .ok (.iconst 1, 1) := zD4 whX1_cross_2 (p := 8) rfl
theorem dX1_cross_75 : decode cX1_cross 75 = .ok (.isub, 1) := zD100 whX1_cross_2 (p := 9) rfl
theorem dX1_cross_76 : decode cX1_cross 76 = .ok (.putfield 15, 3) := zD181 whX1_cross_2 (p := 10) rfl rfl
theorem dX1_cross_79 : decode cX1_cross 79 = .ok (.aload_n 0, 1) := zD42 whX1_cross_2 (p := 13) rfl
theorem dX1_cross_80 : decode cX1_cross 80 = .ok (.dup, 1) := zD89 whX1_cross_2 (p := 14) rfl
theorem dX1_cross_81 : decode cX1_cross 81 = .ok (.getfield 20, 3) := zD180 whX1_cross_2 (p := 15) rfl rfl
theorem dX1_cross_84 : decode cX1_cross 84 = .ok (.iconst 1, 1) := zD4 whX1_cross_2 (p := 18) rfl
theorem dX1_cross_85 : decode cX1_cross 85 = .ok (.iadd, 1) := zD96 whX1_cross_2 (p := 19) rfl
theorem dX1_cross_86 : decode cX1_cross 86 = .ok (.putfield 20, 3) := zD181 whX1_cross_2 (p := 20) rfl rfl
theorem dX1_cross_89 : decode cX1_cross 89 = .ok (.goto 18, 3) := zD167p whX1_cross_2 (p := 23) (v := 18) rfl rfl rfl
theorem dX1_cross_92 : decode cX1_cross 92 = .ok (.aload_n 0, 1) := zD42 whX1_cross_2 (p := 26) rfl
theorem dX1_cross_93 : decode cX1_cross 93 = .ok (.bipush 9, 2) := zD16p whX1_cross_2 (p := 27) (v := 9) rfl rfl rfl
theorem dX1_cross_95 : decode cX1_cross 95 = .ok (.aload_n 0, 1) := zD42 whX1_cross_2 (p := 29) rfl
theorem dX1_cross_96 : decode cX1_cross 96 = .ok (.getfield 15, 3) := zD180 whX1_cross_2 (p := 30) rfl rfl
def wlX1_cross_3 : List Nat := [4, 96, 184, 0, 34, 181, 0, 15, 42, 180, 0, 15, 154, 0, 9, 42, 21, 4, 181, 0, 23, 132, 4, 1, 167, 255, 157, 177]
theorem whX1_cross_3 : WLy cX1_cross 99 wlX1_cross_3 := by decide +kernel
theorem dX1_cross_99 : decode cX1_cross 99 = .ok (.iconst 1, 1) := zD4 whX1_cross_3 (p := 0) rfl
theorem dX1_cross_100 : decode cX1_cross 100 = .ok (.iadd, 1) := zD96 whX1_cross_3 (p := 1) rfl
theorem dX1_cross_101 : decode cX1_cross 101 = .ok (.invokestatic 34, 3) := zD184 whX1_cross_3 (p := 2) rfl rfl
theorem dX1_cross_104 : decode cX1_cross 104 = .ok (.putfield 15, 3) := zD181 whX1_cross_3 (p := 5) rfl rfl
theorem dX1_cross_107 : decode cX1_cross 107 = .ok (.aload_n 0, 1) := zD42 whX1_cross_3 (p := 8) rfl
theorem dX1_cross_108 : decode cX1_cross 108 = .ok (.getfield 15, 3) := zD180 whX1_cross_3 (p := 9) rfl rfl
theorem dX1_cross_111 : decode cX1_cross 111 = .ok (.ifCond .ne 9, 3) := zD154p whX1_cross_3 (p := 12) (v := 9) rfl rfl rfl
theorem dX1_cross_114 : decode cX1_cross 114 = .ok (.aload_n 0, 1) := zD42 whX1_cross_3 (p := 15) rfl
theorem dX1_cross_115 : decode cX1_cross 115 = .ok (.iload 4, 2) := zD21 whX1_cross_3 (p := 16) rfl
theorem dX1_cross_117 : decode cX1_cross 117 = .ok (.putfield 23, 3) := zD181 whX1_cross_3 (p := 18) rfl rfl
theorem dX1_cross_120 : decode cX1_cross 120 = .ok (.iinc 4 1, 3) := zD132p whX1_cross_3 (p := 21) (v := 1) rfl rfl rfl
theorem dX1_cross_123 : decode cX1_cross 123 = .ok (.goto (-99), 3) := zD167n whX1_cross_3 (p := 24) (v := 99) rfl rfl rfl
theorem dX1_cross_126 : decode cX1_cross 126 = .ok (.return_, 1) := zD177 whX1_cross_3 (p := 27) rfl
def wlX2_init_0 : List Nat := [42, 183, 0, 1, 42, 16, 8, 188, 10, 181, 0, 9, 42, 16, 8, 188, 10, 181, 0, 13, 42, 16, 8, 188, 10, 181, 0, 16, 42, 16, 8]
theorem whX2_init_0 : WLy cX2_init 0 wlX2_init_0 := by decide +kernel
theorem dX2_init_0 : decode cX2_init 0 = .ok (.aload_n 0, 1) := zD42 whX2_init_0 (p := 0) rfl
theorem dX2_init_1 : decode cX2_init 1 = .ok (.invokespecial 1, 3) := zD183 whX2_init_0 (p := 1) rfl rfl
theorem dX2_init_4 : decode cX2_init 4 = .ok (.aload_n 0, 1) := zD42 whX2_init_0 (p := 4) rfl
theorem dX2_init_5 : decode cX2_init 5 = .ok (.bipush 8, 2) := zD16p whX2_init_0 (p := 5) (v := 8) rfl rfl rfl
theorem dX2_init_9 : decode cX2_init 9 = .ok (.putfield 9, 3) := zD181 whX2_init_0 (p := 9) rfl rfl
theorem dX2_init_12 : decode cX2_init 12 = .ok (.aload_n 0, 1) := zD42 whX2_init_0 (p := 12) rfl
theorem dX2_init_13 : decode cX2_init 13 = .ok (.bipush 8, 2) := zD16p whX2_init_0 (p := 13) (v := 8) rfl rfl rfl
theorem dX2_init_17 : decode cX2_init 17 = .ok (.putfield 13, 3) := zD181 whX2_init_0 (p := 17) rfl rfl
theorem dX2_init_20 : decode cX2_init 20 = .ok (.aload_n 0, 1) := zD42 whX2_init_0 (p := 20) rfl
theorem dX2_init_21 : decode cX2_init 21 = .ok (.bipush 8, 2) := zD16p whX2_init_0 (p := 21) (v := 8) rfl rfl rfl
theorem dX2_init_25 : decode cX2_init 25 = .ok (.putfield 16, 3) := zD181 whX2_init_0 (p := 25) rfl rfl
theorem dX2_init_28 : decode cX2_init 28 = .ok (.aload_n 0, 1) := zD42 whX2_init_0 (p := 28) rfl
theorem dX2_init_29 : decode cX2_init 29 = .ok (.bipush 8, 2) := zD16p whX2_init_0 (p := 29) (v := 8) rfl rfl rfl
def wlX2_init_1 : List Nat := [181, 0, 19, 177]
theorem whX2_init_1 : WLy cX2_init 33 wlX2_init_1 := by decide +kernel
theorem dX2_init_33 : decode cX2_init 33 = .ok (.putfield 19, 3) := zD181 whX2_init_1 (p := 0) rfl rfl
theorem dX2_init_36 : decode cX2_init 36 = .ok (.return_, 1) := zD177 whX2_init_1 (p := 3) rfl
def wlX2_add_0 : List Nat := [42, 180, 0, 22, 155, 0, 12, 42, 180, 0, 22, 16, 8, 161, 0, 5, 3, 172, 42, 180, 0, 9, 42, 180, 0, 22, 27, 79, 42, 180, 0, 13]
theorem whX2_add_0 : WLy cX2_add 0 wlX2_add_0 := by decide +kernel
theorem dX2_add_0 : decode cX2_add 0 = .ok (.aload_n 0, 1) := zD42 whX2_add_0 (p := 0) rfl
theorem dX2_add_1 : decode cX2_add 1 = .ok (.getfield 22, 3) := zD180 whX2_add_0 (p := 1) rfl rfl
theorem dX2_add_4 : decode cX2_add 4 = .ok (.ifCond .lt 12, 3) := zD155p whX2_add_0 (p := 4) (v := 12) rfl rfl rfl
theorem dX2_add_7 : decode cX2_add 7 = .ok (.aload_n 0, 1) := zD42 whX2_add_0 (p := 7) rfl
theorem dX2_add_8 : decode cX2_add 8 = .ok (.getfield 22, 3) := zD180 whX2_add_0 (p := 8) rfl rfl
theorem dX2_add_11 : decode cX2_add 11 = .ok (.bipush 8, 2) := zD16p whX2_add_0 (p := 11) (v := 8) rfl rfl rfl
theorem dX2_add_13 : decode cX2_add 13 = .ok (.if_icmp .lt 5, 3) := zD161p whX2_add_0 (p := 13) (v := 5) rfl rfl rfl
theorem dX2_add_16 : decode cX2_add 16 = .ok (.iconst 0, 1) := zD3 whX2_add_0 (p := 16) rfl
theorem dX2_add_17 : decode cX2_add 17 = .ok (.ireturn, 1) := zD172 whX2_add_0 (p := 17) rfl
theorem dX2_add_18 : decode cX2_add 18 = .ok (.aload_n 0, 1) := zD42 whX2_add_0 (p := 18) rfl
theorem dX2_add_19 : decode cX2_add 19 = .ok (.getfield 9, 3) := zD180 whX2_add_0 (p := 19) rfl rfl
theorem dX2_add_22 : decode cX2_add 22 = .ok (.aload_n 0, 1) := zD42 whX2_add_0 (p := 22) rfl
theorem dX2_add_23 : decode cX2_add 23 = .ok (.getfield 22, 3) := zD180 whX2_add_0 (p := 23) rfl rfl
theorem dX2_add_26 : decode cX2_add 26 = .ok (.iload_n 1, 1) := zD27 whX2_add_0 (p := 26) rfl
theorem dX2_add_27 : decode cX2_add 27 = .ok (.iastore, 1) := zD79 whX2_add_0 (p := 27) rfl
theorem dX2_add_28 : decode cX2_add 28 = .ok (.aload_n 0, 1) := zD42 whX2_add_0 (p := 28) rfl
theorem dX2_add_29 : decode cX2_add 29 = .ok (.getfield 13, 3) := zD180 whX2_add_0 (p := 29) rfl rfl
def wlX2_add_1 : List Nat := [42, 180, 0, 22, 28, 79, 42, 180, 0, 16, 42, 180, 0, 22, 29, 79, 42, 180, 0, 19, 42, 180, 0, 22, 21, 4, 79, 42, 89, 180, 0, 22]
theorem whX2_add_1 : WLy cX2_add 32 wlX2_add_1 := by decide +kernel
theorem dX2_add_32 : decode cX2_add 32 = .ok (.aload_n 0, 1) := zD42 whX2_add_1 (p := 0) rfl
theorem dX2_add_33 : decode cX2_add 33 = .ok (.getfield 22, 3) := zD180 whX2_add_1 (p := 1) rfl rfl
theorem dX2_add_36 : decode cX2_add 36 = .ok (.iload_n 2, 1) := zD28 whX2_add_1 (p := 4) rfl
theorem dX2_add_37 : decode cX2_add 37 = .ok (.iastore, 1) := zD79 whX2_add_1 (p := 5) rfl
theorem dX2_add_38 : decode cX2_add 38 = .ok (.aload_n 0, 1) := zD42 whX2_add_1 (p := 6) rfl
theorem dX2_add_39 : decode cX2_add 39 = .ok (.getfield 16, 3) := zD180 whX2_add_1 (p := 7) rfl rfl
theorem dX2_add_42 : decode cX2_add 42 = .ok (.aload_n 0, 1) := zD42 whX2_add_1 (p := 10) rfl
theorem dX2_add_43 : decode cX2_add 43 = .ok (.getfield 22, 3) := zD180 whX2_add_1 (p := 11) rfl rfl
theorem dX2_add_46 : decode cX2_add 46 = .ok (.iload_n 3, 1) := zD29 whX2_add_1 (p := 14) rfl
theorem dX2_add_47 : decode cX2_add 47 = .ok (.iastore, 1) := zD79 whX2_add_1 (p := 15) rfl
theorem dX2_add_48 : decode cX2_add 48 = .ok (.aload_n 0, 1) := zD42 whX2_add_1 (p := 16) rfl
theorem dX2_add_49 : decode cX2_add 49 = .ok (.getfield 19, 3) := zD180 whX2_add_1 (p := 17) rfl rfl
theorem dX2_add_52 : decode cX2_add 52 = .ok (.aload_n 0, 1) := zD42 whX2_add_1 (p := 20) rfl
theorem dX2_add_53 : decode cX2_add 53 = .ok (.getfield 22, 3) := zD180 whX2_add_1 (p := 21) rfl rfl
theorem dX2_add_56 : decode cX2_add 56 = .ok (.iload 4, 2) := zD21 whX2_add_1 (p := 24) rfl
theorem dX2_add_58 : decode cX2_add 58 = .ok (.iastore, 1) := zD79 whX2_add_1 (p := 26) rfl
theorem dX2_add_59 : decode cX2_add 59 = .ok (.aload_n 0, 1) := zD42 whX2_add_1 (p := 27) rfl
theorem dX2_add_60 : decode cX2_add 60 = .ok (.dup, 1) := zD89 whX2_add_1 (p := 28) rfl
theorem dX2_add_61 : decode cX2_add 61 = .ok (.getfield 22, 3) := zD180 whX2_add_1 (p := 29) rfl rfl
def wlX2_add_2 : List Nat := [4, 96, 181, 0, 22, 4, 172]
theorem whX2_add_2 : WLy cX2_add 64 wlX2_add_2 := by decide +kernel
theorem dX2_add_64 : decode cX2_add 64 = .ok (.iconst 1, 1) := zD4 whX2_add_2 (p := 0) rfl
theorem dX2_add_65 : decode cX2_add 65 = .ok (.iadd, 1) := zD96 whX2_add_2 (p := 1) rfl
theorem dX2_add_66 : decode cX2_add 66 = .ok (.putfield 22, 3) := zD181 whX2_add_2 (p := 2) rfl rfl
theorem dX2_add_69 : decode cX2_add 69 = .ok (.iconst 1, 1) := zD4 whX2_add_2 (p := 5) rfl
theorem dX2_add_70 : decode cX2_add 70 = .ok (.ireturn, 1) := zD172 whX2_add_2 (p := 6) rfl
def wlX2_isSo_0 : List Nat := [3, 61, 28, 42, 180, 0, 22, 162, 0, 42, 43, 42, 180, 0, 9, 28, 46, 42, 180, 0, 13, 28, 46, 42, 180, 0, 16, 28, 46, 182, 0, 26]
theorem whX2_isSo_0 : WLy cX2_isSo 0 wlX2_isSo_0 := by decide +kernel
theorem dX2_isSo_0 : decode cX2_isSo 0 = .ok (.iconst 0, 1) := zD3 whX2_isSo_0 (p := 0) rfl
theorem dX2_isSo_1 : decode cX2_isSo 1 = .ok (.istore_n 2, 1) := zD61 whX2_isSo_0 (p := 1) rfl
theorem dX2_isSo_2 : decode cX2_isSo 2 = .ok (.iload_n 2, 1) := zD28 whX2_isSo_0 (p := 2) rfl
theorem dX2_isSo_3 : decode cX2_isSo 3 = .ok (.aload_n 0, 1) := zD42 whX2_isSo_0 (p := 3) rfl
theorem dX2_isSo_4 : decode cX2_isSo 4 = .ok (.getfield 22, 3) := zD180 whX2_isSo_0 (p := 4) rfl rfl
theorem dX2_isSo_7 : decode cX2_isSo 7 = .ok (.if_icmp .ge 42, 3) := zD162p whX2_isSo_0 (p := 7) (v := 42) rfl rfl rfl
theorem dX2_isSo_10 : decode cX2_isSo 10 = .ok (.aload_n 1, 1) := zD43 whX2_isSo_0 (p := 10) rfl
theorem dX2_isSo_11 : decode cX2_isSo 11 = .ok (.aload_n 0, 1) := zD42 whX2_isSo_0 (p := 11) rfl
theorem dX2_isSo_12 : decode cX2_isSo 12 = .ok (.getfield 9, 3) := zD180 whX2_isSo_0 (p := 12) rfl rfl
theorem dX2_isSo_15 : decode cX2_isSo 15 = .ok (.iload_n 2, 1) := zD28 whX2_isSo_0 (p := 15) rfl
theorem dX2_isSo_16 : decode cX2_isSo 16 = .ok (.iaload, 1) := zD46 whX2_isSo_0 (p := 16) rfl
theorem dX2_isSo_17 : decode cX2_isSo 17 = .ok (.aload_n 0, 1) := zD42 whX2_isSo_0 (p := 17) rfl
theorem dX2_isSo_18 : decode cX2_isSo 18 = .ok (.getfield 13, 3) := zD180 whX2_isSo_0 (p := 18) rfl rfl
theorem dX2_isSo_21 : decode cX2_isSo 21 = .ok (.iload_n 2, 1) := zD28 whX2_isSo_0 (p := 21) rfl
theorem dX2_isSo_22 : decode cX2_isSo 22 = .ok (.iaload, 1) := zD46 whX2_isSo_0 (p := 22) rfl
theorem dX2_isSo_23 : decode cX2_isSo 23 = .ok (.aload_n 0, 1) := zD42 whX2_isSo_0 (p := 23) rfl
theorem dX2_isSo_24 : decode cX2_isSo 24 = .ok (.getfield 16, 3) := zD180 whX2_isSo_0 (p := 24) rfl rfl
theorem dX2_isSo_27 : decode cX2_isSo 27 = .ok (.iload_n 2, 1) := zD28 whX2_isSo_0 (p := 27) rfl
theorem dX2_isSo_28 : decode cX2_isSo 28 = .ok (.iaload, 1) := zD46 whX2_isSo_0 (p := 28) rfl
theorem dX2_isSo_29 : decode cX2_isSo 29 = .ok (.invokevirtual 26, 3) := zD182 whX2_isSo_0 (p := 29) rfl rfl
def wlX2_isSo_1 : List Nat := [42, 180, 0, 19, 28, 46, 159, 0, 5, 3, 172, 132, 2, 1, 167, 255, 212, 4, 172]
theorem whX2_isSo_1 : WLy cX2_isSo 32 wlX2_isSo_1 := by decide +kernel
theorem dX2_isSo_32 : decode cX2_isSo 32 = .ok (.aload_n 0, 1) := zD42 whX2_isSo_1 (p := 0) rfl
theorem dX2_isSo_33 : decode cX2_isSo 33 = .ok (.getfield 19, 3) := zD180 whX2_isSo_1 (p := 1) rfl rfl
theorem dX2_isSo_36 : decode cX2_isSo 36 = .ok (.iload_n 2, 1) := zD28 whX2_isSo_1 (p := 4) rfl
theorem dX2_isSo_37 : decode cX2_isSo 37 = .ok (.iaload, 1) := zD46 whX2_isSo_1 (p := 5) rfl
theorem dX2_isSo_38 : decode cX2_isSo 38 = .ok (.if_icmp .eq 5, 3) := zD159p whX2_isSo_1 (p := 6) (v := 5) rfl rfl rfl
theorem dX2_isSo_41 : decode cX2_isSo 41 = .ok (.iconst 0, 1) := zD3 whX2_isSo_1 (p := 9) rfl
theorem dX2_isSo_42 : decode cX2_isSo 42 = .ok (.ireturn, 1) := zD172 whX2_isSo_1 (p := 10) rfl
theorem dX2_isSo_43 : decode cX2_isSo 43 = .ok (.iinc 2 1, 3) := zD132p whX2_isSo_1 (p := 11) (v := 1) rfl rfl rfl
theorem dX2_isSo_46 : decode cX2_isSo 46 = .ok (.goto (-44), 3) := zD167n whX2_isSo_1 (p := 14) (v := 44) rfl rfl rfl
theorem dX2_isSo_49 : decode cX2_isSo 49 = .ok (.iconst 1, 1) := zD4 whX2_isSo_1 (p := 17) rfl
theorem dX2_isSo_50 : decode cX2_isSo 50 = .ok (.ireturn, 1) := zD172 whX2_isSo_1 (p := 18) rfl
def wlX3_init_0 : List Nat := [42, 183, 0, 1, 42, 16, 6, 188, 10, 181, 0, 9, 42, 16, 6, 188, 10, 181, 0, 13, 177]
theorem whX3_init_0 : WLy cX3_init 0 wlX3_init_0 := by decide +kernel
theorem dX3_init_0 : decode cX3_init 0 = .ok (.aload_n 0, 1) := zD42 whX3_init_0 (p := 0) rfl
theorem dX3_init_1 : decode cX3_init 1 = .ok (.invokespecial 1, 3) := zD183 whX3_init_0 (p := 1) rfl rfl
theorem dX3_init_4 : decode cX3_init 4 = .ok (.aload_n 0, 1) := zD42 whX3_init_0 (p := 4) rfl
theorem dX3_init_5 : decode cX3_init 5 = .ok (.bipush 6, 2) := zD16p whX3_init_0 (p := 5) (v := 6) rfl rfl rfl
theorem dX3_init_9 : decode cX3_init 9 = .ok (.putfield 9, 3) := zD181 whX3_init_0 (p := 9) rfl rfl
theorem dX3_init_12 : decode cX3_init 12 = .ok (.aload_n 0, 1) := zD42 whX3_init_0 (p := 12) rfl
theorem dX3_init_13 : decode cX3_init 13 = .ok (.bipush 6, 2) := zD16p whX3_init_0 (p := 13) (v := 6) rfl rfl rfl
theorem dX3_init_17 : decode cX3_init 17 = .ok (.putfield 13, 3) := zD181 whX3_init_0 (p := 17) rfl rfl
theorem dX3_init_20 : decode cX3_init 20 = .ok (.return_, 1) := zD177 whX3_init_0 (p := 20) rfl
def wlX3_add_0 : List Nat := [42, 180, 0, 16, 155, 0, 12, 42, 180, 0, 16, 16, 6, 161, 0, 5, 3, 172, 42, 180, 0, 9, 42, 180, 0, 16, 27, 79, 42, 180, 0, 13]
theorem whX3_add_0 : WLy cX3_add 0 wlX3_add_0 := by decide +kernel
theorem dX3_add_0 : decode cX3_add 0 = .ok (.aload_n 0, 1) := zD42 whX3_add_0 (p := 0) rfl
theorem dX3_add_1 : decode cX3_add 1 = .ok (.getfield 16, 3) := zD180 whX3_add_0 (p := 1) rfl rfl
theorem dX3_add_4 : decode cX3_add 4 = .ok (.ifCond .lt 12, 3) := zD155p whX3_add_0 (p := 4) (v := 12) rfl rfl rfl
theorem dX3_add_7 : decode cX3_add 7 = .ok (.aload_n 0, 1) := zD42 whX3_add_0 (p := 7) rfl
theorem dX3_add_8 : decode cX3_add 8 = .ok (.getfield 16, 3) := zD180 whX3_add_0 (p := 8) rfl rfl
theorem dX3_add_11 : decode cX3_add 11 = .ok (.bipush 6, 2) := zD16p whX3_add_0 (p := 11) (v := 6) rfl rfl rfl
theorem dX3_add_13 : decode cX3_add 13 = .ok (.if_icmp .lt 5, 3) := zD161p whX3_add_0 (p := 13) (v := 5) rfl rfl rfl
theorem dX3_add_16 : decode cX3_add 16 = .ok (.iconst 0, 1) := zD3 whX3_add_0 (p := 16) rfl
theorem dX3_add_17 : decode cX3_add 17 = .ok (.ireturn, 1) := zD172 whX3_add_0 (p := 17) rfl
theorem dX3_add_18 : decode cX3_add 18 = .ok (.aload_n 0, 1) := zD42 whX3_add_0 (p := 18) rfl
theorem dX3_add_19 : decode cX3_add 19 = .ok (.getfield 9, 3) := zD180 whX3_add_0 (p := 19) rfl rfl
theorem dX3_add_22 : decode cX3_add 22 = .ok (.aload_n 0, 1) := zD42 whX3_add_0 (p := 22) rfl
theorem dX3_add_23 : decode cX3_add 23 = .ok (.getfield 16, 3) := zD180 whX3_add_0 (p := 23) rfl rfl
theorem dX3_add_26 : decode cX3_add 26 = .ok (.iload_n 1, 1) := zD27 whX3_add_0 (p := 26) rfl
theorem dX3_add_27 : decode cX3_add 27 = .ok (.iastore, 1) := zD79 whX3_add_0 (p := 27) rfl
theorem dX3_add_28 : decode cX3_add 28 = .ok (.aload_n 0, 1) := zD42 whX3_add_0 (p := 28) rfl
theorem dX3_add_29 : decode cX3_add 29 = .ok (.getfield 13, 3) := zD180 whX3_add_0 (p := 29) rfl rfl
def wlX3_add_1 : List Nat := [42, 180, 0, 16, 28, 79, 42, 89, 180, 0, 16, 4, 96, 181, 0, 16, 4, 172]
theorem whX3_add_1 : WLy cX3_add 32 wlX3_add_1 := by decide +kernel
theorem dX3_add_32 : decode cX3_add 32 = .ok (.aload_n 0, 1) := zD42 whX3_add_1 (p := 0) rfl
theorem dX3_add_33 : decode cX3_add 33 = .ok (.getfield 16, 3) := zD180 whX3_add_1 (p := 1) rfl rfl
theorem dX3_add_36 : decode cX3_add 36 = .ok (.iload_n 2, 1) := zD28 whX3_add_1 (p := 4) rfl
theorem dX3_add_37 : decode cX3_add 37 = .ok (.iastore, 1) := zD79 whX3_add_1 (p := 5) rfl
theorem dX3_add_38 : decode cX3_add 38 = .ok (.aload_n 0, 1) := zD42 whX3_add_1 (p := 6) rfl
theorem dX3_add_39 : decode cX3_add 39 = .ok (.dup, 1) := zD89 whX3_add_1 (p := 7) rfl
theorem dX3_add_40 : decode cX3_add 40 = .ok (.getfield 16, 3) := zD180 whX3_add_1 (p := 8) rfl rfl
theorem dX3_add_43 : decode cX3_add 43 = .ok (.iconst 1, 1) := zD4 whX3_add_1 (p := 11) rfl
theorem dX3_add_44 : decode cX3_add 44 = .ok (.iadd, 1) := zD96 whX3_add_1 (p := 12) rfl
theorem dX3_add_45 : decode cX3_add 45 = .ok (.putfield 16, 3) := zD181 whX3_add_1 (p := 13) rfl rfl
theorem dX3_add_48 : decode cX3_add 48 = .ok (.iconst 1, 1) := zD4 whX3_add_1 (p := 16) rfl
theorem dX3_add_49 : decode cX3_add 49 = .ok (.ireturn, 1) := zD172 whX3_add_1 (p := 17) rfl
def wlX3_allows_0 : List Nat := [3, 62, 29, 42, 180, 0, 16, 162, 0, 31, 42, 180, 0, 9, 29, 46, 27, 160, 0, 15, 42, 180, 0, 13, 29, 46, 28, 159, 0, 5, 3, 172]
theorem whX3_allows_0 : WLy cX3_allows 0 wlX3_allows_0 := by decide +kernel
theorem dX3_allows_0 : decode cX3_allows 0 = .ok (.iconst 0, 1) := zD3 whX3_allows_0 (p := 0) rfl
theorem dX3_allows_1 : decode cX3_allows 1 = .ok (.istore_n 3, 1) := zD62 whX3_allows_0 (p := 1) rfl
theorem dX3_allows_2 : decode cX3_allows 2 = .ok (.iload_n 3, 1) := zD29 whX3_allows_0 (p := 2) rfl
theorem dX3_allows_3 : decode cX3_allows 3 = .ok (.aload_n 0, 1) := zD42 whX3_allows_0 (p := 3) rfl
theorem dX3_allows_4 : decode cX3_allows 4 = .ok (.getfield 16, 3) := zD180 whX3_allows_0 (p := 4) rfl rfl
theorem dX3_allows_7 : decode cX3_allows 7 = .ok (.if_icmp .ge 31, 3) := zD162p whX3_allows_0 (p := 7) (v := 31) rfl rfl rfl
theorem dX3_allows_10 : decode cX3_allows 10 = .ok (.aload_n 0, 1) := zD42 whX3_allows_0 (p := 10) rfl
theorem dX3_allows_11 : decode cX3_allows 11 = .ok (.getfield 9, 3) := zD180 whX3_allows_0 (p := 11) rfl rfl
theorem dX3_allows_14 : decode cX3_allows 14 = .ok (.iload_n 3, 1) := zD29 whX3_allows_0 (p := 14) rfl
theorem dX3_allows_15 : decode cX3_allows 15 = .ok (.iaload, 1) := zD46 whX3_allows_0 (p := 15) rfl
theorem dX3_allows_16 : decode cX3_allows 16 = .ok (.iload_n 1, 1) := zD27 whX3_allows_0 (p := 16) rfl
theorem dX3_allows_17 : decode cX3_allows 17 = .ok (.if_icmp .ne 15, 3) := zD160p whX3_allows_0 (p := 17) (v := 15) rfl rfl rfl
theorem dX3_allows_20 : decode cX3_allows 20 = .ok (.aload_n 0, 1) := zD42 whX3_allows_0 (p := 20) rfl
theorem dX3_allows_21 : decode cX3_allows 21 = .ok (.getfield 13, 3) := zD180 whX3_allows_0 (p := 21) rfl rfl
theorem dX3_allows_24 : decode cX3_allows 24 = .ok (.iload_n 3, 1) := zD29 whX3_allows_0 (p := 24) rfl
theorem dX3_allows_25 : decode cX3_allows 25 = .ok (.iaload, 1) := zD46 whX3_allows_0 (p := 25) rfl
theorem dX3_allows_26 : decode cX3_allows 26 = .ok (.iload_n 2, 1) := zD28 whX3_allows_0 (p := 26) rfl
theorem dX3_allows_27 : decode cX3_allows 27 = .ok (.if_icmp .eq 5, 3) := zD159p whX3_allows_0 (p := 27) (v := 5) rfl rfl rfl
theorem dX3_allows_30 : decode cX3_allows 30 = .ok (.iconst 0, 1) := zD3 whX3_allows_0 (p := 30) rfl
theorem dX3_allows_31 : decode cX3_allows 31 = .ok (.ireturn, 1) := zD172 whX3_allows_0 (p := 31) rfl
def wlX3_allows_1 : List Nat := [132, 3, 1, 167, 255, 223, 4, 172]
theorem whX3_allows_1 : WLy cX3_allows 32 wlX3_allows_1 := by decide +kernel
theorem dX3_allows_32 : decode cX3_allows 32 = .ok (.iinc 3 1, 3) := zD132p whX3_allows_1 (p := 0) (v := 1) rfl rfl rfl
theorem dX3_allows_35 : decode cX3_allows 35 = .ok (.goto (-33), 3) := zD167n whX3_allows_1 (p := 3) (v := 33) rfl rfl rfl
theorem dX3_allows_38 : decode cX3_allows 38 = .ok (.iconst 1, 1) := zD4 whX3_allows_1 (p := 6) rfl
theorem dX3_allows_39 : decode cX3_allows 39 = .ok (.ireturn, 1) := zD172 whX3_allows_1 (p := 7) rfl
def wlX4_init_0 : List Nat := [42, 183, 0, 3, 42, 10, 181, 0, 9, 42, 16, 10, 188, 11, 181, 0, 15, 42, 16, 10, 188, 11, 181, 0, 19, 177]
theorem whX4_init_0 : WLy cX4_init 0 wlX4_init_0 := by decide +kernel
theorem dX4_init_0 : decode cX4_init 0 = .ok (.aload_n 0, 1) := zD42 whX4_init_0 (p := 0) rfl
theorem dX4_init_1 : decode cX4_init 1 = .ok (.invokespecial 3, 3) := zD183 whX4_init_0 (p := 1) rfl rfl
theorem dX4_init_4 : decode cX4_init 4 = .ok (.aload_n 0, 1) := zD42 whX4_init_0 (p := 4) rfl
theorem dX4_init_5 : decode cX4_init 5 = .ok (.lconst 1, 1) := zD10 whX4_init_0 (p := 5) rfl
theorem dX4_init_6 : decode cX4_init 6 = .ok (.putfield 9, 3) := zD181 whX4_init_0 (p := 6) rfl rfl
theorem dX4_init_9 : decode cX4_init 9 = .ok (.aload_n 0, 1) := zD42 whX4_init_0 (p := 9) rfl
theorem dX4_init_10 : decode cX4_init 10 = .ok (.bipush 10, 2) := zD16p whX4_init_0 (p := 10) (v := 10) rfl rfl rfl
theorem dX4_init_14 : decode cX4_init 14 = .ok (.putfield 15, 3) := zD181 whX4_init_0 (p := 14) rfl rfl
theorem dX4_init_17 : decode cX4_init 17 = .ok (.aload_n 0, 1) := zD42 whX4_init_0 (p := 17) rfl
theorem dX4_init_18 : decode cX4_init 18 = .ok (.bipush 10, 2) := zD16p whX4_init_0 (p := 18) (v := 10) rfl rfl rfl
theorem dX4_init_22 : decode cX4_init 22 = .ok (.putfield 19, 3) := zD181 whX4_init_0 (p := 22) rfl rfl
theorem dX4_init_25 : decode cX4_init 25 = .ok (.return_, 1) := zD177 whX4_init_0 (p := 25) rfl
def wlX4_waking_0 : List Nat := [42, 43, 180, 0, 22, 182, 0, 28, 3, 54, 4, 21, 4, 28, 162, 0, 29, 21, 4, 29, 160, 0, 7, 42, 182, 0, 32, 42, 43, 21, 4, 182, 0, 35]
theorem whX4_waking_0 : WLy cX4_waking 0 wlX4_waking_0 := by decide +kernel
theorem dX4_waking_0 : decode cX4_waking 0 = .ok (.aload_n 0, 1) := zD42 whX4_waking_0 (p := 0) rfl
theorem dX4_waking_1 : decode cX4_waking 1 = .ok (.aload_n 1, 1) := zD43 whX4_waking_0 (p := 1) rfl
theorem dX4_waking_2 : decode cX4_waking 2 = .ok (.getfield 22, 3) := zD180 whX4_waking_0 (p := 2) rfl rfl
theorem dX4_waking_5 : decode cX4_waking 5 = .ok (.invokevirtual 28, 3) := zD182 whX4_waking_0 (p := 5) rfl rfl
theorem dX4_waking_8 : decode cX4_waking 8 = .ok (.iconst 0, 1) := zD3 whX4_waking_0 (p := 8) rfl
theorem dX4_waking_9 : decode cX4_waking 9 = .ok (.istore 4, 2) := zD54 whX4_waking_0 (p := 9) rfl
theorem dX4_waking_11 : decode cX4_waking 11 = .ok (.iload 4, 2) := zD21 whX4_waking_0 (p := 11) rfl
theorem dX4_waking_13 : decode cX4_waking 13 = .ok (.iload_n 2, 1) := zD28 whX4_waking_0 (p := 13) rfl
theorem dX4_waking_14 : decode cX4_waking 14 = .ok (.if_icmp .ge 29, 3) := zD162p whX4_waking_0 (p := 14) (v := 29) rfl rfl rfl
theorem dX4_waking_17 : decode cX4_waking 17 = .ok (.iload 4, 2) := zD21 whX4_waking_0 (p := 17) rfl
theorem dX4_waking_19 : decode cX4_waking 19 = .ok (.iload_n 3, 1) := zD29 whX4_waking_0 (p := 19) rfl
theorem dX4_waking_20 : decode cX4_waking 20 = .ok (.if_icmp .ne 7, 3) := zD160p whX4_waking_0 (p := 20) (v := 7) rfl rfl rfl
theorem dX4_waking_23 : decode cX4_waking 23 = .ok (.aload_n 0, 1) := zD42 whX4_waking_0 (p := 23) rfl
theorem dX4_waking_24 : decode cX4_waking 24 = .ok (.invokevirtual 32, 3) := zD182 whX4_waking_0 (p := 24) rfl rfl
theorem dX4_waking_27 : decode cX4_waking 27 = .ok (.aload_n 0, 1) := zD42 whX4_waking_0 (p := 27) rfl
theorem dX4_waking_28 : decode cX4_waking 28 = .ok (.aload_n 1, 1) := zD43 whX4_waking_0 (p := 28) rfl
theorem dX4_waking_29 : decode cX4_waking 29 = .ok (.iload 4, 2) := zD21 whX4_waking_0 (p := 29) rfl
theorem dX4_waking_31 : decode cX4_waking 31 = .ok (.invokevirtual 35, 3) := zD182 whX4_waking_0 (p := 31) rfl rfl
def wlX4_waking_1 : List Nat := [182, 0, 39, 132, 4, 1, 167, 255, 227, 42, 180, 0, 15, 3, 47, 173]
theorem whX4_waking_1 : WLy cX4_waking 34 wlX4_waking_1 := by decide +kernel
theorem dX4_waking_34 : decode cX4_waking 34 = .ok (.invokevirtual 39, 3) := zD182 whX4_waking_1 (p := 0) rfl rfl
theorem dX4_waking_37 : decode cX4_waking 37 = .ok (.iinc 4 1, 3) := zD132p whX4_waking_1 (p := 3) (v := 1) rfl rfl rfl
theorem dX4_waking_40 : decode cX4_waking 40 = .ok (.goto (-29), 3) := zD167n whX4_waking_1 (p := 6) (v := 29) rfl rfl rfl
theorem dX4_waking_43 : decode cX4_waking 43 = .ok (.aload_n 0, 1) := zD42 whX4_waking_1 (p := 9) rfl
theorem dX4_waking_44 : decode cX4_waking 44 = .ok (.getfield 15, 3) := zD180 whX4_waking_1 (p := 10) rfl rfl
theorem dX4_waking_47 : decode cX4_waking 47 = .ok (.iconst 0, 1) := zD3 whX4_waking_1 (p := 13) rfl
theorem dX4_waking_48 : decode cX4_waking 48 = .ok (.laload, 1) := zD47 whX4_waking_1 (p := 14) rfl
theorem dX4_waking_49 : decode cX4_waking 49 = .ok (.lreturn, 1) := zD173 whX4_waking_1 (p := 15) rfl
def wlX4_begin_0 : List Nat := [42, 10, 181, 0, 9, 3, 61, 28, 16, 10, 162, 0, 25, 42, 180, 0, 15, 28, 28, 27, 160, 0, 7, 10, 167, 0, 4, 9, 80, 132, 2, 1]
theorem whX4_begin_0 : WLy cX4_begin 0 wlX4_begin_0 := by decide +kernel
theorem dX4_begin_0 : decode cX4_begin 0 = .ok (.aload_n 0, 1) := zD42 whX4_begin_0 (p := 0) rfl
theorem dX4_begin_1 : decode cX4_begin 1 = .ok (.lconst 1, 1) := zD10 whX4_begin_0 (p := 1) rfl
theorem dX4_begin_2 : decode cX4_begin 2 = .ok (.putfield 9, 3) := zD181 whX4_begin_0 (p := 2) rfl rfl
theorem dX4_begin_5 : decode cX4_begin 5 = .ok (.iconst 0, 1) := zD3 whX4_begin_0 (p := 5) rfl
theorem dX4_begin_6 : decode cX4_begin 6 = .ok (.istore_n 2, 1) := zD61 whX4_begin_0 (p := 6) rfl
theorem dX4_begin_7 : decode cX4_begin 7 = .ok (.iload_n 2, 1) := zD28 whX4_begin_0 (p := 7) rfl
theorem dX4_begin_8 : decode cX4_begin 8 = .ok (.bipush 10, 2) := zD16p whX4_begin_0 (p := 8) (v := 10) rfl rfl rfl
theorem dX4_begin_10 : decode cX4_begin 10 = .ok (.if_icmp .ge 25, 3) := zD162p whX4_begin_0 (p := 10) (v := 25) rfl rfl rfl
theorem dX4_begin_13 : decode cX4_begin 13 = .ok (.aload_n 0, 1) := zD42 whX4_begin_0 (p := 13) rfl
theorem dX4_begin_14 : decode cX4_begin 14 = .ok (.getfield 15, 3) := zD180 whX4_begin_0 (p := 14) rfl rfl
theorem dX4_begin_17 : decode cX4_begin 17 = .ok (.iload_n 2, 1) := zD28 whX4_begin_0 (p := 17) rfl
theorem dX4_begin_18 : decode cX4_begin 18 = .ok (.iload_n 2, 1) := zD28 whX4_begin_0 (p := 18) rfl
theorem dX4_begin_19 : decode cX4_begin 19 = .ok (.iload_n 1, 1) := zD27 whX4_begin_0 (p := 19) rfl
theorem dX4_begin_20 : decode cX4_begin 20 = .ok (.if_icmp .ne 7, 3) := zD160p whX4_begin_0 (p := 20) (v := 7) rfl rfl rfl
theorem dX4_begin_23 : decode cX4_begin 23 = .ok (.lconst 1, 1) := zD10 whX4_begin_0 (p := 23) rfl
theorem dX4_begin_24 : decode cX4_begin 24 = .ok (.goto 4, 3) := zD167p whX4_begin_0 (p := 24) (v := 4) rfl rfl rfl
theorem dX4_begin_27 : decode cX4_begin 27 = .ok (.lconst 0, 1) := zD9 whX4_begin_0 (p := 27) rfl
theorem dX4_begin_28 : decode cX4_begin 28 = .ok (.lastore, 1) := zD80 whX4_begin_0 (p := 28) rfl
theorem dX4_begin_29 : decode cX4_begin 29 = .ok (.iinc 2 1, 3) := zD132p whX4_begin_0 (p := 29) (v := 1) rfl rfl rfl
def wlX4_begin_1 : List Nat := [167, 255, 231, 177]
theorem whX4_begin_1 : WLy cX4_begin 32 wlX4_begin_1 := by decide +kernel
theorem dX4_begin_32 : decode cX4_begin 32 = .ok (.goto (-25), 3) := zD167n whX4_begin_1 (p := 0) (v := 25) rfl rfl rfl
theorem dX4_begin_35 : decode cX4_begin 35 = .ok (.return_, 1) := zD177 whX4_begin_1 (p := 3) rfl
def wlX4_takeAhead_0 : List Nat := [3, 60, 27, 16, 10, 162, 0, 28, 42, 180, 0, 19, 27, 42, 180, 0, 15, 27, 47, 80, 42, 180, 0, 15, 27, 9, 80, 132, 1, 1, 167, 255, 228]
theorem whX4_takeAhead_0 : WLy cX4_takeAhead 0 wlX4_takeAhead_0 := by decide +kernel
theorem dX4_takeAhead_0 : decode cX4_takeAhead 0 = .ok (.iconst 0, 1) := zD3 whX4_takeAhead_0 (p := 0) rfl
theorem dX4_takeAhead_1 : decode cX4_takeAhead 1 = .ok (.istore_n 1, 1) := zD60 whX4_takeAhead_0 (p := 1) rfl
theorem dX4_takeAhead_2 : decode cX4_takeAhead 2 = .ok (.iload_n 1, 1) := zD27 whX4_takeAhead_0 (p := 2) rfl
theorem dX4_takeAhead_3 : decode cX4_takeAhead 3 = .ok (.bipush 10, 2) := zD16p whX4_takeAhead_0 (p := 3) (v := 10) rfl rfl rfl
theorem dX4_takeAhead_5 : decode cX4_takeAhead 5 = .ok (.if_icmp .ge 28, 3) := zD162p whX4_takeAhead_0 (p := 5) (v := 28) rfl rfl rfl
theorem dX4_takeAhead_8 : decode cX4_takeAhead 8 = .ok (.aload_n 0, 1) := zD42 whX4_takeAhead_0 (p := 8) rfl
theorem dX4_takeAhead_9 : decode cX4_takeAhead 9 = .ok (.getfield 19, 3) := zD180 whX4_takeAhead_0 (p := 9) rfl rfl
theorem dX4_takeAhead_12 : decode cX4_takeAhead 12 = .ok (.iload_n 1, 1) := zD27 whX4_takeAhead_0 (p := 12) rfl
theorem dX4_takeAhead_13 : decode cX4_takeAhead 13 = .ok (.aload_n 0, 1) := zD42 whX4_takeAhead_0 (p := 13) rfl
theorem dX4_takeAhead_14 : decode cX4_takeAhead 14 = .ok (.getfield 15, 3) := zD180 whX4_takeAhead_0 (p := 14) rfl rfl
theorem dX4_takeAhead_17 : decode cX4_takeAhead 17 = .ok (.iload_n 1, 1) := zD27 whX4_takeAhead_0 (p := 17) rfl
theorem dX4_takeAhead_18 : decode cX4_takeAhead 18 = .ok (.laload, 1) := zD47 whX4_takeAhead_0 (p := 18) rfl
theorem dX4_takeAhead_19 : decode cX4_takeAhead 19 = .ok (.lastore, 1) := zD80 whX4_takeAhead_0 (p := 19) rfl
theorem dX4_takeAhead_20 : decode cX4_takeAhead 20 = .ok (.aload_n 0, 1) := zD42 whX4_takeAhead_0 (p := 20) rfl
theorem dX4_takeAhead_21 : decode cX4_takeAhead 21 = .ok (.getfield 15, 3) := zD180 whX4_takeAhead_0 (p := 21) rfl rfl
theorem dX4_takeAhead_24 : decode cX4_takeAhead 24 = .ok (.iload_n 1, 1) := zD27 whX4_takeAhead_0 (p := 24) rfl
theorem dX4_takeAhead_25 : decode cX4_takeAhead 25 = .ok (.lconst 0, 1) := zD9 whX4_takeAhead_0 (p := 25) rfl
theorem dX4_takeAhead_26 : decode cX4_takeAhead 26 = .ok (.lastore, 1) := zD80 whX4_takeAhead_0 (p := 26) rfl
theorem dX4_takeAhead_27 : decode cX4_takeAhead 27 = .ok (.iinc 1 1, 3) := zD132p whX4_takeAhead_0 (p := 27) (v := 1) rfl rfl rfl
theorem dX4_takeAhead_30 : decode cX4_takeAhead 30 = .ok (.goto (-28), 3) := zD167n whX4_takeAhead_0 (p := 30) (v := 28) rfl rfl rfl
def wlX4_takeAhead_1 : List Nat := [177]
theorem whX4_takeAhead_1 : WLy cX4_takeAhead 33 wlX4_takeAhead_1 := by decide +kernel
theorem dX4_takeAhead_33 : decode cX4_takeAhead 33 = .ok (.return_, 1) := zD177 whX4_takeAhead_1 (p := 0) rfl
def wlX4_pass_0 : List Nat := [42, 182, 0, 42, 42, 89, 180, 0, 9, 20, 0, 45, 105, 181, 0, 9, 42, 180, 0, 15, 3, 42, 180, 0, 19, 3, 47, 20, 0, 45, 105, 80]
theorem whX4_pass_0 : WLy cX4_pass 0 wlX4_pass_0 := by decide +kernel
theorem dX4_pass_0 : decode cX4_pass 0 = .ok (.aload_n 0, 1) := zD42 whX4_pass_0 (p := 0) rfl
theorem dX4_pass_1 : decode cX4_pass 1 = .ok (.invokevirtual 42, 3) := zD182 whX4_pass_0 (p := 1) rfl rfl
theorem dX4_pass_4 : decode cX4_pass 4 = .ok (.aload_n 0, 1) := zD42 whX4_pass_0 (p := 4) rfl
theorem dX4_pass_5 : decode cX4_pass 5 = .ok (.dup, 1) := zD89 whX4_pass_0 (p := 5) rfl
theorem dX4_pass_6 : decode cX4_pass 6 = .ok (.getfield 9, 3) := zD180 whX4_pass_0 (p := 6) rfl rfl
theorem dX4_pass_9 : decode cX4_pass 9 = .ok (.ldc2_w 45, 3) := zD20 whX4_pass_0 (p := 9) rfl rfl
theorem dX4_pass_12 : decode cX4_pass 12 = .ok (.lmul, 1) := zD105 whX4_pass_0 (p := 12) rfl
theorem dX4_pass_13 : decode cX4_pass 13 = .ok (.putfield 9, 3) := zD181 whX4_pass_0 (p := 13) rfl rfl
theorem dX4_pass_16 : decode cX4_pass 16 = .ok (.aload_n 0, 1) := zD42 whX4_pass_0 (p := 16) rfl
theorem dX4_pass_17 : decode cX4_pass 17 = .ok (.getfield 15, 3) := zD180 whX4_pass_0 (p := 17) rfl rfl
theorem dX4_pass_20 : decode cX4_pass 20 = .ok (.iconst 0, 1) := zD3 whX4_pass_0 (p := 20) rfl
theorem dX4_pass_21 : decode cX4_pass 21 = .ok (.aload_n 0, 1) := zD42 whX4_pass_0 (p := 21) rfl
theorem dX4_pass_22 : decode cX4_pass 22 = .ok (.getfield 19, 3) := zD180 whX4_pass_0 (p := 22) rfl rfl
theorem dX4_pass_25 : decode cX4_pass 25 = .ok (.iconst 0, 1) := zD3 whX4_pass_0 (p := 25) rfl
theorem dX4_pass_26 : decode cX4_pass 26 = .ok (.laload, 1) := zD47 whX4_pass_0 (p := 26) rfl
theorem dX4_pass_27 : decode cX4_pass 27 = .ok (.ldc2_w 45, 3) := zD20 whX4_pass_0 (p := 27) rfl rfl
theorem dX4_pass_30 : decode cX4_pass 30 = .ok (.lmul, 1) := zD105 whX4_pass_0 (p := 30) rfl
theorem dX4_pass_31 : decode cX4_pass 31 = .ok (.lastore, 1) := zD80 whX4_pass_0 (p := 31) rfl
def wlX4_pass_1 : List Nat := [4, 61, 28, 16, 10, 162, 0, 57, 42, 180, 0, 15, 28, 4, 100, 92, 47, 42, 180, 0, 19, 28, 47, 27, 133, 105, 97, 80, 42, 180, 0, 15]
theorem whX4_pass_1 : WLy cX4_pass 32 wlX4_pass_1 := by decide +kernel
theorem dX4_pass_32 : decode cX4_pass 32 = .ok (.iconst 1, 1) := zD4 whX4_pass_1 (p := 0) rfl
theorem dX4_pass_33 : decode cX4_pass 33 = .ok (.istore_n 2, 1) := zD61 whX4_pass_1 (p := 1) rfl
theorem dX4_pass_34 : decode cX4_pass 34 = .ok (.iload_n 2, 1) := zD28 whX4_pass_1 (p := 2) rfl
theorem dX4_pass_35 : decode cX4_pass 35 = .ok (.bipush 10, 2) := zD16p whX4_pass_1 (p := 3) (v := 10) rfl rfl rfl
theorem dX4_pass_37 : decode cX4_pass 37 = .ok (.if_icmp .ge 57, 3) := zD162p whX4_pass_1 (p := 5) (v := 57) rfl rfl rfl
theorem dX4_pass_40 : decode cX4_pass 40 = .ok (.aload_n 0, 1) := zD42 whX4_pass_1 (p := 8) rfl
theorem dX4_pass_41 : decode cX4_pass 41 = .ok (.getfield 15, 3) := zD180 whX4_pass_1 (p := 9) rfl rfl
theorem dX4_pass_44 : decode cX4_pass 44 = .ok (.iload_n 2, 1) := zD28 whX4_pass_1 (p := 12) rfl
theorem dX4_pass_45 : decode cX4_pass 45 = .ok (.iconst 1, 1) := zD4 whX4_pass_1 (p := 13) rfl
theorem dX4_pass_46 : decode cX4_pass 46 = .ok (.isub, 1) := zD100 whX4_pass_1 (p := 14) rfl
theorem dX4_pass_47 : decode cX4_pass 47 = .ok (.dup2, 1) := zD92 whX4_pass_1 (p := 15) rfl
theorem dX4_pass_48 : decode cX4_pass 48 = .ok (.laload, 1) := zD47 whX4_pass_1 (p := 16) rfl
theorem dX4_pass_49 : decode cX4_pass 49 = .ok (.aload_n 0, 1) := zD42 whX4_pass_1 (p := 17) rfl
theorem dX4_pass_50 : decode cX4_pass 50 = .ok (.getfield 19, 3) := zD180 whX4_pass_1 (p := 18) rfl rfl
theorem dX4_pass_53 : decode cX4_pass 53 = .ok (.iload_n 2, 1) := zD28 whX4_pass_1 (p := 21) rfl
theorem dX4_pass_54 : decode cX4_pass 54 = .ok (.laload, 1) := zD47 whX4_pass_1 (p := 22) rfl
theorem dX4_pass_55 : decode cX4_pass 55 = .ok (.iload_n 1, 1) := zD27 whX4_pass_1 (p := 23) rfl
theorem dX4_pass_56 : decode cX4_pass 56 = .ok (.i2l, 1) := zD133 whX4_pass_1 (p := 24) rfl
theorem dX4_pass_57 : decode cX4_pass 57 = .ok (.lmul, 1) := zD105 whX4_pass_1 (p := 25) rfl
theorem dX4_pass_58 : decode cX4_pass 58 = .ok (.ladd, 1) := zD97 whX4_pass_1 (p := 26) rfl
theorem dX4_pass_59 : decode cX4_pass 59 = .ok (.lastore, 1) := zD80 whX4_pass_1 (p := 27) rfl
theorem dX4_pass_60 : decode cX4_pass 60 = .ok (.aload_n 0, 1) := zD42 whX4_pass_1 (p := 28) rfl
theorem dX4_pass_61 : decode cX4_pass 61 = .ok (.getfield 15, 3) := zD180 whX4_pass_1 (p := 29) rfl rfl
def wlX4_pass_2 : List Nat := [16, 9, 28, 4, 96, 184, 0, 47, 92, 47, 42, 180, 0, 19, 28, 47, 16, 20, 27, 100, 133, 105, 97, 80, 132, 2, 1, 167, 255, 199, 177]
theorem whX4_pass_2 : WLy cX4_pass 64 wlX4_pass_2 := by decide +kernel
theorem dX4_pass_64 : decode cX4_pass 64 = .ok (.bipush 9, 2) := zD16p whX4_pass_2 (p := 0) (v := 9) rfl rfl rfl
theorem dX4_pass_66 : decode cX4_pass 66 = .ok (.iload_n 2, 1) := zD28 whX4_pass_2 (p := 2) rfl
theorem dX4_pass_67 : decode cX4_pass 67 = .ok (.iconst 1, 1) := zD4 whX4_pass_2 (p := 3) rfl
theorem dX4_pass_68 : decode cX4_pass 68 = .ok (.iadd, 1) := zD96 whX4_pass_2 (p := 4) rfl
theorem dX4_pass_69 : decode cX4_pass 69 = .ok (.invokestatic 47, 3) := zD184 whX4_pass_2 (p := 5) rfl rfl
theorem dX4_pass_72 : decode cX4_pass 72 = .ok (.dup2, 1) := zD92 whX4_pass_2 (p := 8) rfl
theorem dX4_pass_73 : decode cX4_pass 73 = .ok (.laload, 1) := zD47 whX4_pass_2 (p := 9) rfl
theorem dX4_pass_74 : decode cX4_pass 74 = .ok (.aload_n 0, 1) := zD42 whX4_pass_2 (p := 10) rfl
theorem dX4_pass_75 : decode cX4_pass 75 = .ok (.getfield 19, 3) := zD180 whX4_pass_2 (p := 11) rfl rfl
theorem dX4_pass_78 : decode cX4_pass 78 = .ok (.iload_n 2, 1) := zD28 whX4_pass_2 (p := 14) rfl
theorem dX4_pass_79 : decode cX4_pass 79 = .ok (.laload, 1) := zD47 whX4_pass_2 (p := 15) rfl
theorem dX4_pass_80 : decode cX4_pass 80 = .ok (.bipush 20, 2) := zD16p whX4_pass_2 (p := 16) (v := 20) rfl rfl rfl
theorem dX4_pass_82 : decode cX4_pass 82 = .ok (.iload_n 1, 1) := zD27 whX4_pass_2 (p := 18) rfl
theorem dX4_pass_83 : decode cX4_pass 83 = .ok (.isub, 1) := zD100 whX4_pass_2 (p := 19) rfl
theorem dX4_pass_84 : decode cX4_pass 84 = .ok (.i2l, 1) := zD133 whX4_pass_2 (p := 20) rfl
theorem dX4_pass_85 : decode cX4_pass 85 = .ok (.lmul, 1) := zD105 whX4_pass_2 (p := 21) rfl
theorem dX4_pass_86 : decode cX4_pass 86 = .ok (.ladd, 1) := zD97 whX4_pass_2 (p := 22) rfl
theorem dX4_pass_87 : decode cX4_pass 87 = .ok (.lastore, 1) := zD80 whX4_pass_2 (p := 23) rfl
theorem dX4_pass_88 : decode cX4_pass 88 = .ok (.iinc 2 1, 3) := zD132p whX4_pass_2 (p := 24) (v := 1) rfl rfl rfl
theorem dX4_pass_91 : decode cX4_pass 91 = .ok (.goto (-57), 3) := zD167n whX4_pass_2 (p := 27) (v := 57) rfl rfl rfl
theorem dX4_pass_94 : decode cX4_pass 94 = .ok (.return_, 1) := zD177 whX4_pass_2 (p := 30) rfl
def wlX4_deepen_0 : List Nat := [42, 182, 0, 42, 42, 180, 0, 15, 3, 42, 180, 0, 19, 3, 47, 80, 4, 60, 27, 16, 10, 162, 0, 31, 42, 180, 0, 15, 16, 9, 27, 5]
theorem whX4_deepen_0 : WLy cX4_deepen 0 wlX4_deepen_0 := by decide +kernel
theorem dX4_deepen_0 : decode cX4_deepen 0 = .ok (.aload_n 0, 1) := zD42 whX4_deepen_0 (p := 0) rfl
theorem dX4_deepen_1 : decode cX4_deepen 1 = .ok (.invokevirtual 42, 3) := zD182 whX4_deepen_0 (p := 1) rfl rfl
theorem dX4_deepen_4 : decode cX4_deepen 4 = .ok (.aload_n 0, 1) := zD42 whX4_deepen_0 (p := 4) rfl
theorem dX4_deepen_5 : decode cX4_deepen 5 = .ok (.getfield 15, 3) := zD180 whX4_deepen_0 (p := 5) rfl rfl
theorem dX4_deepen_8 : decode cX4_deepen 8 = .ok (.iconst 0, 1) := zD3 whX4_deepen_0 (p := 8) rfl
theorem dX4_deepen_9 : decode cX4_deepen 9 = .ok (.aload_n 0, 1) := zD42 whX4_deepen_0 (p := 9) rfl
theorem dX4_deepen_10 : decode cX4_deepen 10 = .ok (.getfield 19, 3) := zD180 whX4_deepen_0 (p := 10) rfl rfl
theorem dX4_deepen_13 : decode cX4_deepen 13 = .ok (.iconst 0, 1) := zD3 whX4_deepen_0 (p := 13) rfl
theorem dX4_deepen_14 : decode cX4_deepen 14 = .ok (.laload, 1) := zD47 whX4_deepen_0 (p := 14) rfl
theorem dX4_deepen_15 : decode cX4_deepen 15 = .ok (.lastore, 1) := zD80 whX4_deepen_0 (p := 15) rfl
theorem dX4_deepen_16 : decode cX4_deepen 16 = .ok (.iconst 1, 1) := zD4 whX4_deepen_0 (p := 16) rfl
theorem dX4_deepen_17 : decode cX4_deepen 17 = .ok (.istore_n 1, 1) := zD60 whX4_deepen_0 (p := 17) rfl
theorem dX4_deepen_18 : decode cX4_deepen 18 = .ok (.iload_n 1, 1) := zD27 whX4_deepen_0 (p := 18) rfl
theorem dX4_deepen_19 : decode cX4_deepen 19 = .ok (.bipush 10, 2) := zD16p whX4_deepen_0 (p := 19) (v := 10) rfl rfl rfl
theorem dX4_deepen_21 : decode cX4_deepen 21 = .ok (.if_icmp .ge 31, 3) := zD162p whX4_deepen_0 (p := 21) (v := 31) rfl rfl rfl
theorem dX4_deepen_24 : decode cX4_deepen 24 = .ok (.aload_n 0, 1) := zD42 whX4_deepen_0 (p := 24) rfl
theorem dX4_deepen_25 : decode cX4_deepen 25 = .ok (.getfield 15, 3) := zD180 whX4_deepen_0 (p := 25) rfl rfl
theorem dX4_deepen_28 : decode cX4_deepen 28 = .ok (.bipush 9, 2) := zD16p whX4_deepen_0 (p := 28) (v := 9) rfl rfl rfl
theorem dX4_deepen_30 : decode cX4_deepen 30 = .ok (.iload_n 1, 1) := zD27 whX4_deepen_0 (p := 30) rfl
theorem dX4_deepen_31 : decode cX4_deepen 31 = .ok (.iconst 2, 1) := zD5 whX4_deepen_0 (p := 31) rfl
def wlX4_deepen_1 : List Nat := [96, 184, 0, 47, 92, 47, 42, 180, 0, 19, 27, 47, 97, 80, 132, 1, 1, 167, 255, 225, 177]
theorem whX4_deepen_1 : WLy cX4_deepen 32 wlX4_deepen_1 := by decide +kernel
theorem dX4_deepen_32 : decode cX4_deepen 32 = .ok (.iadd, 1) := zD96 whX4_deepen_1 (p := 0) rfl
theorem dX4_deepen_33 : decode cX4_deepen 33 = .ok (.invokestatic 47, 3) := zD184 whX4_deepen_1 (p := 1) rfl rfl
theorem dX4_deepen_36 : decode cX4_deepen 36 = .ok (.dup2, 1) := zD92 whX4_deepen_1 (p := 4) rfl
theorem dX4_deepen_37 : decode cX4_deepen 37 = .ok (.laload, 1) := zD47 whX4_deepen_1 (p := 5) rfl
theorem dX4_deepen_38 : decode cX4_deepen 38 = .ok (.aload_n 0, 1) := zD42 whX4_deepen_1 (p := 6) rfl
theorem dX4_deepen_39 : decode cX4_deepen 39 = .ok (.getfield 19, 3) := zD180 whX4_deepen_1 (p := 7) rfl rfl
theorem dX4_deepen_42 : decode cX4_deepen 42 = .ok (.iload_n 1, 1) := zD27 whX4_deepen_1 (p := 10) rfl
theorem dX4_deepen_43 : decode cX4_deepen 43 = .ok (.laload, 1) := zD47 whX4_deepen_1 (p := 11) rfl
theorem dX4_deepen_44 : decode cX4_deepen 44 = .ok (.ladd, 1) := zD97 whX4_deepen_1 (p := 12) rfl
theorem dX4_deepen_45 : decode cX4_deepen 45 = .ok (.lastore, 1) := zD80 whX4_deepen_1 (p := 13) rfl
theorem dX4_deepen_46 : decode cX4_deepen 46 = .ok (.iinc 1 1, 3) := zD132p whX4_deepen_1 (p := 14) (v := 1) rfl rfl rfl
theorem dX4_deepen_49 : decode cX4_deepen 49 = .ok (.goto (-31), 3) := zD167n whX4_deepen_1 (p := 17) (v := 31) rfl rfl rfl
theorem dX4_deepen_52 : decode cX4_deepen 52 = .ok (.return_, 1) := zD177 whX4_deepen_1 (p := 20) rfl
def wlX5_init_0 : List Nat := [42, 183, 0, 3, 42, 187, 0, 9, 89, 183, 0, 11, 181, 0, 12, 42, 187, 0, 18, 89, 183, 0, 20, 181, 0, 21, 177]
theorem whX5_init_0 : WLy cX5_init 0 wlX5_init_0 := by decide +kernel
theorem dX5_init_0 : decode cX5_init 0 = .ok (.aload_n 0, 1) := zD42 whX5_init_0 (p := 0) rfl
theorem dX5_init_1 : decode cX5_init 1 = .ok (.invokespecial 3, 3) := zD183 whX5_init_0 (p := 1) rfl rfl
theorem dX5_init_4 : decode cX5_init 4 = .ok (.aload_n 0, 1) := zD42 whX5_init_0 (p := 4) rfl
theorem dX5_init_5 : decode cX5_init 5 = .ok (.new 9, 3) := zD187 whX5_init_0 (p := 5) rfl rfl
theorem dX5_init_8 : decode cX5_init 8 = .ok (.dup, 1) := zD89 whX5_init_0 (p := 8) rfl
theorem dX5_init_9 : decode cX5_init 9 = .ok (.invokespecial 11, 3) := zD183 whX5_init_0 (p := 9) rfl rfl
theorem dX5_init_12 : decode cX5_init 12 = .ok (.putfield 12, 3) := zD181 whX5_init_0 (p := 12) rfl rfl
theorem dX5_init_15 : decode cX5_init 15 = .ok (.aload_n 0, 1) := zD42 whX5_init_0 (p := 15) rfl
theorem dX5_init_16 : decode cX5_init 16 = .ok (.new 18, 3) := zD187 whX5_init_0 (p := 16) rfl rfl
theorem dX5_init_19 : decode cX5_init 19 = .ok (.dup, 1) := zD89 whX5_init_0 (p := 19) rfl
theorem dX5_init_20 : decode cX5_init 20 = .ok (.invokespecial 20, 3) := zD183 whX5_init_0 (p := 20) rfl rfl
theorem dX5_init_23 : decode cX5_init 23 = .ok (.putfield 21, 3) := zD181 whX5_init_0 (p := 23) rfl rfl
theorem dX5_init_26 : decode cX5_init 26 = .ok (.return_, 1) := zD177 whX5_init_0 (p := 26) rfl
def wlX5_readAll_0 : List Nat := [42, 182, 0, 25, 42, 182, 0, 28, 87, 3, 60, 27, 42, 180, 0, 12, 180, 0, 32, 163, 0, 45, 42, 180, 0, 36, 154, 0, 38, 42, 180, 0, 39]
theorem whX5_readAll_0 : WLy cX5_readAll 0 wlX5_readAll_0 := by decide +kernel
theorem dX5_readAll_0 : decode cX5_readAll 0 = .ok (.aload_n 0, 1) := zD42 whX5_readAll_0 (p := 0) rfl
theorem dX5_readAll_1 : decode cX5_readAll 1 = .ok (.invokevirtual 25, 3) := zD182 whX5_readAll_0 (p := 1) rfl rfl
theorem dX5_readAll_4 : decode cX5_readAll 4 = .ok (.aload_n 0, 1) := zD42 whX5_readAll_0 (p := 4) rfl
theorem dX5_readAll_5 : decode cX5_readAll 5 = .ok (.invokevirtual 28, 3) := zD182 whX5_readAll_0 (p := 5) rfl rfl
theorem dX5_readAll_8 : decode cX5_readAll 8 = .ok (.pop, 1) := zD87 whX5_readAll_0 (p := 8) rfl
theorem dX5_readAll_9 : decode cX5_readAll 9 = .ok (.iconst 0, 1) := zD3 whX5_readAll_0 (p := 9) rfl
theorem dX5_readAll_10 : decode cX5_readAll 10 = .ok (.istore_n 1, 1) := zD60 whX5_readAll_0 (p := 10) rfl
theorem dX5_readAll_11 : decode cX5_readAll 11 = .ok (.iload_n 1, 1) := zD27 whX5_readAll_0 (p := 11) rfl
theorem dX5_readAll_12 : decode cX5_readAll 12 = .ok (.aload_n 0, 1) := zD42 whX5_readAll_0 (p := 12) rfl
theorem dX5_readAll_13 : decode cX5_readAll 13 = .ok (.getfield 12, 3) := zD180 whX5_readAll_0 (p := 13) rfl rfl
theorem dX5_readAll_16 : decode cX5_readAll 16 = .ok (.getfield 32, 3) := zD180 whX5_readAll_0 (p := 16) rfl rfl
theorem dX5_readAll_19 : decode cX5_readAll 19 = .ok (.if_icmp .gt 45, 3) := zD163p whX5_readAll_0 (p := 19) (v := 45) rfl rfl rfl
theorem dX5_readAll_22 : decode cX5_readAll 22 = .ok (.aload_n 0, 1) := zD42 whX5_readAll_0 (p := 22) rfl
theorem dX5_readAll_23 : decode cX5_readAll 23 = .ok (.getfield 36, 3) := zD180 whX5_readAll_0 (p := 23) rfl rfl
theorem dX5_readAll_26 : decode cX5_readAll 26 = .ok (.ifCond .ne 38, 3) := zD154p whX5_readAll_0 (p := 26) (v := 38) rfl rfl rfl
theorem dX5_readAll_29 : decode cX5_readAll 29 = .ok (.aload_n 0, 1) := zD42 whX5_readAll_0 (p := 29) rfl
theorem dX5_readAll_30 : decode cX5_readAll 30 = .ok (.getfield 39, 3) := zD180 whX5_readAll_0 (p := 30) rfl rfl
def wlX5_readAll_1 : List Nat := [153, 0, 31, 42, 182, 0, 42, 153, 0, 18, 42, 89, 180, 0, 45, 4, 96, 181, 0, 45, 42, 182, 0, 28, 87, 132, 1, 1, 167, 255, 206, 42]
theorem whX5_readAll_1 : WLy cX5_readAll 33 wlX5_readAll_1 := by decide +kernel
theorem dX5_readAll_33 : decode cX5_readAll 33 = .ok (.ifCond .eq 31, 3) := zD153p whX5_readAll_1 (p := 0) (v := 31) rfl rfl rfl
theorem dX5_readAll_36 : decode cX5_readAll 36 = .ok (.aload_n 0, 1) := zD42 whX5_readAll_1 (p := 3) rfl
theorem dX5_readAll_37 : decode cX5_readAll 37 = .ok (.invokevirtual 42, 3) := zD182 whX5_readAll_1 (p := 4) rfl rfl
theorem dX5_readAll_40 : decode cX5_readAll 40 = .ok (.ifCond .eq 18, 3) := zD153p whX5_readAll_1 (p := 7) (v := 18) rfl rfl rfl
theorem dX5_readAll_43 : decode cX5_readAll 43 = .ok (.aload_n 0, 1) := zD42 whX5_readAll_1 (p := 10) rfl
theorem dX5_readAll_44 : decode cX5_readAll 44 = .ok (.dup, 1) := zD89 whX5_readAll_1 (p := 11) rfl
theorem dX5_readAll_45 : decode cX5_readAll 45 = .ok (.getfield 45, 3) := zD180 whX5_readAll_1 (p := 12) rfl rfl
theorem dX5_readAll_48 : decode cX5_readAll 48 = .ok (.iconst 1, 1) := zD4 whX5_readAll_1 (p := 15) rfl
theorem dX5_readAll_49 : decode cX5_readAll 49 = .ok (.iadd, 1) := zD96 whX5_readAll_1 (p := 16) rfl
theorem dX5_readAll_50 : decode cX5_readAll 50 = .ok (.putfield 45, 3) := zD181 whX5_readAll_1 (p := 17) rfl rfl
theorem dX5_readAll_53 : decode cX5_readAll 53 = .ok (.aload_n 0, 1) := zD42 whX5_readAll_1 (p := 20) rfl
theorem dX5_readAll_54 : decode cX5_readAll 54 = .ok (.invokevirtual 28, 3) := zD182 whX5_readAll_1 (p := 21) rfl rfl
theorem dX5_readAll_57 : decode cX5_readAll 57 = .ok (.pop, 1) := zD87 whX5_readAll_1 (p := 24) rfl
theorem dX5_readAll_58 : decode cX5_readAll 58 = .ok (.iinc 1 1, 3) := zD132p whX5_readAll_1 (p := 25) (v := 1) rfl rfl rfl
theorem dX5_readAll_61 : decode cX5_readAll 61 = .ok (.goto (-50), 3) := zD167n whX5_readAll_1 (p := 28) (v := 50) rfl rfl rfl
theorem dX5_readAll_64 : decode cX5_readAll 64 = .ok (.aload_n 0, 1) := zD42 whX5_readAll_1 (p := 31) rfl
def wlX5_readAll_2 : List Nat := [180, 0, 36, 154, 0, 7, 42, 182, 0, 48, 177]
theorem whX5_readAll_2 : WLy cX5_readAll 65 wlX5_readAll_2 := by decide +kernel
theorem dX5_readAll_65 : decode cX5_readAll 65 = .ok (.getfield 36, 3) := zD180 whX5_readAll_2 (p := 0) rfl rfl
theorem dX5_readAll_68 : decode cX5_readAll 68 = .ok (.ifCond .ne 7, 3) := zD154p whX5_readAll_2 (p := 3) (v := 7) rfl rfl rfl
theorem dX5_readAll_71 : decode cX5_readAll 71 = .ok (.aload_n 0, 1) := zD42 whX5_readAll_2 (p := 6) rfl
theorem dX5_readAll_72 : decode cX5_readAll 72 = .ok (.invokevirtual 48, 3) := zD182 whX5_readAll_2 (p := 7) rfl rfl
theorem dX5_readAll_75 : decode cX5_readAll 75 = .ok (.return_, 1) := zD177 whX5_readAll_2 (p := 10) rfl
def wlX5_begin_0 : List Nat := [42, 180, 0, 21, 182, 0, 51, 42, 3, 181, 0, 36, 42, 3, 181, 0, 54, 42, 3, 181, 0, 45, 42, 3, 181, 0, 57, 42, 3, 181, 0, 60]
theorem whX5_begin_0 : WLy cX5_begin 0 wlX5_begin_0 := by decide +kernel
theorem dX5_begin_0 : decode cX5_begin 0 = .ok (.aload_n 0, 1) := zD42 whX5_begin_0 (p := 0) rfl
theorem dX5_begin_1 : decode cX5_begin 1 = .ok (.getfield 21, 3) := zD180 whX5_begin_0 (p := 1) rfl rfl
theorem dX5_begin_4 : decode cX5_begin 4 = .ok (.invokevirtual 51, 3) := zD182 whX5_begin_0 (p := 4) rfl rfl
theorem dX5_begin_7 : decode cX5_begin 7 = .ok (.aload_n 0, 1) := zD42 whX5_begin_0 (p := 7) rfl
theorem dX5_begin_8 : decode cX5_begin 8 = .ok (.iconst 0, 1) := zD3 whX5_begin_0 (p := 8) rfl
theorem dX5_begin_9 : decode cX5_begin 9 = .ok (.putfield 36, 3) := zD181 whX5_begin_0 (p := 9) rfl rfl
theorem dX5_begin_12 : decode cX5_begin 12 = .ok (.aload_n 0, 1) := zD42 whX5_begin_0 (p := 12) rfl
theorem dX5_begin_13 : decode cX5_begin 13 = .ok (.iconst 0, 1) := zD3 whX5_begin_0 (p := 13) rfl
theorem dX5_begin_14 : decode cX5_begin 14 = .ok (.putfield 54, 3) := zD181 whX5_begin_0 (p := 14) rfl rfl
theorem dX5_begin_17 : decode cX5_begin 17 = .ok (.aload_n 0, 1) := zD42 whX5_begin_0 (p := 17) rfl
theorem dX5_begin_18 : decode cX5_begin 18 = .ok (.iconst 0, 1) := zD3 whX5_begin_0 (p := 18) rfl
theorem dX5_begin_19 : decode cX5_begin 19 = .ok (.putfield 45, 3) := zD181 whX5_begin_0 (p := 19) rfl rfl
theorem dX5_begin_22 : decode cX5_begin 22 = .ok (.aload_n 0, 1) := zD42 whX5_begin_0 (p := 22) rfl
theorem dX5_begin_23 : decode cX5_begin 23 = .ok (.iconst 0, 1) := zD3 whX5_begin_0 (p := 23) rfl
theorem dX5_begin_24 : decode cX5_begin 24 = .ok (.putfield 57, 3) := zD181 whX5_begin_0 (p := 24) rfl rfl
theorem dX5_begin_27 : decode cX5_begin 27 = .ok (.aload_n 0, 1) := zD42 whX5_begin_0 (p := 27) rfl
theorem dX5_begin_28 : decode cX5_begin 28 = .ok (.iconst 0, 1) := zD3 whX5_begin_0 (p := 28) rfl
theorem dX5_begin_29 : decode cX5_begin 29 = .ok (.putfield 60, 3) := zD181 whX5_begin_0 (p := 29) rfl rfl
def wlX5_begin_1 : List Nat := [42, 3, 181, 0, 64, 42, 16, 252, 181, 0, 67, 42, 16, 252, 181, 0, 70, 177]
theorem whX5_begin_1 : WLy cX5_begin 32 wlX5_begin_1 := by decide +kernel
theorem dX5_begin_32 : decode cX5_begin 32 = .ok (.aload_n 0, 1) := zD42 whX5_begin_1 (p := 0) rfl
theorem dX5_begin_33 : decode cX5_begin 33 = .ok (.iconst 0, 1) := zD3 whX5_begin_1 (p := 1) rfl
theorem dX5_begin_34 : decode cX5_begin 34 = .ok (.putfield 64, 3) := zD181 whX5_begin_1 (p := 2) rfl rfl
theorem dX5_begin_37 : decode cX5_begin 37 = .ok (.aload_n 0, 1) := zD42 whX5_begin_1 (p := 5) rfl
theorem dX5_begin_38 : decode cX5_begin 38 = .ok (.bipush (-4), 2) := zD16n whX5_begin_1 (p := 6) (v := 4) rfl rfl rfl
theorem dX5_begin_40 : decode cX5_begin 40 = .ok (.putfield 67, 3) := zD181 whX5_begin_1 (p := 8) rfl rfl
theorem dX5_begin_43 : decode cX5_begin 43 = .ok (.aload_n 0, 1) := zD42 whX5_begin_1 (p := 11) rfl
theorem dX5_begin_44 : decode cX5_begin 44 = .ok (.bipush (-4), 2) := zD16n whX5_begin_1 (p := 12) (v := 4) rfl rfl rfl
theorem dX5_begin_46 : decode cX5_begin 46 = .ok (.putfield 70, 3) := zD181 whX5_begin_1 (p := 14) rfl rfl
theorem dX5_begin_49 : decode cX5_begin 49 = .ok (.return_, 1) := zD177 whX5_begin_1 (p := 17) rfl
def wlX5_refuse_0 : List Nat := [42, 180, 0, 36, 154, 0, 13, 42, 27, 181, 0, 36, 42, 28, 181, 0, 54, 3, 172]
theorem whX5_refuse_0 : WLy cX5_refuse 0 wlX5_refuse_0 := by decide +kernel
theorem dX5_refuse_0 : decode cX5_refuse 0 = .ok (.aload_n 0, 1) := zD42 whX5_refuse_0 (p := 0) rfl
theorem dX5_refuse_1 : decode cX5_refuse 1 = .ok (.getfield 36, 3) := zD180 whX5_refuse_0 (p := 1) rfl rfl
theorem dX5_refuse_4 : decode cX5_refuse 4 = .ok (.ifCond .ne 13, 3) := zD154p whX5_refuse_0 (p := 4) (v := 13) rfl rfl rfl
theorem dX5_refuse_7 : decode cX5_refuse 7 = .ok (.aload_n 0, 1) := zD42 whX5_refuse_0 (p := 7) rfl
theorem dX5_refuse_8 : decode cX5_refuse 8 = .ok (.iload_n 1, 1) := zD27 whX5_refuse_0 (p := 8) rfl
theorem dX5_refuse_9 : decode cX5_refuse 9 = .ok (.putfield 36, 3) := zD181 whX5_refuse_0 (p := 9) rfl rfl
theorem dX5_refuse_12 : decode cX5_refuse 12 = .ok (.aload_n 0, 1) := zD42 whX5_refuse_0 (p := 12) rfl
theorem dX5_refuse_13 : decode cX5_refuse 13 = .ok (.iload_n 2, 1) := zD28 whX5_refuse_0 (p := 13) rfl
theorem dX5_refuse_14 : decode cX5_refuse 14 = .ok (.putfield 54, 3) := zD181 whX5_refuse_0 (p := 14) rfl rfl
theorem dX5_refuse_17 : decode cX5_refuse 17 = .ok (.iconst 0, 1) := zD3 whX5_refuse_0 (p := 17) rfl
theorem dX5_refuse_18 : decode cX5_refuse 18 = .ok (.ireturn, 1) := zD172 whX5_refuse_0 (p := 18) rfl
def wlX5_nextToken_0 : List Nat := [42, 42, 180, 0, 12, 42, 180, 0, 57, 16, 32, 16, 32, 182, 0, 73, 181, 0, 77, 42, 42, 180, 0, 77, 181, 0, 57, 42, 180, 0, 12, 42]
theorem whX5_nextToken_0 : WLy cX5_nextToken 0 wlX5_nextToken_0 := by decide +kernel
theorem dX5_nextToken_0 : decode cX5_nextToken 0 = .ok (.aload_n 0, 1) := zD42 whX5_nextToken_0 (p := 0) rfl
theorem dX5_nextToken_1 : decode cX5_nextToken 1 = .ok (.aload_n 0, 1) := zD42 whX5_nextToken_0 (p := 1) rfl
theorem dX5_nextToken_2 : decode cX5_nextToken 2 = .ok (.getfield 12, 3) := zD180 whX5_nextToken_0 (p := 2) rfl rfl
theorem dX5_nextToken_5 : decode cX5_nextToken 5 = .ok (.aload_n 0, 1) := zD42 whX5_nextToken_0 (p := 5) rfl
theorem dX5_nextToken_6 : decode cX5_nextToken 6 = .ok (.getfield 57, 3) := zD180 whX5_nextToken_0 (p := 6) rfl rfl
theorem dX5_nextToken_9 : decode cX5_nextToken 9 = .ok (.bipush 32, 2) := zD16p whX5_nextToken_0 (p := 9) (v := 32) rfl rfl rfl
theorem dX5_nextToken_11 : decode cX5_nextToken 11 = .ok (.bipush 32, 2) := zD16p whX5_nextToken_0 (p := 11) (v := 32) rfl rfl rfl
theorem dX5_nextToken_13 : decode cX5_nextToken 13 = .ok (.invokevirtual 73, 3) := zD182 whX5_nextToken_0 (p := 13) rfl rfl
theorem dX5_nextToken_16 : decode cX5_nextToken 16 = .ok (.putfield 77, 3) := zD181 whX5_nextToken_0 (p := 16) rfl rfl
theorem dX5_nextToken_19 : decode cX5_nextToken 19 = .ok (.aload_n 0, 1) := zD42 whX5_nextToken_0 (p := 19) rfl
theorem dX5_nextToken_20 : decode cX5_nextToken 20 = .ok (.aload_n 0, 1) := zD42 whX5_nextToken_0 (p := 20) rfl
theorem dX5_nextToken_21 : decode cX5_nextToken 21 = .ok (.getfield 77, 3) := zD180 whX5_nextToken_0 (p := 21) rfl rfl
theorem dX5_nextToken_24 : decode cX5_nextToken 24 = .ok (.putfield 57, 3) := zD181 whX5_nextToken_0 (p := 24) rfl rfl
theorem dX5_nextToken_27 : decode cX5_nextToken 27 = .ok (.aload_n 0, 1) := zD42 whX5_nextToken_0 (p := 27) rfl
theorem dX5_nextToken_28 : decode cX5_nextToken 28 = .ok (.getfield 12, 3) := zD180 whX5_nextToken_0 (p := 28) rfl rfl
theorem dX5_nextToken_31 : decode cX5_nextToken 31 = .ok (.aload_n 0, 1) := zD42 whX5_nextToken_0 (p := 31) rfl
def wlX5_nextToken_1 : List Nat := [180, 0, 77, 182, 0, 80, 60, 42, 180, 0, 77, 42, 180, 0, 12, 180, 0, 32, 161, 0, 11, 42, 3, 181, 0, 39, 167, 0, 143, 27, 16, 97]
theorem whX5_nextToken_1 : WLy cX5_nextToken 32 wlX5_nextToken_1 := by decide +kernel
theorem dX5_nextToken_32 : decode cX5_nextToken 32 = .ok (.getfield 77, 3) := zD180 whX5_nextToken_1 (p := 0) rfl rfl
theorem dX5_nextToken_35 : decode cX5_nextToken 35 = .ok (.invokevirtual 80, 3) := zD182 whX5_nextToken_1 (p := 3) rfl rfl
theorem dX5_nextToken_38 : decode cX5_nextToken 38 = .ok (.istore_n 1, 1) := zD60 whX5_nextToken_1 (p := 6) rfl
theorem dX5_nextToken_39 : decode cX5_nextToken 39 = .ok (.aload_n 0, 1) := zD42 whX5_nextToken_1 (p := 7) rfl
theorem dX5_nextToken_40 : decode cX5_nextToken 40 = .ok (.getfield 77, 3) := zD180 whX5_nextToken_1 (p := 8) rfl rfl
theorem dX5_nextToken_43 : decode cX5_nextToken 43 = .ok (.aload_n 0, 1) := zD42 whX5_nextToken_1 (p := 11) rfl
theorem dX5_nextToken_44 : decode cX5_nextToken 44 = .ok (.getfield 12, 3) := zD180 whX5_nextToken_1 (p := 12) rfl rfl
theorem dX5_nextToken_47 : decode cX5_nextToken 47 = .ok (.getfield 32, 3) := zD180 whX5_nextToken_1 (p := 15) rfl rfl
theorem dX5_nextToken_50 : decode cX5_nextToken 50 = .ok (.if_icmp .lt 11, 3) := zD161p whX5_nextToken_1 (p := 18) (v := 11) rfl rfl rfl
theorem dX5_nextToken_53 : decode cX5_nextToken 53 = .ok (.aload_n 0, 1) := zD42 whX5_nextToken_1 (p := 21) rfl
theorem dX5_nextToken_54 : decode cX5_nextToken 54 = .ok (.iconst 0, 1) := zD3 whX5_nextToken_1 (p := 22) rfl
theorem dX5_nextToken_55 : decode cX5_nextToken 55 = .ok (.putfield 39, 3) := zD181 whX5_nextToken_1 (p := 23) rfl rfl
theorem dX5_nextToken_58 : decode cX5_nextToken 58 = .ok (.goto 143, 3) := zD167p whX5_nextToken_1 (p := 26) (v := 143) rfl rfl rfl
theorem dX5_nextToken_61 : decode cX5_nextToken 61 = .ok (.iload_n 1, 1) := zD27 whX5_nextToken_1 (p := 29) rfl
theorem dX5_nextToken_62 : decode cX5_nextToken 62 = .ok (.bipush 97, 2) := zD16p whX5_nextToken_1 (p := 30) (v := 97) rfl rfl rfl
def wlX5_nextToken_2 : List Nat := [161, 0, 36, 27, 16, 122, 163, 0, 30, 42, 4, 181, 0, 39, 42, 42, 180, 0, 12, 42, 180, 0, 77, 16, 97, 16, 122, 182, 0, 73, 181, 0, 57]
theorem whX5_nextToken_2 : WLy cX5_nextToken 64 wlX5_nextToken_2 := by decide +kernel
theorem dX5_nextToken_64 : decode cX5_nextToken 64 = .ok (.if_icmp .lt 36, 3) := zD161p whX5_nextToken_2 (p := 0) (v := 36) rfl rfl rfl
theorem dX5_nextToken_67 : decode cX5_nextToken 67 = .ok (.iload_n 1, 1) := zD27 whX5_nextToken_2 (p := 3) rfl
theorem dX5_nextToken_68 : decode cX5_nextToken 68 = .ok (.bipush 122, 2) := zD16p whX5_nextToken_2 (p := 4) (v := 122) rfl rfl rfl
theorem dX5_nextToken_70 : decode cX5_nextToken 70 = .ok (.if_icmp .gt 30, 3) := zD163p whX5_nextToken_2 (p := 6) (v := 30) rfl rfl rfl
theorem dX5_nextToken_73 : decode cX5_nextToken 73 = .ok (.aload_n 0, 1) := zD42 whX5_nextToken_2 (p := 9) rfl
theorem dX5_nextToken_74 : decode cX5_nextToken 74 = .ok (.iconst 1, 1) := zD4 whX5_nextToken_2 (p := 10) rfl
theorem dX5_nextToken_75 : decode cX5_nextToken 75 = .ok (.putfield 39, 3) := zD181 whX5_nextToken_2 (p := 11) rfl rfl
theorem dX5_nextToken_78 : decode cX5_nextToken 78 = .ok (.aload_n 0, 1) := zD42 whX5_nextToken_2 (p := 14) rfl
theorem dX5_nextToken_79 : decode cX5_nextToken 79 = .ok (.aload_n 0, 1) := zD42 whX5_nextToken_2 (p := 15) rfl
theorem dX5_nextToken_80 : decode cX5_nextToken 80 = .ok (.getfield 12, 3) := zD180 whX5_nextToken_2 (p := 16) rfl rfl
theorem dX5_nextToken_83 : decode cX5_nextToken 83 = .ok (.aload_n 0, 1) := zD42 whX5_nextToken_2 (p := 19) rfl
theorem dX5_nextToken_84 : decode cX5_nextToken 84 = .ok (.getfield 77, 3) := zD180 whX5_nextToken_2 (p := 20) rfl rfl
theorem dX5_nextToken_87 : decode cX5_nextToken 87 = .ok (.bipush 97, 2) := zD16p whX5_nextToken_2 (p := 23) (v := 97) rfl rfl rfl
theorem dX5_nextToken_89 : decode cX5_nextToken 89 = .ok (.bipush 122, 2) := zD16p whX5_nextToken_2 (p := 25) (v := 122) rfl rfl rfl
theorem dX5_nextToken_91 : decode cX5_nextToken 91 = .ok (.invokevirtual 73, 3) := zD182 whX5_nextToken_2 (p := 27) rfl rfl
theorem dX5_nextToken_94 : decode cX5_nextToken 94 = .ok (.putfield 57, 3) := zD181 whX5_nextToken_2 (p := 30) rfl rfl
def wlX5_nextToken_3 : List Nat := [167, 0, 104, 27, 16, 48, 161, 0, 64, 27, 16, 57, 163, 0, 58, 42, 5, 181, 0, 39, 42, 42, 180, 0, 12, 42, 180, 0, 77, 16, 48, 16, 57]
theorem whX5_nextToken_3 : WLy cX5_nextToken 97 wlX5_nextToken_3 := by decide +kernel
theorem dX5_nextToken_97 : decode cX5_nextToken 97 = .ok (.goto 104, 3) := zD167p whX5_nextToken_3 (p := 0) (v := 104) rfl rfl rfl
theorem dX5_nextToken_100 : decode cX5_nextToken 100 = .ok (.iload_n 1, 1) := zD27 whX5_nextToken_3 (p := 3) rfl
theorem dX5_nextToken_101 : decode cX5_nextToken 101 = .ok (.bipush 48, 2) := zD16p whX5_nextToken_3 (p := 4) (v := 48) rfl rfl rfl
theorem dX5_nextToken_103 : decode cX5_nextToken 103 = .ok (.if_icmp .lt 64, 3) := zD161p whX5_nextToken_3 (p := 6) (v := 64) rfl rfl rfl
theorem dX5_nextToken_106 : decode cX5_nextToken 106 = .ok (.iload_n 1, 1) := zD27 whX5_nextToken_3 (p := 9) rfl
theorem dX5_nextToken_107 : decode cX5_nextToken 107 = .ok (.bipush 57, 2) := zD16p whX5_nextToken_3 (p := 10) (v := 57) rfl rfl rfl
theorem dX5_nextToken_109 : decode cX5_nextToken 109 = .ok (.if_icmp .gt 58, 3) := zD163p whX5_nextToken_3 (p := 12) (v := 58) rfl rfl rfl
theorem dX5_nextToken_112 : decode cX5_nextToken 112 = .ok (.aload_n 0, 1) := zD42 whX5_nextToken_3 (p := 15) rfl
theorem dX5_nextToken_113 : decode cX5_nextToken 113 = .ok (.iconst 2, 1) := zD5 whX5_nextToken_3 (p := 16) rfl
theorem dX5_nextToken_114 : decode cX5_nextToken 114 = .ok (.putfield 39, 3) := zD181 whX5_nextToken_3 (p := 17) rfl rfl
theorem dX5_nextToken_117 : decode cX5_nextToken 117 = .ok (.aload_n 0, 1) := zD42 whX5_nextToken_3 (p := 20) rfl
theorem dX5_nextToken_118 : decode cX5_nextToken 118 = .ok (.aload_n 0, 1) := zD42 whX5_nextToken_3 (p := 21) rfl
theorem dX5_nextToken_119 : decode cX5_nextToken 119 = .ok (.getfield 12, 3) := zD180 whX5_nextToken_3 (p := 22) rfl rfl
theorem dX5_nextToken_122 : decode cX5_nextToken 122 = .ok (.aload_n 0, 1) := zD42 whX5_nextToken_3 (p := 25) rfl
theorem dX5_nextToken_123 : decode cX5_nextToken 123 = .ok (.getfield 77, 3) := zD180 whX5_nextToken_3 (p := 26) rfl rfl
theorem dX5_nextToken_126 : decode cX5_nextToken 126 = .ok (.bipush 48, 2) := zD16p whX5_nextToken_3 (p := 29) (v := 48) rfl rfl rfl
theorem dX5_nextToken_128 : decode cX5_nextToken 128 = .ok (.bipush 57, 2) := zD16p whX5_nextToken_3 (p := 31) (v := 57) rfl rfl rfl
def wlX5_nextToken_4 : List Nat := [182, 0, 73, 181, 0, 57, 42, 180, 0, 57, 42, 180, 0, 77, 100, 5, 164, 0, 15, 42, 4, 42, 180, 0, 77, 182, 0, 84, 153, 0, 7, 4]
theorem whX5_nextToken_4 : WLy cX5_nextToken 130 wlX5_nextToken_4 := by decide +kernel
theorem dX5_nextToken_130 : decode cX5_nextToken 130 = .ok (.invokevirtual 73, 3) := zD182 whX5_nextToken_4 (p := 0) rfl rfl
theorem dX5_nextToken_133 : decode cX5_nextToken 133 = .ok (.putfield 57, 3) := zD181 whX5_nextToken_4 (p := 3) rfl rfl
theorem dX5_nextToken_136 : decode cX5_nextToken 136 = .ok (.aload_n 0, 1) := zD42 whX5_nextToken_4 (p := 6) rfl
theorem dX5_nextToken_137 : decode cX5_nextToken 137 = .ok (.getfield 57, 3) := zD180 whX5_nextToken_4 (p := 7) rfl rfl
theorem dX5_nextToken_140 : decode cX5_nextToken 140 = .ok (.aload_n 0, 1) := zD42 whX5_nextToken_4 (p := 10) rfl
theorem dX5_nextToken_141 : decode cX5_nextToken 141 = .ok (.getfield 77, 3) := zD180 whX5_nextToken_4 (p := 11) rfl rfl
theorem dX5_nextToken_144 : decode cX5_nextToken 144 = .ok (.isub, 1) := zD100 whX5_nextToken_4 (p := 14) rfl
theorem dX5_nextToken_145 : decode cX5_nextToken 145 = .ok (.iconst 2, 1) := zD5 whX5_nextToken_4 (p := 15) rfl
theorem dX5_nextToken_146 : decode cX5_nextToken 146 = .ok (.if_icmp .le 15, 3) := zD164p whX5_nextToken_4 (p := 16) (v := 15) rfl rfl rfl
theorem dX5_nextToken_149 : decode cX5_nextToken 149 = .ok (.aload_n 0, 1) := zD42 whX5_nextToken_4 (p := 19) rfl
theorem dX5_nextToken_150 : decode cX5_nextToken 150 = .ok (.iconst 1, 1) := zD4 whX5_nextToken_4 (p := 20) rfl
theorem dX5_nextToken_151 : decode cX5_nextToken 151 = .ok (.aload_n 0, 1) := zD42 whX5_nextToken_4 (p := 21) rfl
theorem dX5_nextToken_152 : decode cX5_nextToken 152 = .ok (.getfield 77, 3) := zD180 whX5_nextToken_4 (p := 22) rfl rfl
theorem dX5_nextToken_155 : decode cX5_nextToken 155 = .ok (.invokevirtual 84, 3) := zD182 whX5_nextToken_4 (p := 25) rfl rfl
theorem dX5_nextToken_158 : decode cX5_nextToken 158 = .ok (.ifCond .eq 7, 3) := zD153p whX5_nextToken_4 (p := 28) (v := 7) rfl rfl rfl
theorem dX5_nextToken_161 : decode cX5_nextToken 161 = .ok (.iconst 1, 1) := zD4 whX5_nextToken_4 (p := 31) rfl
def wlX5_nextToken_5 : List Nat := [167, 0, 4, 3, 172, 27, 16, 59, 160, 0, 21, 42, 6, 181, 0, 39, 42, 42, 180, 0, 77, 4, 96, 181, 0, 57, 167, 0, 13, 42, 4, 42]
theorem whX5_nextToken_5 : WLy cX5_nextToken 162 wlX5_nextToken_5 := by decide +kernel
theorem dX5_nextToken_162 : decode cX5_nextToken 162 = .ok (.goto 4, 3) := zD167p whX5_nextToken_5 (p := 0) (v := 4) rfl rfl rfl
theorem dX5_nextToken_165 : decode cX5_nextToken 165 = .ok (.iconst 0, 1) := zD3 whX5_nextToken_5 (p := 3) rfl
theorem dX5_nextToken_166 : decode cX5_nextToken 166 = .ok (.ireturn, 1) := zD172 whX5_nextToken_5 (p := 4) rfl
theorem dX5_nextToken_167 : decode cX5_nextToken 167 = .ok (.iload_n 1, 1) := zD27 whX5_nextToken_5 (p := 5) rfl
theorem dX5_nextToken_168 : decode cX5_nextToken 168 = .ok (.bipush 59, 2) := zD16p whX5_nextToken_5 (p := 6) (v := 59) rfl rfl rfl
theorem dX5_nextToken_170 : decode cX5_nextToken 170 = .ok (.if_icmp .ne 21, 3) := zD160p whX5_nextToken_5 (p := 8) (v := 21) rfl rfl rfl
theorem dX5_nextToken_173 : decode cX5_nextToken 173 = .ok (.aload_n 0, 1) := zD42 whX5_nextToken_5 (p := 11) rfl
theorem dX5_nextToken_174 : decode cX5_nextToken 174 = .ok (.iconst 3, 1) := zD6 whX5_nextToken_5 (p := 12) rfl
theorem dX5_nextToken_175 : decode cX5_nextToken 175 = .ok (.putfield 39, 3) := zD181 whX5_nextToken_5 (p := 13) rfl rfl
theorem dX5_nextToken_178 : decode cX5_nextToken 178 = .ok (.aload_n 0, 1) := zD42 whX5_nextToken_5 (p := 16) rfl
theorem dX5_nextToken_179 : decode cX5_nextToken 179 = .ok (.aload_n 0, 1) := zD42 whX5_nextToken_5 (p := 17) rfl
theorem dX5_nextToken_180 : decode cX5_nextToken 180 = .ok (.getfield 77, 3) := zD180 whX5_nextToken_5 (p := 18) rfl rfl
theorem dX5_nextToken_183 : decode cX5_nextToken 183 = .ok (.iconst 1, 1) := zD4 whX5_nextToken_5 (p := 21) rfl
theorem dX5_nextToken_184 : decode cX5_nextToken 184 = .ok (.iadd, 1) := zD96 whX5_nextToken_5 (p := 22) rfl
theorem dX5_nextToken_185 : decode cX5_nextToken 185 = .ok (.putfield 57, 3) := zD181 whX5_nextToken_5 (p := 23) rfl rfl
theorem dX5_nextToken_188 : decode cX5_nextToken 188 = .ok (.goto 13, 3) := zD167p whX5_nextToken_5 (p := 26) (v := 13) rfl rfl rfl
theorem dX5_nextToken_191 : decode cX5_nextToken 191 = .ok (.aload_n 0, 1) := zD42 whX5_nextToken_5 (p := 29) rfl
theorem dX5_nextToken_192 : decode cX5_nextToken 192 = .ok (.iconst 1, 1) := zD4 whX5_nextToken_5 (p := 30) rfl
theorem dX5_nextToken_193 : decode cX5_nextToken 193 = .ok (.aload_n 0, 1) := zD42 whX5_nextToken_5 (p := 31) rfl
def wlX5_nextToken_6 : List Nat := [180, 0, 77, 182, 0, 84, 172, 4, 172]
theorem whX5_nextToken_6 : WLy cX5_nextToken 194 wlX5_nextToken_6 := by decide +kernel
theorem dX5_nextToken_194 : decode cX5_nextToken 194 = .ok (.getfield 77, 3) := zD180 whX5_nextToken_6 (p := 0) rfl rfl
theorem dX5_nextToken_197 : decode cX5_nextToken 197 = .ok (.invokevirtual 84, 3) := zD182 whX5_nextToken_6 (p := 3) rfl rfl
theorem dX5_nextToken_200 : decode cX5_nextToken 200 = .ok (.ireturn, 1) := zD172 whX5_nextToken_6 (p := 6) rfl
theorem dX5_nextToken_201 : decode cX5_nextToken 201 = .ok (.iconst 1, 1) := zD4 whX5_nextToken_6 (p := 7) rfl
theorem dX5_nextToken_202 : decode cX5_nextToken 202 = .ok (.ireturn, 1) := zD172 whX5_nextToken_6 (p := 8) rfl
def wlX5_isName_0 : List Nat := [42, 180, 0, 39, 4, 160, 0, 26, 42, 180, 0, 12, 42, 180, 0, 77, 42, 180, 0, 57, 43, 182, 0, 88, 153, 0, 7, 4, 167, 0, 4, 3]
theorem whX5_isName_0 : WLy cX5_isName 0 wlX5_isName_0 := by decide +kernel
theorem dX5_isName_0 : decode cX5_isName 0 = .ok (.aload_n 0, 1) := zD42 whX5_isName_0 (p := 0) rfl
theorem dX5_isName_1 : decode cX5_isName 1 = .ok (.getfield 39, 3) := zD180 whX5_isName_0 (p := 1) rfl rfl
theorem dX5_isName_4 : decode cX5_isName 4 = .ok (.iconst 1, 1) := zD4 whX5_isName_0 (p := 4) rfl
theorem dX5_isName_5 : decode cX5_isName 5 = .ok (.if_icmp .ne 26, 3) := zD160p whX5_isName_0 (p := 5) (v := 26) rfl rfl rfl
theorem dX5_isName_8 : decode cX5_isName 8 = .ok (.aload_n 0, 1) := zD42 whX5_isName_0 (p := 8) rfl
theorem dX5_isName_9 : decode cX5_isName 9 = .ok (.getfield 12, 3) := zD180 whX5_isName_0 (p := 9) rfl rfl
theorem dX5_isName_12 : decode cX5_isName 12 = .ok (.aload_n 0, 1) := zD42 whX5_isName_0 (p := 12) rfl
theorem dX5_isName_13 : decode cX5_isName 13 = .ok (.getfield 77, 3) := zD180 whX5_isName_0 (p := 13) rfl rfl
theorem dX5_isName_16 : decode cX5_isName 16 = .ok (.aload_n 0, 1) := zD42 whX5_isName_0 (p := 16) rfl
theorem dX5_isName_17 : decode cX5_isName 17 = .ok (.getfield 57, 3) := zD180 whX5_isName_0 (p := 17) rfl rfl
theorem dX5_isName_20 : decode cX5_isName 20 = .ok (.aload_n 1, 1) := zD43 whX5_isName_0 (p := 20) rfl
theorem dX5_isName_21 : decode cX5_isName 21 = .ok (.invokevirtual 88, 3) := zD182 whX5_isName_0 (p := 21) rfl rfl
theorem dX5_isName_24 : decode cX5_isName 24 = .ok (.ifCond .eq 7, 3) := zD153p whX5_isName_0 (p := 24) (v := 7) rfl rfl rfl
theorem dX5_isName_27 : decode cX5_isName 27 = .ok (.iconst 1, 1) := zD4 whX5_isName_0 (p := 27) rfl
theorem dX5_isName_28 : decode cX5_isName 28 = .ok (.goto 4, 3) := zD167p whX5_isName_0 (p := 28) (v := 4) rfl rfl rfl
theorem dX5_isName_31 : decode cX5_isName 31 = .ok (.iconst 0, 1) := zD3 whX5_isName_0 (p := 31) rfl
def wlX5_isName_1 : List Nat := [172]
theorem whX5_isName_1 : WLy cX5_isName 32 wlX5_isName_1 := by decide +kernel
theorem dX5_isName_32 : decode cX5_isName 32 = .ok (.ireturn, 1) := zD172 whX5_isName_1 (p := 0) rfl
def wlX5_readLine_0 : List Nat := [42, 18, 92, 182, 0, 94, 153, 0, 8, 42, 182, 0, 98, 172, 42, 18, 101, 182, 0, 94, 153, 0, 8, 42, 182, 0, 103, 172, 42, 18, 106, 182, 0, 94]
theorem whX5_readLine_0 : WLy cX5_readLine 0 wlX5_readLine_0 := by decide +kernel
theorem dX5_readLine_0 : decode cX5_readLine 0 = .ok (.aload_n 0, 1) := zD42 whX5_readLine_0 (p := 0) rfl
theorem dX5_readLine_1 : decode cX5_readLine 1 = .ok (.ldc 92, 2) := zD18 whX5_readLine_0 (p := 1) rfl
theorem dX5_readLine_3 : decode cX5_readLine 3 = .ok (.invokevirtual 94, 3) := zD182 whX5_readLine_0 (p := 3) rfl rfl
theorem dX5_readLine_6 : decode cX5_readLine 6 = .ok (.ifCond .eq 8, 3) := zD153p whX5_readLine_0 (p := 6) (v := 8) rfl rfl rfl
theorem dX5_readLine_9 : decode cX5_readLine 9 = .ok (.aload_n 0, 1) := zD42 whX5_readLine_0 (p := 9) rfl
theorem dX5_readLine_10 : decode cX5_readLine 10 = .ok (.invokevirtual 98, 3) := zD182 whX5_readLine_0 (p := 10) rfl rfl
theorem dX5_readLine_13 : decode cX5_readLine 13 = .ok (.ireturn, 1) := zD172 whX5_readLine_0 (p := 13) rfl
theorem dX5_readLine_14 : decode cX5_readLine 14 = .ok (.aload_n 0, 1) := zD42 whX5_readLine_0 (p := 14) rfl
theorem dX5_readLine_15 : decode cX5_readLine 15 = .ok (.ldc 101, 2) := zD18 whX5_readLine_0 (p := 15) rfl
theorem dX5_readLine_17 : decode cX5_readLine 17 = .ok (.invokevirtual 94, 3) := zD182 whX5_readLine_0 (p := 17) rfl rfl
theorem dX5_readLine_20 : decode cX5_readLine 20 = .ok (.ifCond .eq 8, 3) := zD153p whX5_readLine_0 (p := 20) (v := 8) rfl rfl rfl
theorem dX5_readLine_23 : decode cX5_readLine 23 = .ok (.aload_n 0, 1) := zD42 whX5_readLine_0 (p := 23) rfl
theorem dX5_readLine_24 : decode cX5_readLine 24 = .ok (.invokevirtual 103, 3) := zD182 whX5_readLine_0 (p := 24) rfl rfl
theorem dX5_readLine_27 : decode cX5_readLine 27 = .ok (.ireturn, 1) := zD172 whX5_readLine_0 (p := 27) rfl
theorem dX5_readLine_28 : decode cX5_readLine 28 = .ok (.aload_n 0, 1) := zD42 whX5_readLine_0 (p := 28) rfl
theorem dX5_readLine_29 : decode cX5_readLine 29 = .ok (.ldc 106, 2) := zD18 whX5_readLine_0 (p := 29) rfl
theorem dX5_readLine_31 : decode cX5_readLine 31 = .ok (.invokevirtual 94, 3) := zD182 whX5_readLine_0 (p := 31) rfl rfl
def wlX5_readLine_1 : List Nat := [153, 0, 8, 42, 182, 0, 108, 172, 42, 18, 111, 182, 0, 94, 153, 0, 8, 42, 182, 0, 113, 172, 42, 5, 42, 180, 0, 77, 182, 0, 84, 172]
theorem whX5_readLine_1 : WLy cX5_readLine 34 wlX5_readLine_1 := by decide +kernel
theorem dX5_readLine_34 : decode cX5_readLine 34 = .ok (.ifCond .eq 8, 3) := zD153p whX5_readLine_1 (p := 0) (v := 8) rfl rfl rfl
theorem dX5_readLine_37 : decode cX5_readLine 37 = .ok (.aload_n 0, 1) := zD42 whX5_readLine_1 (p := 3) rfl
theorem dX5_readLine_38 : decode cX5_readLine 38 = .ok (.invokevirtual 108, 3) := zD182 whX5_readLine_1 (p := 4) rfl rfl
theorem dX5_readLine_41 : decode cX5_readLine 41 = .ok (.ireturn, 1) := zD172 whX5_readLine_1 (p := 7) rfl
theorem dX5_readLine_42 : decode cX5_readLine 42 = .ok (.aload_n 0, 1) := zD42 whX5_readLine_1 (p := 8) rfl
theorem dX5_readLine_43 : decode cX5_readLine 43 = .ok (.ldc 111, 2) := zD18 whX5_readLine_1 (p := 9) rfl
theorem dX5_readLine_45 : decode cX5_readLine 45 = .ok (.invokevirtual 94, 3) := zD182 whX5_readLine_1 (p := 11) rfl rfl
theorem dX5_readLine_48 : decode cX5_readLine 48 = .ok (.ifCond .eq 8, 3) := zD153p whX5_readLine_1 (p := 14) (v := 8) rfl rfl rfl
theorem dX5_readLine_51 : decode cX5_readLine 51 = .ok (.aload_n 0, 1) := zD42 whX5_readLine_1 (p := 17) rfl
theorem dX5_readLine_52 : decode cX5_readLine 52 = .ok (.invokevirtual 113, 3) := zD182 whX5_readLine_1 (p := 18) rfl rfl
theorem dX5_readLine_55 : decode cX5_readLine 55 = .ok (.ireturn, 1) := zD172 whX5_readLine_1 (p := 21) rfl
theorem dX5_readLine_56 : decode cX5_readLine 56 = .ok (.aload_n 0, 1) := zD42 whX5_readLine_1 (p := 22) rfl
theorem dX5_readLine_57 : decode cX5_readLine 57 = .ok (.iconst 2, 1) := zD5 whX5_readLine_1 (p := 23) rfl
theorem dX5_readLine_58 : decode cX5_readLine 58 = .ok (.aload_n 0, 1) := zD42 whX5_readLine_1 (p := 24) rfl
theorem dX5_readLine_59 : decode cX5_readLine 59 = .ok (.getfield 77, 3) := zD180 whX5_readLine_1 (p := 25) rfl rfl
theorem dX5_readLine_62 : decode cX5_readLine 62 = .ok (.invokevirtual 84, 3) := zD182 whX5_readLine_1 (p := 28) rfl rfl
theorem dX5_readLine_65 : decode cX5_readLine 65 = .ok (.ireturn, 1) := zD172 whX5_readLine_1 (p := 31) rfl
def wlX5_readStart_0 : List Nat := [42, 180, 0, 60, 153, 0, 13, 42, 7, 42, 180, 0, 77, 182, 0, 84, 172, 42, 4, 181, 0, 60, 42, 4, 16, 9, 182, 0, 116, 154, 0, 5]
theorem whX5_readStart_0 : WLy cX5_readStart 0 wlX5_readStart_0 := by decide +kernel
theorem dX5_readStart_0 : decode cX5_readStart 0 = .ok (.aload_n 0, 1) := zD42 whX5_readStart_0 (p := 0) rfl
theorem dX5_readStart_1 : decode cX5_readStart 1 = .ok (.getfield 60, 3) := zD180 whX5_readStart_0 (p := 1) rfl rfl
theorem dX5_readStart_4 : decode cX5_readStart 4 = .ok (.ifCond .eq 13, 3) := zD153p whX5_readStart_0 (p := 4) (v := 13) rfl rfl rfl
theorem dX5_readStart_7 : decode cX5_readStart 7 = .ok (.aload_n 0, 1) := zD42 whX5_readStart_0 (p := 7) rfl
theorem dX5_readStart_8 : decode cX5_readStart 8 = .ok (.iconst 4, 1) := zD7 whX5_readStart_0 (p := 8) rfl
theorem dX5_readStart_9 : decode cX5_readStart 9 = .ok (.aload_n 0, 1) := zD42 whX5_readStart_0 (p := 9) rfl
theorem dX5_readStart_10 : decode cX5_readStart 10 = .ok (.getfield 77, 3) := zD180 whX5_readStart_0 (p := 10) rfl rfl
theorem dX5_readStart_13 : decode cX5_readStart 13 = .ok (.invokevirtual 84, 3) := zD182 whX5_readStart_0 (p := 13) rfl rfl
theorem dX5_readStart_16 : decode cX5_readStart 16 = .ok (.ireturn, 1) := zD172 whX5_readStart_0 (p := 16) rfl
theorem dX5_readStart_17 : decode cX5_readStart 17 = .ok (.aload_n 0, 1) := zD42 whX5_readStart_0 (p := 17) rfl
theorem dX5_readStart_18 : decode cX5_readStart 18 = .ok (.iconst 1, 1) := zD4 whX5_readStart_0 (p := 18) rfl
theorem dX5_readStart_19 : decode cX5_readStart 19 = .ok (.putfield 60, 3) := zD181 whX5_readStart_0 (p := 19) rfl rfl
theorem dX5_readStart_22 : decode cX5_readStart 22 = .ok (.aload_n 0, 1) := zD42 whX5_readStart_0 (p := 22) rfl
theorem dX5_readStart_23 : decode cX5_readStart 23 = .ok (.iconst 1, 1) := zD4 whX5_readStart_0 (p := 23) rfl
theorem dX5_readStart_24 : decode cX5_readStart 24 = .ok (.bipush 9, 2) := zD16p whX5_readStart_0 (p := 24) (v := 9) rfl rfl rfl
theorem dX5_readStart_26 : decode cX5_readStart 26 = .ok (.invokevirtual 116, 3) := zD182 whX5_readStart_0 (p := 26) rfl rfl
theorem dX5_readStart_29 : decode cX5_readStart 29 = .ok (.ifCond .ne 5, 3) := zD154p whX5_readStart_0 (p := 29) (v := 5) rfl rfl rfl
def wlX5_readStart_1 : List Nat := [3, 172, 42, 180, 0, 21, 42, 182, 0, 119, 181, 0, 123, 42, 182, 0, 126, 172]
theorem whX5_readStart_1 : WLy cX5_readStart 32 wlX5_readStart_1 := by decide +kernel
theorem dX5_readStart_32 : decode cX5_readStart 32 = .ok (.iconst 0, 1) := zD3 whX5_readStart_1 (p := 0) rfl
theorem dX5_readStart_33 : decode cX5_readStart 33 = .ok (.ireturn, 1) := zD172 whX5_readStart_1 (p := 1) rfl
theorem dX5_readStart_34 : decode cX5_readStart 34 = .ok (.aload_n 0, 1) := zD42 whX5_readStart_1 (p := 2) rfl
theorem dX5_readStart_35 : decode cX5_readStart 35 = .ok (.getfield 21, 3) := zD180 whX5_readStart_1 (p := 3) rfl rfl
theorem dX5_readStart_38 : decode cX5_readStart 38 = .ok (.aload_n 0, 1) := zD42 whX5_readStart_1 (p := 6) rfl
theorem dX5_readStart_39 : decode cX5_readStart 39 = .ok (.invokevirtual 119, 3) := zD182 whX5_readStart_1 (p := 7) rfl rfl
theorem dX5_readStart_42 : decode cX5_readStart 42 = .ok (.putfield 123, 3) := zD181 whX5_readStart_1 (p := 10) rfl rfl
theorem dX5_readStart_45 : decode cX5_readStart 45 = .ok (.aload_n 0, 1) := zD42 whX5_readStart_1 (p := 13) rfl
theorem dX5_readStart_46 : decode cX5_readStart 46 = .ok (.invokevirtual 126, 3) := zD182 whX5_readStart_1 (p := 14) rfl rfl
theorem dX5_readStart_49 : decode cX5_readStart 49 = .ok (.ireturn, 1) := zD172 whX5_readStart_1 (p := 17) rfl
def wlX5_readStretch_0 : List Nat := [42, 180, 0, 21, 180, 0, 129, 16, 10, 161, 0, 13, 42, 8, 42, 180, 0, 77, 182, 0, 84, 172, 42, 3, 16, 9, 182, 0, 116, 154, 0, 5]
theorem whX5_readStretch_0 : WLy cX5_readStretch 0 wlX5_readStretch_0 := by decide +kernel
theorem dX5_readStretch_0 : decode cX5_readStretch 0 = .ok (.aload_n 0, 1) := zD42 whX5_readStretch_0 (p := 0) rfl
theorem dX5_readStretch_1 : decode cX5_readStretch 1 = .ok (.getfield 21, 3) := zD180 whX5_readStretch_0 (p := 1) rfl rfl
theorem dX5_readStretch_4 : decode cX5_readStretch 4 = .ok (.getfield 129, 3) := zD180 whX5_readStretch_0 (p := 4) rfl rfl
theorem dX5_readStretch_7 : decode cX5_readStretch 7 = .ok (.bipush 10, 2) := zD16p whX5_readStretch_0 (p := 7) (v := 10) rfl rfl rfl
theorem dX5_readStretch_9 : decode cX5_readStretch 9 = .ok (.if_icmp .lt 13, 3) := zD161p whX5_readStretch_0 (p := 9) (v := 13) rfl rfl rfl
theorem dX5_readStretch_12 : decode cX5_readStretch 12 = .ok (.aload_n 0, 1) := zD42 whX5_readStretch_0 (p := 12) rfl
theorem dX5_readStretch_13 : decode cX5_readStretch 13 = .ok (.iconst 5, 1) := zD8 whX5_readStretch_0 (p := 13) rfl
theorem dX5_readStretch_14 : decode cX5_readStretch 14 = .ok (.aload_n 0, 1) := zD42 whX5_readStretch_0 (p := 14) rfl
theorem dX5_readStretch_15 : decode cX5_readStretch 15 = .ok (.getfield 77, 3) := zD180 whX5_readStretch_0 (p := 15) rfl rfl
theorem dX5_readStretch_18 : decode cX5_readStretch 18 = .ok (.invokevirtual 84, 3) := zD182 whX5_readStretch_0 (p := 18) rfl rfl
theorem dX5_readStretch_21 : decode cX5_readStretch 21 = .ok (.ireturn, 1) := zD172 whX5_readStretch_0 (p := 21) rfl
theorem dX5_readStretch_22 : decode cX5_readStretch 22 = .ok (.aload_n 0, 1) := zD42 whX5_readStretch_0 (p := 22) rfl
theorem dX5_readStretch_23 : decode cX5_readStretch 23 = .ok (.iconst 0, 1) := zD3 whX5_readStretch_0 (p := 23) rfl
theorem dX5_readStretch_24 : decode cX5_readStretch 24 = .ok (.bipush 9, 2) := zD16p whX5_readStretch_0 (p := 24) (v := 9) rfl rfl rfl
theorem dX5_readStretch_26 : decode cX5_readStretch 26 = .ok (.invokevirtual 116, 3) := zD182 whX5_readStretch_0 (p := 26) rfl rfl
theorem dX5_readStretch_29 : decode cX5_readStretch 29 = .ok (.ifCond .ne 5, 3) := zD154p whX5_readStretch_0 (p := 29) (v := 5) rfl rfl rfl
def wlX5_readStretch_1 : List Nat := [3, 172, 42, 182, 0, 119, 60, 42, 3, 16, 9, 182, 0, 116, 154, 0, 5, 3, 172, 42, 180, 0, 21, 27, 42, 182, 0, 119, 182, 0, 132, 42]
theorem whX5_readStretch_1 : WLy cX5_readStretch 32 wlX5_readStretch_1 := by decide +kernel
theorem dX5_readStretch_32 : decode cX5_readStretch 32 = .ok (.iconst 0, 1) := zD3 whX5_readStretch_1 (p := 0) rfl
theorem dX5_readStretch_33 : decode cX5_readStretch 33 = .ok (.ireturn, 1) := zD172 whX5_readStretch_1 (p := 1) rfl
theorem dX5_readStretch_34 : decode cX5_readStretch 34 = .ok (.aload_n 0, 1) := zD42 whX5_readStretch_1 (p := 2) rfl
theorem dX5_readStretch_35 : decode cX5_readStretch 35 = .ok (.invokevirtual 119, 3) := zD182 whX5_readStretch_1 (p := 3) rfl rfl
theorem dX5_readStretch_38 : decode cX5_readStretch 38 = .ok (.istore_n 1, 1) := zD60 whX5_readStretch_1 (p := 6) rfl
theorem dX5_readStretch_39 : decode cX5_readStretch 39 = .ok (.aload_n 0, 1) := zD42 whX5_readStretch_1 (p := 7) rfl
theorem dX5_readStretch_40 : decode cX5_readStretch 40 = .ok (.iconst 0, 1) := zD3 whX5_readStretch_1 (p := 8) rfl
theorem dX5_readStretch_41 : decode cX5_readStretch 41 = .ok (.bipush 9, 2) := zD16p whX5_readStretch_1 (p := 9) (v := 9) rfl rfl rfl
theorem dX5_readStretch_43 : decode cX5_readStretch 43 = .ok (.invokevirtual 116, 3) := zD182 whX5_readStretch_1 (p := 11) rfl rfl
theorem dX5_readStretch_46 : decode cX5_readStretch 46 = .ok (.ifCond .ne 5, 3) := zD154p whX5_readStretch_1 (p := 14) (v := 5) rfl rfl rfl
theorem dX5_readStretch_49 : decode cX5_readStretch 49 = .ok (.iconst 0, 1) := zD3 whX5_readStretch_1 (p := 17) rfl
theorem dX5_readStretch_50 : decode cX5_readStretch 50 = .ok (.ireturn, 1) := zD172 whX5_readStretch_1 (p := 18) rfl
theorem dX5_readStretch_51 : decode cX5_readStretch 51 = .ok (.aload_n 0, 1) := zD42 whX5_readStretch_1 (p := 19) rfl
theorem dX5_readStretch_52 : decode cX5_readStretch 52 = .ok (.getfield 21, 3) := zD180 whX5_readStretch_1 (p := 20) rfl rfl
theorem dX5_readStretch_55 : decode cX5_readStretch 55 = .ok (.iload_n 1, 1) := zD27 whX5_readStretch_1 (p := 23) rfl
theorem dX5_readStretch_56 : decode cX5_readStretch 56 = .ok (.aload_n 0, 1) := zD42 whX5_readStretch_1 (p := 24) rfl
theorem dX5_readStretch_57 : decode cX5_readStretch 57 = .ok (.invokevirtual 119, 3) := zD182 whX5_readStretch_1 (p := 25) rfl rfl
theorem dX5_readStretch_60 : decode cX5_readStretch 60 = .ok (.invokevirtual 132, 3) := zD182 whX5_readStretch_1 (p := 28) rfl rfl
theorem dX5_readStretch_63 : decode cX5_readStretch 63 = .ok (.aload_n 0, 1) := zD42 whX5_readStretch_1 (p := 31) rfl
def wlX5_readStretch_2 : List Nat := [182, 0, 126, 172]
theorem whX5_readStretch_2 : WLy cX5_readStretch 64 wlX5_readStretch_2 := by decide +kernel
theorem dX5_readStretch_64 : decode cX5_readStretch 64 = .ok (.invokevirtual 126, 3) := zD182 whX5_readStretch_2 (p := 0) rfl rfl
theorem dX5_readStretch_67 : decode cX5_readStretch 67 = .ok (.ireturn, 1) := zD172 whX5_readStretch_2 (p := 3) rfl
def wlX5_readBearer_0 : List Nat := [42, 180, 0, 21, 180, 0, 136, 16, 6, 161, 0, 13, 42, 8, 42, 180, 0, 77, 182, 0, 84, 172, 42, 182, 0, 28, 154, 0, 5, 3, 172, 42]
theorem whX5_readBearer_0 : WLy cX5_readBearer 0 wlX5_readBearer_0 := by decide +kernel
theorem dX5_readBearer_0 : decode cX5_readBearer 0 = .ok (.aload_n 0, 1) := zD42 whX5_readBearer_0 (p := 0) rfl
theorem dX5_readBearer_1 : decode cX5_readBearer 1 = .ok (.getfield 21, 3) := zD180 whX5_readBearer_0 (p := 1) rfl rfl
theorem dX5_readBearer_4 : decode cX5_readBearer 4 = .ok (.getfield 136, 3) := zD180 whX5_readBearer_0 (p := 4) rfl rfl
theorem dX5_readBearer_7 : decode cX5_readBearer 7 = .ok (.bipush 6, 2) := zD16p whX5_readBearer_0 (p := 7) (v := 6) rfl rfl rfl
theorem dX5_readBearer_9 : decode cX5_readBearer 9 = .ok (.if_icmp .lt 13, 3) := zD161p whX5_readBearer_0 (p := 9) (v := 13) rfl rfl rfl
theorem dX5_readBearer_12 : decode cX5_readBearer 12 = .ok (.aload_n 0, 1) := zD42 whX5_readBearer_0 (p := 12) rfl
theorem dX5_readBearer_13 : decode cX5_readBearer 13 = .ok (.iconst 5, 1) := zD8 whX5_readBearer_0 (p := 13) rfl
theorem dX5_readBearer_14 : decode cX5_readBearer 14 = .ok (.aload_n 0, 1) := zD42 whX5_readBearer_0 (p := 14) rfl
theorem dX5_readBearer_15 : decode cX5_readBearer 15 = .ok (.getfield 77, 3) := zD180 whX5_readBearer_0 (p := 15) rfl rfl
theorem dX5_readBearer_18 : decode cX5_readBearer 18 = .ok (.invokevirtual 84, 3) := zD182 whX5_readBearer_0 (p := 18) rfl rfl
theorem dX5_readBearer_21 : decode cX5_readBearer 21 = .ok (.ireturn, 1) := zD172 whX5_readBearer_0 (p := 21) rfl
theorem dX5_readBearer_22 : decode cX5_readBearer 22 = .ok (.aload_n 0, 1) := zD42 whX5_readBearer_0 (p := 22) rfl
theorem dX5_readBearer_23 : decode cX5_readBearer 23 = .ok (.invokevirtual 28, 3) := zD182 whX5_readBearer_0 (p := 23) rfl rfl
theorem dX5_readBearer_26 : decode cX5_readBearer 26 = .ok (.ifCond .ne 5, 3) := zD154p whX5_readBearer_0 (p := 26) (v := 5) rfl rfl rfl
theorem dX5_readBearer_29 : decode cX5_readBearer 29 = .ok (.iconst 0, 1) := zD3 whX5_readBearer_0 (p := 29) rfl
theorem dX5_readBearer_30 : decode cX5_readBearer 30 = .ok (.ireturn, 1) := zD172 whX5_readBearer_0 (p := 30) rfl
theorem dX5_readBearer_31 : decode cX5_readBearer 31 = .ok (.aload_n 0, 1) := zD42 whX5_readBearer_0 (p := 31) rfl
def wlX5_readBearer_1 : List Nat := [182, 0, 139, 60, 27, 16, 252, 160, 0, 13, 42, 5, 42, 180, 0, 77, 182, 0, 84, 172, 42, 3, 16, 9, 182, 0, 116, 154, 0, 5, 3, 172]
theorem whX5_readBearer_1 : WLy cX5_readBearer 32 wlX5_readBearer_1 := by decide +kernel
theorem dX5_readBearer_32 : decode cX5_readBearer 32 = .ok (.invokevirtual 139, 3) := zD182 whX5_readBearer_1 (p := 0) rfl rfl
theorem dX5_readBearer_35 : decode cX5_readBearer 35 = .ok (.istore_n 1, 1) := zD60 whX5_readBearer_1 (p := 3) rfl
theorem dX5_readBearer_36 : decode cX5_readBearer 36 = .ok (.iload_n 1, 1) := zD27 whX5_readBearer_1 (p := 4) rfl
theorem dX5_readBearer_37 : decode cX5_readBearer 37 = .ok (.bipush (-4), 2) := zD16n whX5_readBearer_1 (p := 5) (v := 4) rfl rfl rfl
theorem dX5_readBearer_39 : decode cX5_readBearer 39 = .ok (.if_icmp .ne 13, 3) := zD160p whX5_readBearer_1 (p := 7) (v := 13) rfl rfl rfl
theorem dX5_readBearer_42 : decode cX5_readBearer 42 = .ok (.aload_n 0, 1) := zD42 whX5_readBearer_1 (p := 10) rfl
theorem dX5_readBearer_43 : decode cX5_readBearer 43 = .ok (.iconst 2, 1) := zD5 whX5_readBearer_1 (p := 11) rfl
theorem dX5_readBearer_44 : decode cX5_readBearer 44 = .ok (.aload_n 0, 1) := zD42 whX5_readBearer_1 (p := 12) rfl
theorem dX5_readBearer_45 : decode cX5_readBearer 45 = .ok (.getfield 77, 3) := zD180 whX5_readBearer_1 (p := 13) rfl rfl
theorem dX5_readBearer_48 : decode cX5_readBearer 48 = .ok (.invokevirtual 84, 3) := zD182 whX5_readBearer_1 (p := 16) rfl rfl
theorem dX5_readBearer_51 : decode cX5_readBearer 51 = .ok (.ireturn, 1) := zD172 whX5_readBearer_1 (p := 19) rfl
theorem dX5_readBearer_52 : decode cX5_readBearer 52 = .ok (.aload_n 0, 1) := zD42 whX5_readBearer_1 (p := 20) rfl
theorem dX5_readBearer_53 : decode cX5_readBearer 53 = .ok (.iconst 0, 1) := zD3 whX5_readBearer_1 (p := 21) rfl
theorem dX5_readBearer_54 : decode cX5_readBearer 54 = .ok (.bipush 9, 2) := zD16p whX5_readBearer_1 (p := 22) (v := 9) rfl rfl rfl
theorem dX5_readBearer_56 : decode cX5_readBearer 56 = .ok (.invokevirtual 116, 3) := zD182 whX5_readBearer_1 (p := 24) rfl rfl
theorem dX5_readBearer_59 : decode cX5_readBearer 59 = .ok (.ifCond .ne 5, 3) := zD154p whX5_readBearer_1 (p := 27) (v := 5) rfl rfl rfl
theorem dX5_readBearer_62 : decode cX5_readBearer 62 = .ok (.iconst 0, 1) := zD3 whX5_readBearer_1 (p := 30) rfl
theorem dX5_readBearer_63 : decode cX5_readBearer 63 = .ok (.ireturn, 1) := zD172 whX5_readBearer_1 (p := 31) rfl
def wlX5_readBearer_2 : List Nat := [42, 182, 0, 119, 61, 42, 3, 16, 9, 182, 0, 116, 154, 0, 5, 3, 172, 42, 180, 0, 21, 27, 28, 42, 182, 0, 119, 182, 0, 142, 42, 182, 0, 126]
theorem whX5_readBearer_2 : WLy cX5_readBearer 64 wlX5_readBearer_2 := by decide +kernel
theorem dX5_readBearer_64 : decode cX5_readBearer 64 = .ok (.aload_n 0, 1) := zD42 whX5_readBearer_2 (p := 0) rfl
theorem dX5_readBearer_65 : decode cX5_readBearer 65 = .ok (.invokevirtual 119, 3) := zD182 whX5_readBearer_2 (p := 1) rfl rfl
theorem dX5_readBearer_68 : decode cX5_readBearer 68 = .ok (.istore_n 2, 1) := zD61 whX5_readBearer_2 (p := 4) rfl
theorem dX5_readBearer_69 : decode cX5_readBearer 69 = .ok (.aload_n 0, 1) := zD42 whX5_readBearer_2 (p := 5) rfl
theorem dX5_readBearer_70 : decode cX5_readBearer 70 = .ok (.iconst 0, 1) := zD3 whX5_readBearer_2 (p := 6) rfl
theorem dX5_readBearer_71 : decode cX5_readBearer 71 = .ok (.bipush 9, 2) := zD16p whX5_readBearer_2 (p := 7) (v := 9) rfl rfl rfl
theorem dX5_readBearer_73 : decode cX5_readBearer 73 = .ok (.invokevirtual 116, 3) := zD182 whX5_readBearer_2 (p := 9) rfl rfl
theorem dX5_readBearer_76 : decode cX5_readBearer 76 = .ok (.ifCond .ne 5, 3) := zD154p whX5_readBearer_2 (p := 12) (v := 5) rfl rfl rfl
theorem dX5_readBearer_79 : decode cX5_readBearer 79 = .ok (.iconst 0, 1) := zD3 whX5_readBearer_2 (p := 15) rfl
theorem dX5_readBearer_80 : decode cX5_readBearer 80 = .ok (.ireturn, 1) := zD172 whX5_readBearer_2 (p := 16) rfl
theorem dX5_readBearer_81 : decode cX5_readBearer 81 = .ok (.aload_n 0, 1) := zD42 whX5_readBearer_2 (p := 17) rfl
theorem dX5_readBearer_82 : decode cX5_readBearer 82 = .ok (.getfield 21, 3) := zD180 whX5_readBearer_2 (p := 18) rfl rfl
theorem dX5_readBearer_85 : decode cX5_readBearer 85 = .ok (.iload_n 1, 1) := zD27 whX5_readBearer_2 (p := 21) rfl
theorem dX5_readBearer_86 : decode cX5_readBearer 86 = .ok (.iload_n 2, 1) := zD28 whX5_readBearer_2 (p := 22) rfl
theorem dX5_readBearer_87 : decode cX5_readBearer 87 = .ok (.aload_n 0, 1) := zD42 whX5_readBearer_2 (p := 23) rfl
theorem dX5_readBearer_88 : decode cX5_readBearer 88 = .ok (.invokevirtual 119, 3) := zD182 whX5_readBearer_2 (p := 24) rfl rfl
theorem dX5_readBearer_91 : decode cX5_readBearer 91 = .ok (.invokevirtual 142, 3) := zD182 whX5_readBearer_2 (p := 27) rfl rfl
theorem dX5_readBearer_94 : decode cX5_readBearer 94 = .ok (.aload_n 0, 1) := zD42 whX5_readBearer_2 (p := 30) rfl
theorem dX5_readBearer_95 : decode cX5_readBearer 95 = .ok (.invokevirtual 126, 3) := zD182 whX5_readBearer_2 (p := 31) rfl rfl
def wlX5_readBearer_3 : List Nat := [172]
theorem whX5_readBearer_3 : WLy cX5_readBearer 98 wlX5_readBearer_3 := by decide +kernel
theorem dX5_readBearer_98 : decode cX5_readBearer 98 = .ok (.ireturn, 1) := zD172 whX5_readBearer_3 (p := 0) rfl
def wlX5_readCarry_0 : List Nat := [42, 3, 16, 9, 182, 0, 116, 154, 0, 5, 3, 172, 42, 182, 0, 119, 60, 42, 180, 0, 64, 27, 122, 4, 126, 4, 160, 0, 13, 42, 7, 42]
theorem whX5_readCarry_0 : WLy cX5_readCarry 0 wlX5_readCarry_0 := by decide +kernel
theorem dX5_readCarry_0 : decode cX5_readCarry 0 = .ok (.aload_n 0, 1) := zD42 whX5_readCarry_0 (p := 0) rfl
theorem dX5_readCarry_1 : decode cX5_readCarry 1 = .ok (.iconst 0, 1) := zD3 whX5_readCarry_0 (p := 1) rfl
theorem dX5_readCarry_2 : decode cX5_readCarry 2 = .ok (.bipush 9, 2) := zD16p whX5_readCarry_0 (p := 2) (v := 9) rfl rfl rfl
theorem dX5_readCarry_4 : decode cX5_readCarry 4 = .ok (.invokevirtual 116, 3) := zD182 whX5_readCarry_0 (p := 4) rfl rfl
theorem dX5_readCarry_7 : decode cX5_readCarry 7 = .ok (.ifCond .ne 5, 3) := zD154p whX5_readCarry_0 (p := 7) (v := 5) rfl rfl rfl
theorem dX5_readCarry_10 : decode cX5_readCarry 10 = .ok (.iconst 0, 1) := zD3 whX5_readCarry_0 (p := 10) rfl
theorem dX5_readCarry_11 : decode cX5_readCarry 11 = .ok (.ireturn, 1) := zD172 whX5_readCarry_0 (p := 11) rfl
theorem dX5_readCarry_12 : decode cX5_readCarry 12 = .ok (.aload_n 0, 1) := zD42 whX5_readCarry_0 (p := 12) rfl
theorem dX5_readCarry_13 : decode cX5_readCarry 13 = .ok (.invokevirtual 119, 3) := zD182 whX5_readCarry_0 (p := 13) rfl rfl
theorem dX5_readCarry_16 : decode cX5_readCarry 16 = .ok (.istore_n 1, 1) := zD60 whX5_readCarry_0 (p := 16) rfl
theorem dX5_readCarry_17 : decode cX5_readCarry 17 = .ok (.aload_n 0, 1) := zD42 whX5_readCarry_0 (p := 17) rfl
theorem dX5_readCarry_18 : decode cX5_readCarry 18 = .ok (.getfield 64, 3) := zD180 whX5_readCarry_0 (p := 18) rfl rfl
theorem dX5_readCarry_21 : decode cX5_readCarry 21 = .ok (.iload_n 1, 1) := zD27 whX5_readCarry_0 (p := 21) rfl
theorem dX5_readCarry_22 : decode cX5_readCarry 22 = .ok (.ishr, 1) := zD122 whX5_readCarry_0 (p := 22) rfl
theorem dX5_readCarry_23 : decode cX5_readCarry 23 = .ok (.iconst 1, 1) := zD4 whX5_readCarry_0 (p := 23) rfl
theorem dX5_readCarry_24 : decode cX5_readCarry 24 = .ok (.iand, 1) := zD126 whX5_readCarry_0 (p := 24) rfl
theorem dX5_readCarry_25 : decode cX5_readCarry 25 = .ok (.iconst 1, 1) := zD4 whX5_readCarry_0 (p := 25) rfl
theorem dX5_readCarry_26 : decode cX5_readCarry 26 = .ok (.if_icmp .ne 13, 3) := zD160p whX5_readCarry_0 (p := 26) (v := 13) rfl rfl rfl
theorem dX5_readCarry_29 : decode cX5_readCarry 29 = .ok (.aload_n 0, 1) := zD42 whX5_readCarry_0 (p := 29) rfl
theorem dX5_readCarry_30 : decode cX5_readCarry 30 = .ok (.iconst 4, 1) := zD7 whX5_readCarry_0 (p := 30) rfl
theorem dX5_readCarry_31 : decode cX5_readCarry 31 = .ok (.aload_n 0, 1) := zD42 whX5_readCarry_0 (p := 31) rfl
def wlX5_readCarry_1 : List Nat := [180, 0, 77, 182, 0, 84, 172, 42, 89, 180, 0, 64, 4, 27, 120, 128, 181, 0, 64, 42, 3, 8, 182, 0, 116, 154, 0, 5, 3, 172, 42, 182, 0, 119]
theorem whX5_readCarry_1 : WLy cX5_readCarry 32 wlX5_readCarry_1 := by decide +kernel
theorem dX5_readCarry_32 : decode cX5_readCarry 32 = .ok (.getfield 77, 3) := zD180 whX5_readCarry_1 (p := 0) rfl rfl
theorem dX5_readCarry_35 : decode cX5_readCarry 35 = .ok (.invokevirtual 84, 3) := zD182 whX5_readCarry_1 (p := 3) rfl rfl
theorem dX5_readCarry_38 : decode cX5_readCarry 38 = .ok (.ireturn, 1) := zD172 whX5_readCarry_1 (p := 6) rfl
theorem dX5_readCarry_39 : decode cX5_readCarry 39 = .ok (.aload_n 0, 1) := zD42 whX5_readCarry_1 (p := 7) rfl
theorem dX5_readCarry_40 : decode cX5_readCarry 40 = .ok (.dup, 1) := zD89 whX5_readCarry_1 (p := 8) rfl
theorem dX5_readCarry_41 : decode cX5_readCarry 41 = .ok (.getfield 64, 3) := zD180 whX5_readCarry_1 (p := 9) rfl rfl
theorem dX5_readCarry_44 : decode cX5_readCarry 44 = .ok (.iconst 1, 1) := zD4 whX5_readCarry_1 (p := 12) rfl
theorem dX5_readCarry_45 : decode cX5_readCarry 45 = .ok (.iload_n 1, 1) := zD27 whX5_readCarry_1 (p := 13) rfl
theorem dX5_readCarry_46 : decode cX5_readCarry 46 = .ok (.ishl, 1) := zD120 whX5_readCarry_1 (p := 14) rfl
theorem dX5_readCarry_47 : decode cX5_readCarry 47 = .ok (.ior, 1) := zD128 whX5_readCarry_1 (p := 15) rfl
theorem dX5_readCarry_48 : decode cX5_readCarry 48 = .ok (.putfield 64, 3) := zD181 whX5_readCarry_1 (p := 16) rfl rfl
theorem dX5_readCarry_51 : decode cX5_readCarry 51 = .ok (.aload_n 0, 1) := zD42 whX5_readCarry_1 (p := 19) rfl
theorem dX5_readCarry_52 : decode cX5_readCarry 52 = .ok (.iconst 0, 1) := zD3 whX5_readCarry_1 (p := 20) rfl
theorem dX5_readCarry_53 : decode cX5_readCarry 53 = .ok (.iconst 5, 1) := zD8 whX5_readCarry_1 (p := 21) rfl
theorem dX5_readCarry_54 : decode cX5_readCarry 54 = .ok (.invokevirtual 116, 3) := zD182 whX5_readCarry_1 (p := 22) rfl rfl
theorem dX5_readCarry_57 : decode cX5_readCarry 57 = .ok (.ifCond .ne 5, 3) := zD154p whX5_readCarry_1 (p := 25) (v := 5) rfl rfl rfl
theorem dX5_readCarry_60 : decode cX5_readCarry 60 = .ok (.iconst 0, 1) := zD3 whX5_readCarry_1 (p := 28) rfl
theorem dX5_readCarry_61 : decode cX5_readCarry 61 = .ok (.ireturn, 1) := zD172 whX5_readCarry_1 (p := 29) rfl
theorem dX5_readCarry_62 : decode cX5_readCarry 62 = .ok (.aload_n 0, 1) := zD42 whX5_readCarry_1 (p := 30) rfl
theorem dX5_readCarry_63 : decode cX5_readCarry 63 = .ok (.invokevirtual 119, 3) := zD182 whX5_readCarry_1 (p := 31) rfl rfl
def wlX5_readCarry_2 : List Nat := [61, 27, 155, 0, 19, 27, 16, 10, 162, 0, 13, 42, 180, 0, 21, 180, 0, 146, 27, 28, 79, 42, 42, 180, 0, 67, 27, 184, 0, 150, 181, 0, 67]
theorem whX5_readCarry_2 : WLy cX5_readCarry 66 wlX5_readCarry_2 := by decide +kernel
theorem dX5_readCarry_66 : decode cX5_readCarry 66 = .ok (.istore_n 2, 1) := zD61 whX5_readCarry_2 (p := 0) rfl
theorem dX5_readCarry_67 : decode cX5_readCarry 67 = .ok (.iload_n 1, 1) := zD27 whX5_readCarry_2 (p := 1) rfl
theorem dX5_readCarry_68 : decode cX5_readCarry 68 = .ok (.ifCond .lt 19, 3) := zD155p whX5_readCarry_2 (p := 2) (v := 19) rfl rfl rfl
theorem dX5_readCarry_71 : decode cX5_readCarry 71 = .ok (.iload_n 1, 1) := zD27 whX5_readCarry_2 (p := 5) rfl
theorem dX5_readCarry_72 : decode cX5_readCarry 72 = .ok (.bipush 10, 2) := zD16p whX5_readCarry_2 (p := 6) (v := 10) rfl rfl rfl
theorem dX5_readCarry_74 : decode cX5_readCarry 74 = .ok (.if_icmp .ge 13, 3) := zD162p whX5_readCarry_2 (p := 8) (v := 13) rfl rfl rfl
theorem dX5_readCarry_77 : decode cX5_readCarry 77 = .ok (.aload_n 0, 1) := zD42 whX5_readCarry_2 (p := 11) rfl
theorem dX5_readCarry_78 : decode cX5_readCarry 78 = .ok (.getfield 21, 3) := zD180 whX5_readCarry_2 (p := 12) rfl rfl
theorem dX5_readCarry_81 : decode cX5_readCarry 81 = .ok (.getfield 146, 3) := zD180 whX5_readCarry_2 (p := 15) rfl rfl
theorem dX5_readCarry_84 : decode cX5_readCarry 84 = .ok (.iload_n 1, 1) := zD27 whX5_readCarry_2 (p := 18) rfl
theorem dX5_readCarry_85 : decode cX5_readCarry 85 = .ok (.iload_n 2, 1) := zD28 whX5_readCarry_2 (p := 19) rfl
theorem dX5_readCarry_86 : decode cX5_readCarry 86 = .ok (.iastore, 1) := zD79 whX5_readCarry_2 (p := 20) rfl
theorem dX5_readCarry_87 : decode cX5_readCarry 87 = .ok (.aload_n 0, 1) := zD42 whX5_readCarry_2 (p := 21) rfl
theorem dX5_readCarry_88 : decode cX5_readCarry 88 = .ok (.aload_n 0, 1) := zD42 whX5_readCarry_2 (p := 22) rfl
theorem dX5_readCarry_89 : decode cX5_readCarry 89 = .ok (.getfield 67, 3) := zD180 whX5_readCarry_2 (p := 23) rfl rfl
theorem dX5_readCarry_92 : decode cX5_readCarry 92 = .ok (.iload_n 1, 1) := zD27 whX5_readCarry_2 (p := 26) rfl
theorem dX5_readCarry_93 : decode cX5_readCarry 93 = .ok (.invokestatic 150, 3) := zD184 whX5_readCarry_2 (p := 27) rfl rfl
theorem dX5_readCarry_96 : decode cX5_readCarry 96 = .ok (.putfield 67, 3) := zD181 whX5_readCarry_2 (p := 30) rfl rfl
def wlX5_readCarry_3 : List Nat := [42, 42, 180, 0, 70, 28, 184, 0, 150, 181, 0, 70, 42, 182, 0, 126, 172]
theorem whX5_readCarry_3 : WLy cX5_readCarry 99 wlX5_readCarry_3 := by decide +kernel
theorem dX5_readCarry_99 : decode cX5_readCarry 99 = .ok (.aload_n 0, 1) := zD42 whX5_readCarry_3 (p := 0) rfl
theorem dX5_readCarry_100 : decode cX5_readCarry 100 = .ok (.aload_n 0, 1) := zD42 whX5_readCarry_3 (p := 1) rfl
theorem dX5_readCarry_101 : decode cX5_readCarry 101 = .ok (.getfield 70, 3) := zD180 whX5_readCarry_3 (p := 2) rfl rfl
theorem dX5_readCarry_104 : decode cX5_readCarry 104 = .ok (.iload_n 2, 1) := zD28 whX5_readCarry_3 (p := 5) rfl
theorem dX5_readCarry_105 : decode cX5_readCarry 105 = .ok (.invokestatic 150, 3) := zD184 whX5_readCarry_3 (p := 6) rfl rfl
theorem dX5_readCarry_108 : decode cX5_readCarry 108 = .ok (.putfield 70, 3) := zD181 whX5_readCarry_3 (p := 9) rfl rfl
theorem dX5_readCarry_111 : decode cX5_readCarry 111 = .ok (.aload_n 0, 1) := zD42 whX5_readCarry_3 (p := 12) rfl
theorem dX5_readCarry_112 : decode cX5_readCarry 112 = .ok (.invokevirtual 126, 3) := zD182 whX5_readCarry_3 (p := 13) rfl rfl
theorem dX5_readCarry_115 : decode cX5_readCarry 115 = .ok (.ireturn, 1) := zD172 whX5_readCarry_3 (p := 16) rfl
def wlX5_kind_0 : List Nat := [42, 18, 156, 182, 0, 94, 153, 0, 5, 3, 172, 42, 18, 158, 182, 0, 94, 153, 0, 5, 4, 172, 42, 18, 160, 182, 0, 94, 153, 0, 5, 5]
theorem whX5_kind_0 : WLy cX5_kind 0 wlX5_kind_0 := by decide +kernel
theorem dX5_kind_0 : decode cX5_kind 0 = .ok (.aload_n 0, 1) := zD42 whX5_kind_0 (p := 0) rfl
theorem dX5_kind_1 : decode cX5_kind 1 = .ok (.ldc 156, 2) := zD18 whX5_kind_0 (p := 1) rfl
theorem dX5_kind_3 : decode cX5_kind 3 = .ok (.invokevirtual 94, 3) := zD182 whX5_kind_0 (p := 3) rfl rfl
theorem dX5_kind_6 : decode cX5_kind 6 = .ok (.ifCond .eq 5, 3) := zD153p whX5_kind_0 (p := 6) (v := 5) rfl rfl rfl
theorem dX5_kind_9 : decode cX5_kind 9 = .ok (.iconst 0, 1) := zD3 whX5_kind_0 (p := 9) rfl
theorem dX5_kind_10 : decode cX5_kind 10 = .ok (.ireturn, 1) := zD172 whX5_kind_0 (p := 10) rfl
theorem dX5_kind_11 : decode cX5_kind 11 = .ok (.aload_n 0, 1) := zD42 whX5_kind_0 (p := 11) rfl
theorem dX5_kind_12 : decode cX5_kind 12 = .ok (.ldc 158, 2) := zD18 whX5_kind_0 (p := 12) rfl
theorem dX5_kind_14 : decode cX5_kind 14 = .ok (.invokevirtual 94, 3) := zD182 whX5_kind_0 (p := 14) rfl rfl
theorem dX5_kind_17 : decode cX5_kind 17 = .ok (.ifCond .eq 5, 3) := zD153p whX5_kind_0 (p := 17) (v := 5) rfl rfl rfl
theorem dX5_kind_20 : decode cX5_kind 20 = .ok (.iconst 1, 1) := zD4 whX5_kind_0 (p := 20) rfl
theorem dX5_kind_21 : decode cX5_kind 21 = .ok (.ireturn, 1) := zD172 whX5_kind_0 (p := 21) rfl
theorem dX5_kind_22 : decode cX5_kind 22 = .ok (.aload_n 0, 1) := zD42 whX5_kind_0 (p := 22) rfl
theorem dX5_kind_23 : decode cX5_kind 23 = .ok (.ldc 160, 2) := zD18 whX5_kind_0 (p := 23) rfl
theorem dX5_kind_25 : decode cX5_kind 25 = .ok (.invokevirtual 94, 3) := zD182 whX5_kind_0 (p := 25) rfl rfl
theorem dX5_kind_28 : decode cX5_kind 28 = .ok (.ifCond .eq 5, 3) := zD153p whX5_kind_0 (p := 28) (v := 5) rfl rfl rfl
theorem dX5_kind_31 : decode cX5_kind 31 = .ok (.iconst 2, 1) := zD5 whX5_kind_0 (p := 31) rfl
def wlX5_kind_1 : List Nat := [172, 42, 18, 162, 182, 0, 94, 153, 0, 5, 6, 172, 42, 18, 164, 182, 0, 94, 153, 0, 5, 7, 172, 42, 18, 166, 182, 0, 94, 153, 0, 7]
theorem whX5_kind_1 : WLy cX5_kind 32 wlX5_kind_1 := by decide +kernel
theorem dX5_kind_32 : decode cX5_kind 32 = .ok (.ireturn, 1) := zD172 whX5_kind_1 (p := 0) rfl
theorem dX5_kind_33 : decode cX5_kind 33 = .ok (.aload_n 0, 1) := zD42 whX5_kind_1 (p := 1) rfl
theorem dX5_kind_34 : decode cX5_kind 34 = .ok (.ldc 162, 2) := zD18 whX5_kind_1 (p := 2) rfl
theorem dX5_kind_36 : decode cX5_kind 36 = .ok (.invokevirtual 94, 3) := zD182 whX5_kind_1 (p := 4) rfl rfl
theorem dX5_kind_39 : decode cX5_kind 39 = .ok (.ifCond .eq 5, 3) := zD153p whX5_kind_1 (p := 7) (v := 5) rfl rfl rfl
theorem dX5_kind_42 : decode cX5_kind 42 = .ok (.iconst 3, 1) := zD6 whX5_kind_1 (p := 10) rfl
theorem dX5_kind_43 : decode cX5_kind 43 = .ok (.ireturn, 1) := zD172 whX5_kind_1 (p := 11) rfl
theorem dX5_kind_44 : decode cX5_kind 44 = .ok (.aload_n 0, 1) := zD42 whX5_kind_1 (p := 12) rfl
theorem dX5_kind_45 : decode cX5_kind 45 = .ok (.ldc 164, 2) := zD18 whX5_kind_1 (p := 13) rfl
theorem dX5_kind_47 : decode cX5_kind 47 = .ok (.invokevirtual 94, 3) := zD182 whX5_kind_1 (p := 15) rfl rfl
theorem dX5_kind_50 : decode cX5_kind 50 = .ok (.ifCond .eq 5, 3) := zD153p whX5_kind_1 (p := 18) (v := 5) rfl rfl rfl
theorem dX5_kind_53 : decode cX5_kind 53 = .ok (.iconst 4, 1) := zD7 whX5_kind_1 (p := 21) rfl
theorem dX5_kind_54 : decode cX5_kind 54 = .ok (.ireturn, 1) := zD172 whX5_kind_1 (p := 22) rfl
theorem dX5_kind_55 : decode cX5_kind 55 = .ok (.aload_n 0, 1) := zD42 whX5_kind_1 (p := 23) rfl
theorem dX5_kind_56 : decode cX5_kind 56 = .ok (.ldc 166, 2) := zD18 whX5_kind_1 (p := 24) rfl
theorem dX5_kind_58 : decode cX5_kind 58 = .ok (.invokevirtual 94, 3) := zD182 whX5_kind_1 (p := 26) rfl rfl
theorem dX5_kind_61 : decode cX5_kind 61 = .ok (.ifCond .eq 7, 3) := zD153p whX5_kind_1 (p := 29) (v := 7) rfl rfl rfl
def wlX5_kind_2 : List Nat := [8, 167, 0, 5, 16, 252, 172]
theorem whX5_kind_2 : WLy cX5_kind 64 wlX5_kind_2 := by decide +kernel
theorem dX5_kind_64 : decode cX5_kind 64 = .ok (.iconst 5, 1) := zD8 whX5_kind_2 (p := 0) rfl
theorem dX5_kind_65 : decode cX5_kind 65 = .ok (.goto 5, 3) := zD167p whX5_kind_2 (p := 1) (v := 5) rfl rfl rfl
theorem dX5_kind_68 : decode cX5_kind 68 = .ok (.bipush (-4), 2) := zD16n whX5_kind_2 (p := 4) (v := 4) rfl rfl rfl
theorem dX5_kind_70 : decode cX5_kind 70 = .ok (.ireturn, 1) := zD172 whX5_kind_2 (p := 6) rfl
def wlX5_nextNumber_0 : List Nat := [42, 182, 0, 28, 154, 0, 5, 3, 172, 42, 180, 0, 39, 5, 159, 0, 13, 42, 5, 42, 180, 0, 77, 182, 0, 84, 172, 42, 182, 0, 119, 62]
theorem whX5_nextNumber_0 : WLy cX5_nextNumber 0 wlX5_nextNumber_0 := by decide +kernel
theorem dX5_nextNumber_0 : decode cX5_nextNumber 0 = .ok (.aload_n 0, 1) := zD42 whX5_nextNumber_0 (p := 0) rfl
theorem dX5_nextNumber_1 : decode cX5_nextNumber 1 = .ok (.invokevirtual 28, 3) := zD182 whX5_nextNumber_0 (p := 1) rfl rfl
theorem dX5_nextNumber_4 : decode cX5_nextNumber 4 = .ok (.ifCond .ne 5, 3) := zD154p whX5_nextNumber_0 (p := 4) (v := 5) rfl rfl rfl
theorem dX5_nextNumber_7 : decode cX5_nextNumber 7 = .ok (.iconst 0, 1) := zD3 whX5_nextNumber_0 (p := 7) rfl
theorem dX5_nextNumber_8 : decode cX5_nextNumber 8 = .ok (.ireturn, 1) := zD172 whX5_nextNumber_0 (p := 8) rfl
theorem dX5_nextNumber_9 : decode cX5_nextNumber 9 = .ok (.aload_n 0, 1) := zD42 whX5_nextNumber_0 (p := 9) rfl
theorem dX5_nextNumber_10 : decode cX5_nextNumber 10 = .ok (.getfield 39, 3) := zD180 whX5_nextNumber_0 (p := 10) rfl rfl
theorem dX5_nextNumber_13 : decode cX5_nextNumber 13 = .ok (.iconst 2, 1) := zD5 whX5_nextNumber_0 (p := 13) rfl
theorem dX5_nextNumber_14 : decode cX5_nextNumber 14 = .ok (.if_icmp .eq 13, 3) := zD159p whX5_nextNumber_0 (p := 14) (v := 13) rfl rfl rfl
theorem dX5_nextNumber_17 : decode cX5_nextNumber 17 = .ok (.aload_n 0, 1) := zD42 whX5_nextNumber_0 (p := 17) rfl
theorem dX5_nextNumber_18 : decode cX5_nextNumber 18 = .ok (.iconst 2, 1) := zD5 whX5_nextNumber_0 (p := 18) rfl
theorem dX5_nextNumber_19 : decode cX5_nextNumber 19 = .ok (.aload_n 0, 1) := zD42 whX5_nextNumber_0 (p := 19) rfl
theorem dX5_nextNumber_20 : decode cX5_nextNumber 20 = .ok (.getfield 77, 3) := zD180 whX5_nextNumber_0 (p := 20) rfl rfl
theorem dX5_nextNumber_23 : decode cX5_nextNumber 23 = .ok (.invokevirtual 84, 3) := zD182 whX5_nextNumber_0 (p := 23) rfl rfl
theorem dX5_nextNumber_26 : decode cX5_nextNumber 26 = .ok (.ireturn, 1) := zD172 whX5_nextNumber_0 (p := 26) rfl
theorem dX5_nextNumber_27 : decode cX5_nextNumber 27 = .ok (.aload_n 0, 1) := zD42 whX5_nextNumber_0 (p := 27) rfl
theorem dX5_nextNumber_28 : decode cX5_nextNumber 28 = .ok (.invokevirtual 119, 3) := zD182 whX5_nextNumber_0 (p := 28) rfl rfl
theorem dX5_nextNumber_31 : decode cX5_nextNumber 31 = .ok (.istore_n 3, 1) := zD62 whX5_nextNumber_0 (p := 31) rfl
def wlX5_nextNumber_1 : List Nat := [29, 27, 161, 0, 8, 29, 28, 164, 0, 15, 42, 6, 42, 180, 0, 77, 182, 0, 84, 153, 0, 7, 4, 167, 0, 4, 3, 172]
theorem whX5_nextNumber_1 : WLy cX5_nextNumber 32 wlX5_nextNumber_1 := by decide +kernel
theorem dX5_nextNumber_32 : decode cX5_nextNumber 32 = .ok (.iload_n 3, 1) := zD29 whX5_nextNumber_1 (p := 0) rfl
theorem dX5_nextNumber_33 : decode cX5_nextNumber 33 = .ok (.iload_n 1, 1) := zD27 whX5_nextNumber_1 (p := 1) rfl
theorem dX5_nextNumber_34 : decode cX5_nextNumber 34 = .ok (.if_icmp .lt 8, 3) := zD161p whX5_nextNumber_1 (p := 2) (v := 8) rfl rfl rfl
theorem dX5_nextNumber_37 : decode cX5_nextNumber 37 = .ok (.iload_n 3, 1) := zD29 whX5_nextNumber_1 (p := 5) rfl
theorem dX5_nextNumber_38 : decode cX5_nextNumber 38 = .ok (.iload_n 2, 1) := zD28 whX5_nextNumber_1 (p := 6) rfl
theorem dX5_nextNumber_39 : decode cX5_nextNumber 39 = .ok (.if_icmp .le 15, 3) := zD164p whX5_nextNumber_1 (p := 7) (v := 15) rfl rfl rfl
theorem dX5_nextNumber_42 : decode cX5_nextNumber 42 = .ok (.aload_n 0, 1) := zD42 whX5_nextNumber_1 (p := 10) rfl
theorem dX5_nextNumber_43 : decode cX5_nextNumber 43 = .ok (.iconst 3, 1) := zD6 whX5_nextNumber_1 (p := 11) rfl
theorem dX5_nextNumber_44 : decode cX5_nextNumber 44 = .ok (.aload_n 0, 1) := zD42 whX5_nextNumber_1 (p := 12) rfl
theorem dX5_nextNumber_45 : decode cX5_nextNumber 45 = .ok (.getfield 77, 3) := zD180 whX5_nextNumber_1 (p := 13) rfl rfl
theorem dX5_nextNumber_48 : decode cX5_nextNumber 48 = .ok (.invokevirtual 84, 3) := zD182 whX5_nextNumber_1 (p := 16) rfl rfl
theorem dX5_nextNumber_51 : decode cX5_nextNumber 51 = .ok (.ifCond .eq 7, 3) := zD153p whX5_nextNumber_1 (p := 19) (v := 7) rfl rfl rfl
theorem dX5_nextNumber_54 : decode cX5_nextNumber 54 = .ok (.iconst 1, 1) := zD4 whX5_nextNumber_1 (p := 22) rfl
theorem dX5_nextNumber_55 : decode cX5_nextNumber 55 = .ok (.goto 4, 3) := zD167p whX5_nextNumber_1 (p := 23) (v := 4) rfl rfl rfl
theorem dX5_nextNumber_58 : decode cX5_nextNumber 58 = .ok (.iconst 0, 1) := zD3 whX5_nextNumber_1 (p := 26) rfl
theorem dX5_nextNumber_59 : decode cX5_nextNumber 59 = .ok (.ireturn, 1) := zD172 whX5_nextNumber_1 (p := 27) rfl
def wlX5_nextStop_0 : List Nat := [42, 182, 0, 28, 153, 0, 27, 42, 180, 0, 39, 6, 159, 0, 15, 42, 5, 42, 180, 0, 77, 182, 0, 84, 153, 0, 7, 4, 167, 0, 4, 3]
theorem whX5_nextStop_0 : WLy cX5_nextStop 0 wlX5_nextStop_0 := by decide +kernel
theorem dX5_nextStop_0 : decode cX5_nextStop 0 = .ok (.aload_n 0, 1) := zD42 whX5_nextStop_0 (p := 0) rfl
theorem dX5_nextStop_1 : decode cX5_nextStop 1 = .ok (.invokevirtual 28, 3) := zD182 whX5_nextStop_0 (p := 1) rfl rfl
theorem dX5_nextStop_4 : decode cX5_nextStop 4 = .ok (.ifCond .eq 27, 3) := zD153p whX5_nextStop_0 (p := 4) (v := 27) rfl rfl rfl
theorem dX5_nextStop_7 : decode cX5_nextStop 7 = .ok (.aload_n 0, 1) := zD42 whX5_nextStop_0 (p := 7) rfl
theorem dX5_nextStop_8 : decode cX5_nextStop 8 = .ok (.getfield 39, 3) := zD180 whX5_nextStop_0 (p := 8) rfl rfl
theorem dX5_nextStop_11 : decode cX5_nextStop 11 = .ok (.iconst 3, 1) := zD6 whX5_nextStop_0 (p := 11) rfl
theorem dX5_nextStop_12 : decode cX5_nextStop 12 = .ok (.if_icmp .eq 15, 3) := zD159p whX5_nextStop_0 (p := 12) (v := 15) rfl rfl rfl
theorem dX5_nextStop_15 : decode cX5_nextStop 15 = .ok (.aload_n 0, 1) := zD42 whX5_nextStop_0 (p := 15) rfl
theorem dX5_nextStop_16 : decode cX5_nextStop 16 = .ok (.iconst 2, 1) := zD5 whX5_nextStop_0 (p := 16) rfl
theorem dX5_nextStop_17 : decode cX5_nextStop 17 = .ok (.aload_n 0, 1) := zD42 whX5_nextStop_0 (p := 17) rfl
theorem dX5_nextStop_18 : decode cX5_nextStop 18 = .ok (.getfield 77, 3) := zD180 whX5_nextStop_0 (p := 18) rfl rfl
theorem dX5_nextStop_21 : decode cX5_nextStop 21 = .ok (.invokevirtual 84, 3) := zD182 whX5_nextStop_0 (p := 21) rfl rfl
theorem dX5_nextStop_24 : decode cX5_nextStop 24 = .ok (.ifCond .eq 7, 3) := zD153p whX5_nextStop_0 (p := 24) (v := 7) rfl rfl rfl
theorem dX5_nextStop_27 : decode cX5_nextStop 27 = .ok (.iconst 1, 1) := zD4 whX5_nextStop_0 (p := 27) rfl
theorem dX5_nextStop_28 : decode cX5_nextStop 28 = .ok (.goto 4, 3) := zD167p whX5_nextStop_0 (p := 28) (v := 4) rfl rfl rfl
theorem dX5_nextStop_31 : decode cX5_nextStop 31 = .ok (.iconst 0, 1) := zD3 whX5_nextStop_0 (p := 31) rfl
def wlX5_nextStop_1 : List Nat := [172]
theorem whX5_nextStop_1 : WLy cX5_nextStop 32 wlX5_nextStop_1 := by decide +kernel
theorem dX5_nextStop_32 : decode cX5_nextStop 32 = .ok (.ireturn, 1) := zD172 whX5_nextStop_1 (p := 0) rfl
def wlX5_value_0 : List Nat := [3, 60, 42, 180, 0, 77, 61, 28, 42, 180, 0, 57, 162, 0, 26, 27, 16, 10, 104, 42, 180, 0, 12, 28, 182, 0, 80, 96, 16, 48, 100, 60]
theorem whX5_value_0 : WLy cX5_value 0 wlX5_value_0 := by decide +kernel
theorem dX5_value_0 : decode cX5_value 0 = .ok (.iconst 0, 1) := zD3 whX5_value_0 (p := 0) rfl
theorem dX5_value_1 : decode cX5_value 1 = .ok (.istore_n 1, 1) := zD60 whX5_value_0 (p := 1) rfl
theorem dX5_value_2 : decode cX5_value 2 = .ok (.aload_n 0, 1) := zD42 whX5_value_0 (p := 2) rfl
theorem dX5_value_3 : decode cX5_value 3 = .ok (.getfield 77, 3) := zD180 whX5_value_0 (p := 3) rfl rfl
theorem dX5_value_6 : decode cX5_value 6 = .ok (.istore_n 2, 1) := zD61 whX5_value_0 (p := 6) rfl
theorem dX5_value_7 : decode cX5_value 7 = .ok (.iload_n 2, 1) := zD28 whX5_value_0 (p := 7) rfl
theorem dX5_value_8 : decode cX5_value 8 = .ok (.aload_n 0, 1) := zD42 whX5_value_0 (p := 8) rfl
theorem dX5_value_9 : decode cX5_value 9 = .ok (.getfield 57, 3) := zD180 whX5_value_0 (p := 9) rfl rfl
theorem dX5_value_12 : decode cX5_value 12 = .ok (.if_icmp .ge 26, 3) := zD162p whX5_value_0 (p := 12) (v := 26) rfl rfl rfl
theorem dX5_value_15 : decode cX5_value 15 = .ok (.iload_n 1, 1) := zD27 whX5_value_0 (p := 15) rfl
theorem dX5_value_16 : decode cX5_value 16 = .ok (.bipush 10, 2) := zD16p whX5_value_0 (p := 16) (v := 10) rfl rfl rfl
theorem dX5_value_18 : decode cX5_value 18 = .ok (.imul, 1) := zD104 whX5_value_0 (p := 18) rfl
theorem dX5_value_19 : decode cX5_value 19 = .ok (.aload_n 0, 1) := zD42 whX5_value_0 (p := 19) rfl
theorem dX5_value_20 : decode cX5_value 20 = .ok (.getfield 12, 3) := zD180 whX5_value_0 (p := 20) rfl rfl
theorem dX5_value_23 : decode cX5_value 23 = .ok (.iload_n 2, 1) := zD28 whX5_value_0 (p := 23) rfl
theorem dX5_value_24 : decode cX5_value 24 = .ok (.invokevirtual 80, 3) := zD182 whX5_value_0 (p := 24) rfl rfl
theorem dX5_value_27 : decode cX5_value 27 = .ok (.iadd, 1) := zD96 whX5_value_0 (p := 27) rfl
theorem dX5_value_28 : decode cX5_value 28 = .ok (.bipush 48, 2) := zD16p whX5_value_0 (p := 28) (v := 48) rfl rfl rfl
theorem dX5_value_30 : decode cX5_value 30 = .ok (.isub, 1) := zD100 whX5_value_0 (p := 30) rfl
theorem dX5_value_31 : decode cX5_value 31 = .ok (.istore_n 1, 1) := zD60 whX5_value_0 (p := 31) rfl
def wlX5_value_1 : List Nat := [132, 2, 1, 167, 255, 228, 27, 172]
theorem whX5_value_1 : WLy cX5_value 32 wlX5_value_1 := by decide +kernel
theorem dX5_value_32 : decode cX5_value 32 = .ok (.iinc 2 1, 3) := zD132p whX5_value_1 (p := 0) (v := 1) rfl rfl rfl
theorem dX5_value_35 : decode cX5_value 35 = .ok (.goto (-28), 3) := zD167n whX5_value_1 (p := 3) (v := 28) rfl rfl rfl
theorem dX5_value_38 : decode cX5_value 38 = .ok (.iload_n 1, 1) := zD27 whX5_value_1 (p := 6) rfl
theorem dX5_value_39 : decode cX5_value 39 = .ok (.ireturn, 1) := zD172 whX5_value_1 (p := 7) rfl
def wlX5_lookBehindAll_0 : List Nat := [42, 180, 0, 67, 42, 180, 0, 21, 180, 0, 129, 162, 0, 17, 42, 180, 0, 70, 42, 180, 0, 21, 180, 0, 136, 161, 0, 20, 42, 16, 6, 42]
theorem whX5_lookBehindAll_0 : WLy cX5_lookBehindAll 0 wlX5_lookBehindAll_0 := by decide +kernel
theorem dX5_lookBehindAll_0 : decode cX5_lookBehindAll 0 = .ok (.aload_n 0, 1) := zD42 whX5_lookBehindAll_0 (p := 0) rfl
theorem dX5_lookBehindAll_1 : decode cX5_lookBehindAll 1 = .ok (.getfield 67, 3) := zD180 whX5_lookBehindAll_0 (p := 1) rfl rfl
theorem dX5_lookBehindAll_4 : decode cX5_lookBehindAll 4 = .ok (.aload_n 0, 1) := zD42 whX5_lookBehindAll_0 (p := 4) rfl
theorem dX5_lookBehindAll_5 : decode cX5_lookBehindAll 5 = .ok (.getfield 21, 3) := zD180 whX5_lookBehindAll_0 (p := 5) rfl rfl
theorem dX5_lookBehindAll_8 : decode cX5_lookBehindAll 8 = .ok (.getfield 129, 3) := zD180 whX5_lookBehindAll_0 (p := 8) rfl rfl
theorem dX5_lookBehindAll_11 : decode cX5_lookBehindAll 11 = .ok (.if_icmp .ge 17, 3) := zD162p whX5_lookBehindAll_0 (p := 11) (v := 17) rfl rfl rfl
theorem dX5_lookBehindAll_14 : decode cX5_lookBehindAll 14 = .ok (.aload_n 0, 1) := zD42 whX5_lookBehindAll_0 (p := 14) rfl
theorem dX5_lookBehindAll_15 : decode cX5_lookBehindAll 15 = .ok (.getfield 70, 3) := zD180 whX5_lookBehindAll_0 (p := 15) rfl rfl
theorem dX5_lookBehindAll_18 : decode cX5_lookBehindAll 18 = .ok (.aload_n 0, 1) := zD42 whX5_lookBehindAll_0 (p := 18) rfl
theorem dX5_lookBehindAll_19 : decode cX5_lookBehindAll 19 = .ok (.getfield 21, 3) := zD180 whX5_lookBehindAll_0 (p := 19) rfl rfl
theorem dX5_lookBehindAll_22 : decode cX5_lookBehindAll 22 = .ok (.getfield 136, 3) := zD180 whX5_lookBehindAll_0 (p := 22) rfl rfl
theorem dX5_lookBehindAll_25 : decode cX5_lookBehindAll 25 = .ok (.if_icmp .lt 20, 3) := zD161p whX5_lookBehindAll_0 (p := 25) (v := 20) rfl rfl rfl
theorem dX5_lookBehindAll_28 : decode cX5_lookBehindAll 28 = .ok (.aload_n 0, 1) := zD42 whX5_lookBehindAll_0 (p := 28) rfl
theorem dX5_lookBehindAll_29 : decode cX5_lookBehindAll 29 = .ok (.bipush 6, 2) := zD16p whX5_lookBehindAll_0 (p := 29) (v := 6) rfl rfl rfl
theorem dX5_lookBehindAll_31 : decode cX5_lookBehindAll 31 = .ok (.aload_n 0, 1) := zD42 whX5_lookBehindAll_0 (p := 31) rfl
def wlX5_lookBehindAll_1 : List Nat := [180, 0, 12, 180, 0, 32, 182, 0, 84, 87, 167, 0, 37, 42, 180, 0, 21, 180, 0, 129, 158, 0, 27, 42, 180, 0, 21, 180, 0, 136, 154, 0, 17]
theorem whX5_lookBehindAll_1 : WLy cX5_lookBehindAll 32 wlX5_lookBehindAll_1 := by decide +kernel
theorem dX5_lookBehindAll_32 : decode cX5_lookBehindAll 32 = .ok (.getfield 12, 3) := zD180 whX5_lookBehindAll_1 (p := 0) rfl rfl
theorem dX5_lookBehindAll_35 : decode cX5_lookBehindAll 35 = .ok (.getfield 32, 3) := zD180 whX5_lookBehindAll_1 (p := 3) rfl rfl
theorem dX5_lookBehindAll_38 : decode cX5_lookBehindAll 38 = .ok (.invokevirtual 84, 3) := zD182 whX5_lookBehindAll_1 (p := 6) rfl rfl
theorem dX5_lookBehindAll_41 : decode cX5_lookBehindAll 41 = .ok (.pop, 1) := zD87 whX5_lookBehindAll_1 (p := 9) rfl
theorem dX5_lookBehindAll_42 : decode cX5_lookBehindAll 42 = .ok (.goto 37, 3) := zD167p whX5_lookBehindAll_1 (p := 10) (v := 37) rfl rfl rfl
theorem dX5_lookBehindAll_45 : decode cX5_lookBehindAll 45 = .ok (.aload_n 0, 1) := zD42 whX5_lookBehindAll_1 (p := 13) rfl
theorem dX5_lookBehindAll_46 : decode cX5_lookBehindAll 46 = .ok (.getfield 21, 3) := zD180 whX5_lookBehindAll_1 (p := 14) rfl rfl
theorem dX5_lookBehindAll_49 : decode cX5_lookBehindAll 49 = .ok (.getfield 129, 3) := zD180 whX5_lookBehindAll_1 (p := 17) rfl rfl
theorem dX5_lookBehindAll_52 : decode cX5_lookBehindAll 52 = .ok (.ifCond .le 27, 3) := zD158p whX5_lookBehindAll_1 (p := 20) (v := 27) rfl rfl rfl
theorem dX5_lookBehindAll_55 : decode cX5_lookBehindAll 55 = .ok (.aload_n 0, 1) := zD42 whX5_lookBehindAll_1 (p := 23) rfl
theorem dX5_lookBehindAll_56 : decode cX5_lookBehindAll 56 = .ok (.getfield 21, 3) := zD180 whX5_lookBehindAll_1 (p := 24) rfl rfl
theorem dX5_lookBehindAll_59 : decode cX5_lookBehindAll 59 = .ok (.getfield 136, 3) := zD180 whX5_lookBehindAll_1 (p := 27) rfl rfl
theorem dX5_lookBehindAll_62 : decode cX5_lookBehindAll 62 = .ok (.ifCond .ne 17, 3) := zD154p whX5_lookBehindAll_1 (p := 30) (v := 17) rfl rfl rfl
def wlX5_lookBehindAll_2 : List Nat := [42, 16, 7, 42, 180, 0, 12, 180, 0, 32, 182, 0, 84, 87, 177]
theorem whX5_lookBehindAll_2 : WLy cX5_lookBehindAll 65 wlX5_lookBehindAll_2 := by decide +kernel
theorem dX5_lookBehindAll_65 : decode cX5_lookBehindAll 65 = .ok (.aload_n 0, 1) := zD42 whX5_lookBehindAll_2 (p := 0) rfl
theorem dX5_lookBehindAll_66 : decode cX5_lookBehindAll 66 = .ok (.bipush 7, 2) := zD16p whX5_lookBehindAll_2 (p := 1) (v := 7) rfl rfl rfl
theorem dX5_lookBehindAll_68 : decode cX5_lookBehindAll 68 = .ok (.aload_n 0, 1) := zD42 whX5_lookBehindAll_2 (p := 3) rfl
theorem dX5_lookBehindAll_69 : decode cX5_lookBehindAll 69 = .ok (.getfield 12, 3) := zD180 whX5_lookBehindAll_2 (p := 4) rfl rfl
theorem dX5_lookBehindAll_72 : decode cX5_lookBehindAll 72 = .ok (.getfield 32, 3) := zD180 whX5_lookBehindAll_2 (p := 7) rfl rfl
theorem dX5_lookBehindAll_75 : decode cX5_lookBehindAll 75 = .ok (.invokevirtual 84, 3) := zD182 whX5_lookBehindAll_2 (p := 10) rfl rfl
theorem dX5_lookBehindAll_78 : decode cX5_lookBehindAll 78 = .ok (.pop, 1) := zD87 whX5_lookBehindAll_2 (p := 13) rfl
theorem dX5_lookBehindAll_79 : decode cX5_lookBehindAll 79 = .ok (.return_, 1) := zD177 whX5_lookBehindAll_2 (p := 14) rfl
def wlX6_init_0 : List Nat := [42, 183, 0, 3, 42, 7, 188, 10, 89, 3, 2, 79, 89, 4, 2, 79, 89, 5, 2, 79, 89, 6, 2, 79, 181, 0, 11, 42, 7, 188, 10, 181, 0, 15]
theorem whX6_init_0 : WLy cX6_init 0 wlX6_init_0 := by decide +kernel
theorem dX6_init_0 : decode cX6_init 0 = .ok (.aload_n 0, 1) := zD42 whX6_init_0 (p := 0) rfl
theorem dX6_init_1 : decode cX6_init 1 = .ok (.invokespecial 3, 3) := zD183 whX6_init_0 (p := 1) rfl rfl
theorem dX6_init_4 : decode cX6_init 4 = .ok (.aload_n 0, 1) := zD42 whX6_init_0 (p := 4) rfl
theorem dX6_init_5 : decode cX6_init 5 = .ok (.iconst 4, 1) := zD7 whX6_init_0 (p := 5) rfl
theorem dX6_init_8 : decode cX6_init 8 = .ok (.dup, 1) := zD89 whX6_init_0 (p := 8) rfl
theorem dX6_init_9 : decode cX6_init 9 = .ok (.iconst 0, 1) := zD3 whX6_init_0 (p := 9) rfl
theorem dX6_init_10 : decode cX6_init 10 = .ok (.iconst (-1), 1) := zD2 whX6_init_0 (p := 10) rfl
theorem dX6_init_11 : decode cX6_init 11 = .ok (.iastore, 1) := zD79 whX6_init_0 (p := 11) rfl
theorem dX6_init_12 : decode cX6_init 12 = .ok (.dup, 1) := zD89 whX6_init_0 (p := 12) rfl
theorem dX6_init_13 : decode cX6_init 13 = .ok (.iconst 1, 1) := zD4 whX6_init_0 (p := 13) rfl
theorem dX6_init_14 : decode cX6_init 14 = .ok (.iconst (-1), 1) := zD2 whX6_init_0 (p := 14) rfl
theorem dX6_init_15 : decode cX6_init 15 = .ok (.iastore, 1) := zD79 whX6_init_0 (p := 15) rfl
theorem dX6_init_16 : decode cX6_init 16 = .ok (.dup, 1) := zD89 whX6_init_0 (p := 16) rfl
theorem dX6_init_17 : decode cX6_init 17 = .ok (.iconst 2, 1) := zD5 whX6_init_0 (p := 17) rfl
theorem dX6_init_18 : decode cX6_init 18 = .ok (.iconst (-1), 1) := zD2 whX6_init_0 (p := 18) rfl
theorem dX6_init_19 : decode cX6_init 19 = .ok (.iastore, 1) := zD79 whX6_init_0 (p := 19) rfl
theorem dX6_init_20 : decode cX6_init 20 = .ok (.dup, 1) := zD89 whX6_init_0 (p := 20) rfl
theorem dX6_init_21 : decode cX6_init 21 = .ok (.iconst 3, 1) := zD6 whX6_init_0 (p := 21) rfl
theorem dX6_init_22 : decode cX6_init 22 = .ok (.iconst (-1), 1) := zD2 whX6_init_0 (p := 22) rfl
theorem dX6_init_23 : decode cX6_init 23 = .ok (.iastore, 1) := zD79 whX6_init_0 (p := 23) rfl
theorem dX6_init_24 : decode cX6_init 24 = .ok (.putfield 11, 3) := zD181 whX6_init_0 (p := 24) rfl rfl
theorem dX6_init_27 : decode cX6_init 27 = .ok (.aload_n 0, 1) := zD42 whX6_init_0 (p := 27) rfl
theorem dX6_init_28 : decode cX6_init 28 = .ok (.iconst 4, 1) := zD7 whX6_init_0 (p := 28) rfl
theorem dX6_init_31 : decode cX6_init 31 = .ok (.putfield 15, 3) := zD181 whX6_init_0 (p := 31) rfl rfl
def wlX6_init_1 : List Nat := [42, 7, 16, 40, 197, 0, 18, 2, 181, 0, 20, 42, 16, 20, 188, 10, 181, 0, 23, 42, 16, 20, 188, 10, 181, 0, 26, 177]
theorem whX6_init_1 : WLy cX6_init 34 wlX6_init_1 := by decide +kernel
theorem dX6_init_34 : decode cX6_init 34 = .ok (.aload_n 0, 1) := zD42 whX6_init_1 (p := 0) rfl
theorem dX6_init_35 : decode cX6_init 35 = .ok (.iconst 4, 1) := zD7 whX6_init_1 (p := 1) rfl
theorem dX6_init_36 : decode cX6_init 36 = .ok (.bipush 40, 2) := zD16p whX6_init_1 (p := 2) (v := 40) rfl rfl rfl
theorem dX6_init_42 : decode cX6_init 42 = .ok (.putfield 20, 3) := zD181 whX6_init_1 (p := 8) rfl rfl
theorem dX6_init_45 : decode cX6_init 45 = .ok (.aload_n 0, 1) := zD42 whX6_init_1 (p := 11) rfl
theorem dX6_init_46 : decode cX6_init 46 = .ok (.bipush 20, 2) := zD16p whX6_init_1 (p := 12) (v := 20) rfl rfl rfl
theorem dX6_init_50 : decode cX6_init 50 = .ok (.putfield 23, 3) := zD181 whX6_init_1 (p := 16) rfl rfl
theorem dX6_init_53 : decode cX6_init 53 = .ok (.aload_n 0, 1) := zD42 whX6_init_1 (p := 19) rfl
theorem dX6_init_54 : decode cX6_init 54 = .ok (.bipush 20, 2) := zD16p whX6_init_1 (p := 20) (v := 20) rfl rfl rfl
theorem dX6_init_58 : decode cX6_init 58 = .ok (.putfield 26, 3) := zD181 whX6_init_1 (p := 24) rfl rfl
theorem dX6_init_61 : decode cX6_init 61 = .ok (.return_, 1) := zD177 whX6_init_1 (p := 27) rfl
def wlX6_isSheet_0 : List Nat := [26, 155, 0, 12, 26, 7, 162, 0, 7, 4, 167, 0, 4, 3, 172]
theorem whX6_isSheet_0 : WLy cX6_isSheet 0 wlX6_isSheet_0 := by decide +kernel
theorem dX6_isSheet_0 : decode cX6_isSheet 0 = .ok (.iload_n 0, 1) := zD26 whX6_isSheet_0 (p := 0) rfl
theorem dX6_isSheet_1 : decode cX6_isSheet 1 = .ok (.ifCond .lt 12, 3) := zD155p whX6_isSheet_0 (p := 1) (v := 12) rfl rfl rfl
theorem dX6_isSheet_4 : decode cX6_isSheet 4 = .ok (.iload_n 0, 1) := zD26 whX6_isSheet_0 (p := 4) rfl
theorem dX6_isSheet_5 : decode cX6_isSheet 5 = .ok (.iconst 4, 1) := zD7 whX6_isSheet_0 (p := 5) rfl
theorem dX6_isSheet_6 : decode cX6_isSheet 6 = .ok (.if_icmp .ge 7, 3) := zD162p whX6_isSheet_0 (p := 6) (v := 7) rfl rfl rfl
theorem dX6_isSheet_9 : decode cX6_isSheet 9 = .ok (.iconst 1, 1) := zD4 whX6_isSheet_0 (p := 9) rfl
theorem dX6_isSheet_10 : decode cX6_isSheet 10 = .ok (.goto 4, 3) := zD167p whX6_isSheet_0 (p := 10) (v := 4) rfl rfl rfl
theorem dX6_isSheet_13 : decode cX6_isSheet 13 = .ok (.iconst 0, 1) := zD3 whX6_isSheet_0 (p := 13) rfl
theorem dX6_isSheet_14 : decode cX6_isSheet 14 = .ok (.ireturn, 1) := zD172 whX6_isSheet_0 (p := 14) rfl
def wlX6_isLane_0 : List Nat := [26, 155, 0, 12, 26, 5, 163, 0, 7, 4, 167, 0, 4, 3, 172]
theorem whX6_isLane_0 : WLy cX6_isLane 0 wlX6_isLane_0 := by decide +kernel
theorem dX6_isLane_0 : decode cX6_isLane 0 = .ok (.iload_n 0, 1) := zD26 whX6_isLane_0 (p := 0) rfl
theorem dX6_isLane_1 : decode cX6_isLane 1 = .ok (.ifCond .lt 12, 3) := zD155p whX6_isLane_0 (p := 1) (v := 12) rfl rfl rfl
theorem dX6_isLane_4 : decode cX6_isLane 4 = .ok (.iload_n 0, 1) := zD26 whX6_isLane_0 (p := 4) rfl
theorem dX6_isLane_5 : decode cX6_isLane 5 = .ok (.iconst 2, 1) := zD5 whX6_isLane_0 (p := 5) rfl
theorem dX6_isLane_6 : decode cX6_isLane 6 = .ok (.if_icmp .gt 7, 3) := zD163p whX6_isLane_0 (p := 6) (v := 7) rfl rfl rfl
theorem dX6_isLane_9 : decode cX6_isLane 9 = .ok (.iconst 1, 1) := zD4 whX6_isLane_0 (p := 9) rfl
theorem dX6_isLane_10 : decode cX6_isLane 10 = .ok (.goto 4, 3) := zD167p whX6_isLane_0 (p := 10) (v := 4) rfl rfl rfl
theorem dX6_isLane_13 : decode cX6_isLane 13 = .ok (.iconst 0, 1) := zD3 whX6_isLane_0 (p := 13) rfl
theorem dX6_isLane_14 : decode cX6_isLane 14 = .ok (.ireturn, 1) := zD172 whX6_isLane_0 (p := 14) rfl
def wlX6_renew_0 : List Nat := [27, 184, 0, 29, 153, 0, 13, 29, 155, 0, 9, 29, 16, 40, 164, 0, 4, 177, 42, 180, 0, 11, 27, 28, 79, 42, 180, 0, 15, 27, 29, 79]
theorem whX6_renew_0 : WLy cX6_renew 0 wlX6_renew_0 := by decide +kernel
theorem dX6_renew_0 : decode cX6_renew 0 = .ok (.iload_n 1, 1) := zD27 whX6_renew_0 (p := 0) rfl
theorem dX6_renew_1 : decode cX6_renew 1 = .ok (.invokestatic 29, 3) := zD184 whX6_renew_0 (p := 1) rfl rfl
theorem dX6_renew_4 : decode cX6_renew 4 = .ok (.ifCond .eq 13, 3) := zD153p whX6_renew_0 (p := 4) (v := 13) rfl rfl rfl
theorem dX6_renew_7 : decode cX6_renew 7 = .ok (.iload_n 3, 1) := zD29 whX6_renew_0 (p := 7) rfl
theorem dX6_renew_8 : decode cX6_renew 8 = .ok (.ifCond .lt 9, 3) := zD155p whX6_renew_0 (p := 8) (v := 9) rfl rfl rfl
theorem dX6_renew_11 : decode cX6_renew 11 = .ok (.iload_n 3, 1) := zD29 whX6_renew_0 (p := 11) rfl
theorem dX6_renew_12 : decode cX6_renew 12 = .ok (.bipush 40, 2) := zD16p whX6_renew_0 (p := 12) (v := 40) rfl rfl rfl
theorem dX6_renew_14 : decode cX6_renew 14 = .ok (.if_icmp .le 4, 3) := zD164p whX6_renew_0 (p := 14) (v := 4) rfl rfl rfl
theorem dX6_renew_18 : decode cX6_renew 18 = .ok (.aload_n 0, 1) := zD42 whX6_renew_0 (p := 18) rfl
theorem dX6_renew_19 : decode cX6_renew 19 = .ok (.getfield 11, 3) := zD180 whX6_renew_0 (p := 19) rfl rfl
theorem dX6_renew_22 : decode cX6_renew 22 = .ok (.iload_n 1, 1) := zD27 whX6_renew_0 (p := 22) rfl
theorem dX6_renew_23 : decode cX6_renew 23 = .ok (.iload_n 2, 1) := zD28 whX6_renew_0 (p := 23) rfl
theorem dX6_renew_24 : decode cX6_renew 24 = .ok (.iastore, 1) := zD79 whX6_renew_0 (p := 24) rfl
theorem dX6_renew_25 : decode cX6_renew 25 = .ok (.aload_n 0, 1) := zD42 whX6_renew_0 (p := 25) rfl
theorem dX6_renew_26 : decode cX6_renew 26 = .ok (.getfield 15, 3) := zD180 whX6_renew_0 (p := 26) rfl rfl
theorem dX6_renew_29 : decode cX6_renew 29 = .ok (.iload_n 1, 1) := zD27 whX6_renew_0 (p := 29) rfl
theorem dX6_renew_30 : decode cX6_renew 30 = .ok (.iload_n 3, 1) := zD29 whX6_renew_0 (p := 30) rfl
theorem dX6_renew_31 : decode cX6_renew 31 = .ok (.iastore, 1) := zD79 whX6_renew_0 (p := 31) rfl
def wlX6_renew_1 : List Nat := [3, 54, 4, 21, 4, 29, 162, 0, 19, 42, 180, 0, 20, 27, 50, 21, 4, 3, 79, 132, 4, 1, 167, 255, 237, 177]
theorem whX6_renew_1 : WLy cX6_renew 32 wlX6_renew_1 := by decide +kernel
theorem dX6_renew_32 : decode cX6_renew 32 = .ok (.iconst 0, 1) := zD3 whX6_renew_1 (p := 0) rfl
theorem dX6_renew_33 : decode cX6_renew 33 = .ok (.istore 4, 2) := zD54 whX6_renew_1 (p := 1) rfl
theorem dX6_renew_35 : decode cX6_renew 35 = .ok (.iload 4, 2) := zD21 whX6_renew_1 (p := 3) rfl
theorem dX6_renew_37 : decode cX6_renew 37 = .ok (.iload_n 3, 1) := zD29 whX6_renew_1 (p := 5) rfl
theorem dX6_renew_38 : decode cX6_renew 38 = .ok (.if_icmp .ge 19, 3) := zD162p whX6_renew_1 (p := 6) (v := 19) rfl rfl rfl
theorem dX6_renew_41 : decode cX6_renew 41 = .ok (.aload_n 0, 1) := zD42 whX6_renew_1 (p := 9) rfl
theorem dX6_renew_42 : decode cX6_renew 42 = .ok (.getfield 20, 3) := zD180 whX6_renew_1 (p := 10) rfl rfl
theorem dX6_renew_45 : decode cX6_renew 45 = .ok (.iload_n 1, 1) := zD27 whX6_renew_1 (p := 13) rfl
theorem dX6_renew_46 : decode cX6_renew 46 = .ok (.aaload, 1) := zD50 whX6_renew_1 (p := 14) rfl
theorem dX6_renew_47 : decode cX6_renew 47 = .ok (.iload 4, 2) := zD21 whX6_renew_1 (p := 15) rfl
theorem dX6_renew_49 : decode cX6_renew 49 = .ok (.iconst 0, 1) := zD3 whX6_renew_1 (p := 17) rfl
theorem dX6_renew_50 : decode cX6_renew 50 = .ok (.iastore, 1) := zD79 whX6_renew_1 (p := 18) rfl
theorem dX6_renew_51 : decode cX6_renew 51 = .ok (.iinc 4 1, 3) := zD132p whX6_renew_1 (p := 19) (v := 1) rfl rfl rfl
theorem dX6_renew_54 : decode cX6_renew 54 = .ok (.goto (-19), 3) := zD167n whX6_renew_1 (p := 22) (v := 19) rfl rfl rfl
theorem dX6_renew_57 : decode cX6_renew 57 = .ok (.return_, 1) := zD177 whX6_renew_1 (p := 25) rfl
def wlX6_sizeOf_0 : List Nat := [42, 180, 0, 11, 27, 46, 2, 160, 0, 8, 16, 252, 167, 0, 9, 42, 180, 0, 15, 27, 46, 172]
theorem whX6_sizeOf_0 : WLy cX6_sizeOf 0 wlX6_sizeOf_0 := by decide +kernel
theorem dX6_sizeOf_0 : decode cX6_sizeOf 0 = .ok (.aload_n 0, 1) := zD42 whX6_sizeOf_0 (p := 0) rfl
theorem dX6_sizeOf_1 : decode cX6_sizeOf 1 = .ok (.getfield 11, 3) := zD180 whX6_sizeOf_0 (p := 1) rfl rfl
theorem dX6_sizeOf_4 : decode cX6_sizeOf 4 = .ok (.iload_n 1, 1) := zD27 whX6_sizeOf_0 (p := 4) rfl
theorem dX6_sizeOf_5 : decode cX6_sizeOf 5 = .ok (.iaload, 1) := zD46 whX6_sizeOf_0 (p := 5) rfl
theorem dX6_sizeOf_6 : decode cX6_sizeOf 6 = .ok (.iconst (-1), 1) := zD2 whX6_sizeOf_0 (p := 6) rfl
theorem dX6_sizeOf_7 : decode cX6_sizeOf 7 = .ok (.if_icmp .ne 8, 3) := zD160p whX6_sizeOf_0 (p := 7) (v := 8) rfl rfl rfl
theorem dX6_sizeOf_10 : decode cX6_sizeOf 10 = .ok (.bipush (-4), 2) := zD16n whX6_sizeOf_0 (p := 10) (v := 4) rfl rfl rfl
theorem dX6_sizeOf_12 : decode cX6_sizeOf 12 = .ok (.goto 9, 3) := zD167p whX6_sizeOf_0 (p := 12) (v := 9) rfl rfl rfl
theorem dX6_sizeOf_15 : decode cX6_sizeOf 15 = .ok (.aload_n 0, 1) := zD42 whX6_sizeOf_0 (p := 15) rfl
theorem dX6_sizeOf_16 : decode cX6_sizeOf 16 = .ok (.getfield 15, 3) := zD180 whX6_sizeOf_0 (p := 16) rfl rfl
theorem dX6_sizeOf_19 : decode cX6_sizeOf 19 = .ok (.iload_n 1, 1) := zD27 whX6_sizeOf_0 (p := 19) rfl
theorem dX6_sizeOf_20 : decode cX6_sizeOf 20 = .ok (.iaload, 1) := zD46 whX6_sizeOf_0 (p := 20) rfl
theorem dX6_sizeOf_21 : decode cX6_sizeOf 21 = .ok (.ireturn, 1) := zD172 whX6_sizeOf_0 (p := 21) rfl
def wlX6_faultAt_0 : List Nat := [42, 180, 0, 11, 27, 46, 2, 160, 0, 5, 4, 172, 32, 9, 148, 155, 0, 15, 32, 42, 180, 0, 15, 27, 46, 133, 148, 155, 0, 7, 5, 167, 0, 4]
theorem whX6_faultAt_0 : WLy cX6_faultAt 0 wlX6_faultAt_0 := by decide +kernel
theorem dX6_faultAt_0 : decode cX6_faultAt 0 = .ok (.aload_n 0, 1) := zD42 whX6_faultAt_0 (p := 0) rfl
theorem dX6_faultAt_1 : decode cX6_faultAt 1 = .ok (.getfield 11, 3) := zD180 whX6_faultAt_0 (p := 1) rfl rfl
theorem dX6_faultAt_4 : decode cX6_faultAt 4 = .ok (.iload_n 1, 1) := zD27 whX6_faultAt_0 (p := 4) rfl
theorem dX6_faultAt_5 : decode cX6_faultAt 5 = .ok (.iaload, 1) := zD46 whX6_faultAt_0 (p := 5) rfl
theorem dX6_faultAt_6 : decode cX6_faultAt 6 = .ok (.iconst (-1), 1) := zD2 whX6_faultAt_0 (p := 6) rfl
theorem dX6_faultAt_7 : decode cX6_faultAt 7 = .ok (.if_icmp .ne 5, 3) := zD160p whX6_faultAt_0 (p := 7) (v := 5) rfl rfl rfl
theorem dX6_faultAt_10 : decode cX6_faultAt 10 = .ok (.iconst 1, 1) := zD4 whX6_faultAt_0 (p := 10) rfl
theorem dX6_faultAt_11 : decode cX6_faultAt 11 = .ok (.ireturn, 1) := zD172 whX6_faultAt_0 (p := 11) rfl
theorem dX6_faultAt_12 : decode cX6_faultAt 12 = .ok (.lload_n 2, 1) := zD32 whX6_faultAt_0 (p := 12) rfl
theorem dX6_faultAt_13 : decode cX6_faultAt 13 = .ok (.lconst 0, 1) := zD9 whX6_faultAt_0 (p := 13) rfl
theorem dX6_faultAt_14 : decode cX6_faultAt 14 = .ok (.lcmp, 1) := zD148 whX6_faultAt_0 (p := 14) rfl
theorem dX6_faultAt_15 : decode cX6_faultAt 15 = .ok (.ifCond .lt 15, 3) := zD155p whX6_faultAt_0 (p := 15) (v := 15) rfl rfl rfl
theorem dX6_faultAt_18 : decode cX6_faultAt 18 = .ok (.lload_n 2, 1) := zD32 whX6_faultAt_0 (p := 18) rfl
theorem dX6_faultAt_19 : decode cX6_faultAt 19 = .ok (.aload_n 0, 1) := zD42 whX6_faultAt_0 (p := 19) rfl
theorem dX6_faultAt_20 : decode cX6_faultAt 20 = .ok (.getfield 15, 3) := zD180 whX6_faultAt_0 (p := 20) rfl rfl
theorem dX6_faultAt_23 : decode cX6_faultAt 23 = .ok (.iload_n 1, 1) := zD27 whX6_faultAt_0 (p := 23) rfl
theorem dX6_faultAt_24 : decode cX6_faultAt 24 = .ok (.iaload, 1) := zD46 whX6_faultAt_0 (p := 24) rfl
theorem dX6_faultAt_25 : decode cX6_faultAt 25 = .ok (.i2l, 1) := zD133 whX6_faultAt_0 (p := 25) rfl
theorem dX6_faultAt_26 : decode cX6_faultAt 26 = .ok (.lcmp, 1) := zD148 whX6_faultAt_0 (p := 26) rfl
theorem dX6_faultAt_27 : decode cX6_faultAt 27 = .ok (.ifCond .lt 7, 3) := zD155p whX6_faultAt_0 (p := 27) (v := 7) rfl rfl rfl
theorem dX6_faultAt_30 : decode cX6_faultAt 30 = .ok (.iconst 2, 1) := zD5 whX6_faultAt_0 (p := 30) rfl
theorem dX6_faultAt_31 : decode cX6_faultAt 31 = .ok (.goto 4, 3) := zD167p whX6_faultAt_0 (p := 31) (v := 4) rfl rfl rfl
def wlX6_faultAt_1 : List Nat := [3, 172]
theorem whX6_faultAt_1 : WLy cX6_faultAt 34 wlX6_faultAt_1 := by decide +kernel
theorem dX6_faultAt_34 : decode cX6_faultAt 34 = .ok (.iconst 0, 1) := zD3 whX6_faultAt_1 (p := 0) rfl
theorem dX6_faultAt_35 : decode cX6_faultAt 35 = .ok (.ireturn, 1) := zD172 whX6_faultAt_1 (p := 1) rfl
def wlX6_fill_0 : List Nat := [42, 27, 28, 133, 182, 0, 33, 154, 0, 41, 42, 180, 0, 20, 27, 50, 28, 42, 180, 0, 11, 27, 46, 154, 0, 8, 29, 145, 167, 0, 19, 42]
theorem whX6_fill_0 : WLy cX6_fill 0 wlX6_fill_0 := by decide +kernel
theorem dX6_fill_0 : decode cX6_fill 0 = .ok (.aload_n 0, 1) := zD42 whX6_fill_0 (p := 0) rfl
theorem dX6_fill_1 : decode cX6_fill 1 = .ok (.iload_n 1, 1) := zD27 whX6_fill_0 (p := 1) rfl
theorem dX6_fill_2 : decode cX6_fill 2 = .ok (.iload_n 2, 1) := zD28 whX6_fill_0 (p := 2) rfl
theorem dX6_fill_3 : decode cX6_fill 3 = .ok (.i2l, 1) := zD133 whX6_fill_0 (p := 3) rfl
theorem dX6_fill_4 : decode cX6_fill 4 = .ok (.invokevirtual 33, 3) := zD182 whX6_fill_0 (p := 4) rfl rfl
theorem dX6_fill_7 : decode cX6_fill 7 = .ok (.ifCond .ne 41, 3) := zD154p whX6_fill_0 (p := 7) (v := 41) rfl rfl rfl
theorem dX6_fill_10 : decode cX6_fill 10 = .ok (.aload_n 0, 1) := zD42 whX6_fill_0 (p := 10) rfl
theorem dX6_fill_11 : decode cX6_fill 11 = .ok (.getfield 20, 3) := zD180 whX6_fill_0 (p := 11) rfl rfl
theorem dX6_fill_14 : decode cX6_fill 14 = .ok (.iload_n 1, 1) := zD27 whX6_fill_0 (p := 14) rfl
theorem dX6_fill_15 : decode cX6_fill 15 = .ok (.aaload, 1) := zD50 whX6_fill_0 (p := 15) rfl
theorem dX6_fill_16 : decode cX6_fill 16 = .ok (.iload_n 2, 1) := zD28 whX6_fill_0 (p := 16) rfl
theorem dX6_fill_17 : decode cX6_fill 17 = .ok (.aload_n 0, 1) := zD42 whX6_fill_0 (p := 17) rfl
theorem dX6_fill_18 : decode cX6_fill 18 = .ok (.getfield 11, 3) := zD180 whX6_fill_0 (p := 18) rfl rfl
theorem dX6_fill_21 : decode cX6_fill 21 = .ok (.iload_n 1, 1) := zD27 whX6_fill_0 (p := 21) rfl
theorem dX6_fill_22 : decode cX6_fill 22 = .ok (.iaload, 1) := zD46 whX6_fill_0 (p := 22) rfl
theorem dX6_fill_23 : decode cX6_fill 23 = .ok (.ifCond .ne 8, 3) := zD154p whX6_fill_0 (p := 23) (v := 8) rfl rfl rfl
theorem dX6_fill_26 : decode cX6_fill 26 = .ok (.iload_n 3, 1) := zD29 whX6_fill_0 (p := 26) rfl
theorem dX6_fill_27 : decode cX6_fill 27 = .ok (.i2b, 1) := zD145 whX6_fill_0 (p := 27) rfl
theorem dX6_fill_28 : decode cX6_fill 28 = .ok (.goto 19, 3) := zD167p whX6_fill_0 (p := 28) (v := 19) rfl rfl rfl
theorem dX6_fill_31 : decode cX6_fill 31 = .ok (.aload_n 0, 1) := zD42 whX6_fill_0 (p := 31) rfl
def wlX6_fill_1 : List Nat := [180, 0, 11, 27, 46, 4, 160, 0, 8, 29, 147, 167, 0, 4, 29, 79, 177]
theorem whX6_fill_1 : WLy cX6_fill 32 wlX6_fill_1 := by decide +kernel
theorem dX6_fill_32 : decode cX6_fill 32 = .ok (.getfield 11, 3) := zD180 whX6_fill_1 (p := 0) rfl rfl
theorem dX6_fill_35 : decode cX6_fill 35 = .ok (.iload_n 1, 1) := zD27 whX6_fill_1 (p := 3) rfl
theorem dX6_fill_36 : decode cX6_fill 36 = .ok (.iaload, 1) := zD46 whX6_fill_1 (p := 4) rfl
theorem dX6_fill_37 : decode cX6_fill 37 = .ok (.iconst 1, 1) := zD4 whX6_fill_1 (p := 5) rfl
theorem dX6_fill_38 : decode cX6_fill 38 = .ok (.if_icmp .ne 8, 3) := zD160p whX6_fill_1 (p := 6) (v := 8) rfl rfl rfl
theorem dX6_fill_41 : decode cX6_fill 41 = .ok (.iload_n 3, 1) := zD29 whX6_fill_1 (p := 9) rfl
theorem dX6_fill_42 : decode cX6_fill 42 = .ok (.i2s, 1) := zD147 whX6_fill_1 (p := 10) rfl
theorem dX6_fill_43 : decode cX6_fill 43 = .ok (.goto 4, 3) := zD167p whX6_fill_1 (p := 11) (v := 4) rfl rfl rfl
theorem dX6_fill_46 : decode cX6_fill 46 = .ok (.iload_n 3, 1) := zD29 whX6_fill_1 (p := 14) rfl
theorem dX6_fill_47 : decode cX6_fill 47 = .ok (.iastore, 1) := zD79 whX6_fill_1 (p := 15) rfl
theorem dX6_fill_48 : decode cX6_fill 48 = .ok (.return_, 1) := zD177 whX6_fill_1 (p := 16) rfl
def wlX6_takePairs_0 : List Nat := [42, 3, 181, 0, 37, 42, 42, 180, 0, 11, 27, 46, 2, 159, 0, 13, 42, 180, 0, 11, 27, 46, 28, 160, 0, 7, 3, 167, 0, 4, 6, 181, 0, 41]
theorem whX6_takePairs_0 : WLy cX6_takePairs 0 wlX6_takePairs_0 := by decide +kernel
theorem dX6_takePairs_0 : decode cX6_takePairs 0 = .ok (.aload_n 0, 1) := zD42 whX6_takePairs_0 (p := 0) rfl
theorem dX6_takePairs_1 : decode cX6_takePairs 1 = .ok (.iconst 0, 1) := zD3 whX6_takePairs_0 (p := 1) rfl
theorem dX6_takePairs_2 : decode cX6_takePairs 2 = .ok (.putfield 37, 3) := zD181 whX6_takePairs_0 (p := 2) rfl rfl
theorem dX6_takePairs_5 : decode cX6_takePairs 5 = .ok (.aload_n 0, 1) := zD42 whX6_takePairs_0 (p := 5) rfl
theorem dX6_takePairs_6 : decode cX6_takePairs 6 = .ok (.aload_n 0, 1) := zD42 whX6_takePairs_0 (p := 6) rfl
theorem dX6_takePairs_7 : decode cX6_takePairs 7 = .ok (.getfield 11, 3) := zD180 whX6_takePairs_0 (p := 7) rfl rfl
theorem dX6_takePairs_10 : decode cX6_takePairs 10 = .ok (.iload_n 1, 1) := zD27 whX6_takePairs_0 (p := 10) rfl
theorem dX6_takePairs_11 : decode cX6_takePairs 11 = .ok (.iaload, 1) := zD46 whX6_takePairs_0 (p := 11) rfl
theorem dX6_takePairs_12 : decode cX6_takePairs 12 = .ok (.iconst (-1), 1) := zD2 whX6_takePairs_0 (p := 12) rfl
theorem dX6_takePairs_13 : decode cX6_takePairs 13 = .ok (.if_icmp .eq 13, 3) := zD159p whX6_takePairs_0 (p := 13) (v := 13) rfl rfl rfl
theorem dX6_takePairs_16 : decode cX6_takePairs 16 = .ok (.aload_n 0, 1) := zD42 whX6_takePairs_0 (p := 16) rfl
theorem dX6_takePairs_17 : decode cX6_takePairs 17 = .ok (.getfield 11, 3) := zD180 whX6_takePairs_0 (p := 17) rfl rfl
theorem dX6_takePairs_20 : decode cX6_takePairs 20 = .ok (.iload_n 1, 1) := zD27 whX6_takePairs_0 (p := 20) rfl
theorem dX6_takePairs_21 : decode cX6_takePairs 21 = .ok (.iaload, 1) := zD46 whX6_takePairs_0 (p := 21) rfl
theorem dX6_takePairs_22 : decode cX6_takePairs 22 = .ok (.iload_n 2, 1) := zD28 whX6_takePairs_0 (p := 22) rfl
theorem dX6_takePairs_23 : decode cX6_takePairs 23 = .ok (.if_icmp .ne 7, 3) := zD160p whX6_takePairs_0 (p := 23) (v := 7) rfl rfl rfl
theorem dX6_takePairs_26 : decode cX6_takePairs 26 = .ok (.iconst 0, 1) := zD3 whX6_takePairs_0 (p := 26) rfl
theorem dX6_takePairs_27 : decode cX6_takePairs 27 = .ok (.goto 4, 3) := zD167p whX6_takePairs_0 (p := 27) (v := 4) rfl rfl rfl
theorem dX6_takePairs_30 : decode cX6_takePairs 30 = .ok (.iconst 3, 1) := zD6 whX6_takePairs_0 (p := 30) rfl
theorem dX6_takePairs_31 : decode cX6_takePairs 31 = .ok (.putfield 41, 3) := zD181 whX6_takePairs_0 (p := 31) rfl rfl
def wlX6_takePairs_1 : List Nat := [3, 54, 5, 21, 5, 21, 4, 162, 0, 119, 21, 5, 16, 20, 162, 0, 112, 42, 180, 0, 41, 154, 0, 105, 29, 133, 20, 0, 44, 21, 5, 133]
theorem whX6_takePairs_1 : WLy cX6_takePairs 34 wlX6_takePairs_1 := by decide +kernel
theorem dX6_takePairs_34 : decode cX6_takePairs 34 = .ok (.iconst 0, 1) := zD3 whX6_takePairs_1 (p := 0) rfl
theorem dX6_takePairs_35 : decode cX6_takePairs 35 = .ok (.istore 5, 2) := zD54 whX6_takePairs_1 (p := 1) rfl
theorem dX6_takePairs_37 : decode cX6_takePairs 37 = .ok (.iload 5, 2) := zD21 whX6_takePairs_1 (p := 3) rfl
theorem dX6_takePairs_39 : decode cX6_takePairs 39 = .ok (.iload 4, 2) := zD21 whX6_takePairs_1 (p := 5) rfl
theorem dX6_takePairs_41 : decode cX6_takePairs 41 = .ok (.if_icmp .ge 119, 3) := zD162p whX6_takePairs_1 (p := 7) (v := 119) rfl rfl rfl
theorem dX6_takePairs_44 : decode cX6_takePairs 44 = .ok (.iload 5, 2) := zD21 whX6_takePairs_1 (p := 10) rfl
theorem dX6_takePairs_46 : decode cX6_takePairs 46 = .ok (.bipush 20, 2) := zD16p whX6_takePairs_1 (p := 12) (v := 20) rfl rfl rfl
theorem dX6_takePairs_48 : decode cX6_takePairs 48 = .ok (.if_icmp .ge 112, 3) := zD162p whX6_takePairs_1 (p := 14) (v := 112) rfl rfl rfl
theorem dX6_takePairs_51 : decode cX6_takePairs 51 = .ok (.aload_n 0, 1) := zD42 whX6_takePairs_1 (p := 17) rfl
theorem dX6_takePairs_52 : decode cX6_takePairs 52 = .ok (.getfield 41, 3) := zD180 whX6_takePairs_1 (p := 18) rfl rfl
theorem dX6_takePairs_55 : decode cX6_takePairs 55 = .ok (.ifCond .ne 105, 3) := zD154p whX6_takePairs_1 (p := 21) (v := 105) rfl rfl rfl
theorem dX6_takePairs_58 : decode cX6_takePairs 58 = .ok (.iload_n 3, 1) := zD29 whX6_takePairs_1 (p := 24) rfl
theorem dX6_takePairs_59 : decode cX6_takePairs 59 = .ok (.i2l, 1) := zD133 whX6_takePairs_1 (p := 25) rfl
theorem dX6_takePairs_60 : decode cX6_takePairs 60 = .ok (.ldc2_w 44, 3) := zD20 whX6_takePairs_1 (p := 26) rfl rfl
theorem dX6_takePairs_63 : decode cX6_takePairs 63 = .ok (.iload 5, 2) := zD21 whX6_takePairs_1 (p := 29) rfl
theorem dX6_takePairs_65 : decode cX6_takePairs 65 = .ok (.i2l, 1) := zD133 whX6_takePairs_1 (p := 31) rfl
def wlX6_takePairs_2 : List Nat := [105, 97, 55, 6, 42, 42, 27, 22, 6, 182, 0, 33, 181, 0, 41, 42, 180, 0, 41, 154, 0, 16, 42, 42, 27, 22, 6, 10, 97, 182, 0, 33]
theorem whX6_takePairs_2 : WLy cX6_takePairs 66 wlX6_takePairs_2 := by decide +kernel
theorem dX6_takePairs_66 : decode cX6_takePairs 66 = .ok (.lmul, 1) := zD105 whX6_takePairs_2 (p := 0) rfl
theorem dX6_takePairs_67 : decode cX6_takePairs 67 = .ok (.ladd, 1) := zD97 whX6_takePairs_2 (p := 1) rfl
theorem dX6_takePairs_68 : decode cX6_takePairs 68 = .ok (.lstore 6, 2) := zD55 whX6_takePairs_2 (p := 2) rfl
theorem dX6_takePairs_70 : decode cX6_takePairs 70 = .ok (.aload_n 0, 1) := zD42 whX6_takePairs_2 (p := 4) rfl
theorem dX6_takePairs_71 : decode cX6_takePairs 71 = .ok (.aload_n 0, 1) := zD42 whX6_takePairs_2 (p := 5) rfl
theorem dX6_takePairs_72 : decode cX6_takePairs 72 = .ok (.iload_n 1, 1) := zD27 whX6_takePairs_2 (p := 6) rfl
theorem dX6_takePairs_73 : decode cX6_takePairs 73 = .ok (.lload 6, 2) := zD22 whX6_takePairs_2 (p := 7) rfl
theorem dX6_takePairs_75 : decode cX6_takePairs 75 = .ok (.invokevirtual 33, 3) := zD182 whX6_takePairs_2 (p := 9) rfl rfl
theorem dX6_takePairs_78 : decode cX6_takePairs 78 = .ok (.putfield 41, 3) := zD181 whX6_takePairs_2 (p := 12) rfl rfl
theorem dX6_takePairs_81 : decode cX6_takePairs 81 = .ok (.aload_n 0, 1) := zD42 whX6_takePairs_2 (p := 15) rfl
theorem dX6_takePairs_82 : decode cX6_takePairs 82 = .ok (.getfield 41, 3) := zD180 whX6_takePairs_2 (p := 16) rfl rfl
theorem dX6_takePairs_85 : decode cX6_takePairs 85 = .ok (.ifCond .ne 16, 3) := zD154p whX6_takePairs_2 (p := 19) (v := 16) rfl rfl rfl
theorem dX6_takePairs_88 : decode cX6_takePairs 88 = .ok (.aload_n 0, 1) := zD42 whX6_takePairs_2 (p := 22) rfl
theorem dX6_takePairs_89 : decode cX6_takePairs 89 = .ok (.aload_n 0, 1) := zD42 whX6_takePairs_2 (p := 23) rfl
theorem dX6_takePairs_90 : decode cX6_takePairs 90 = .ok (.iload_n 1, 1) := zD27 whX6_takePairs_2 (p := 24) rfl
theorem dX6_takePairs_91 : decode cX6_takePairs 91 = .ok (.lload 6, 2) := zD22 whX6_takePairs_2 (p := 25) rfl
theorem dX6_takePairs_93 : decode cX6_takePairs 93 = .ok (.lconst 1, 1) := zD10 whX6_takePairs_2 (p := 27) rfl
theorem dX6_takePairs_94 : decode cX6_takePairs 94 = .ok (.ladd, 1) := zD97 whX6_takePairs_2 (p := 28) rfl
theorem dX6_takePairs_95 : decode cX6_takePairs 95 = .ok (.invokevirtual 33, 3) := zD182 whX6_takePairs_2 (p := 29) rfl rfl
def wlX6_takePairs_3 : List Nat := [181, 0, 41, 42, 180, 0, 41, 154, 0, 49, 42, 180, 0, 23, 21, 5, 42, 180, 0, 20, 27, 50, 22, 6, 136, 46, 79, 42, 180, 0, 26, 21, 5]
theorem whX6_takePairs_3 : WLy cX6_takePairs 98 wlX6_takePairs_3 := by decide +kernel
theorem dX6_takePairs_98 : decode cX6_takePairs 98 = .ok (.putfield 41, 3) := zD181 whX6_takePairs_3 (p := 0) rfl rfl
theorem dX6_takePairs_101 : decode cX6_takePairs 101 = .ok (.aload_n 0, 1) := zD42 whX6_takePairs_3 (p := 3) rfl
theorem dX6_takePairs_102 : decode cX6_takePairs 102 = .ok (.getfield 41, 3) := zD180 whX6_takePairs_3 (p := 4) rfl rfl
theorem dX6_takePairs_105 : decode cX6_takePairs 105 = .ok (.ifCond .ne 49, 3) := zD154p whX6_takePairs_3 (p := 7) (v := 49) rfl rfl rfl
theorem dX6_takePairs_108 : decode cX6_takePairs 108 = .ok (.aload_n 0, 1) := zD42 whX6_takePairs_3 (p := 10) rfl
theorem dX6_takePairs_109 : decode cX6_takePairs 109 = .ok (.getfield 23, 3) := zD180 whX6_takePairs_3 (p := 11) rfl rfl
theorem dX6_takePairs_112 : decode cX6_takePairs 112 = .ok (.iload 5, 2) := zD21 whX6_takePairs_3 (p := 14) rfl
theorem dX6_takePairs_114 : decode cX6_takePairs 114 = .ok (.aload_n 0, 1) := zD42 whX6_takePairs_3 (p := 16) rfl
theorem dX6_takePairs_115 : decode cX6_takePairs 115 = .ok (.getfield 20, 3) := zD180 whX6_takePairs_3 (p := 17) rfl rfl
theorem dX6_takePairs_118 : decode cX6_takePairs 118 = .ok (.iload_n 1, 1) := zD27 whX6_takePairs_3 (p := 20) rfl
theorem dX6_takePairs_119 : decode cX6_takePairs 119 = .ok (.aaload, 1) := zD50 whX6_takePairs_3 (p := 21) rfl
theorem dX6_takePairs_120 : decode cX6_takePairs 120 = .ok (.lload 6, 2) := zD22 whX6_takePairs_3 (p := 22) rfl
theorem dX6_takePairs_122 : decode cX6_takePairs 122 = .ok (.l2i, 1) := zD136 whX6_takePairs_3 (p := 24) rfl
theorem dX6_takePairs_123 : decode cX6_takePairs 123 = .ok (.iaload, 1) := zD46 whX6_takePairs_3 (p := 25) rfl
theorem dX6_takePairs_124 : decode cX6_takePairs 124 = .ok (.iastore, 1) := zD79 whX6_takePairs_3 (p := 26) rfl
theorem dX6_takePairs_125 : decode cX6_takePairs 125 = .ok (.aload_n 0, 1) := zD42 whX6_takePairs_3 (p := 27) rfl
theorem dX6_takePairs_126 : decode cX6_takePairs 126 = .ok (.getfield 26, 3) := zD180 whX6_takePairs_3 (p := 28) rfl rfl
theorem dX6_takePairs_129 : decode cX6_takePairs 129 = .ok (.iload 5, 2) := zD21 whX6_takePairs_3 (p := 31) rfl
def wlX6_takePairs_4 : List Nat := [42, 180, 0, 20, 27, 50, 22, 6, 136, 4, 96, 46, 79, 42, 89, 180, 0, 37, 4, 96, 181, 0, 37, 132, 5, 1, 167, 255, 136, 177]
theorem whX6_takePairs_4 : WLy cX6_takePairs 131 wlX6_takePairs_4 := by decide +kernel
theorem dX6_takePairs_131 : decode cX6_takePairs 131 = .ok (.aload_n 0, 1) := zD42 whX6_takePairs_4 (p := 0) rfl
theorem dX6_takePairs_132 : decode cX6_takePairs 132 = .ok (.getfield 20, 3) := zD180 whX6_takePairs_4 (p := 1) rfl rfl
theorem dX6_takePairs_135 : decode cX6_takePairs 135 = .ok (.iload_n 1, 1) := zD27 whX6_takePairs_4 (p := 4) rfl
theorem dX6_takePairs_136 : decode cX6_takePairs 136 = .ok (.aaload, 1) := zD50 whX6_takePairs_4 (p := 5) rfl
theorem dX6_takePairs_137 : decode cX6_takePairs 137 = .ok (.lload 6, 2) := zD22 whX6_takePairs_4 (p := 6) rfl
theorem dX6_takePairs_139 : decode cX6_takePairs 139 = .ok (.l2i, 1) := zD136 whX6_takePairs_4 (p := 8) rfl
theorem dX6_takePairs_140 : decode cX6_takePairs 140 = .ok (.iconst 1, 1) := zD4 whX6_takePairs_4 (p := 9) rfl
theorem dX6_takePairs_141 : decode cX6_takePairs 141 = .ok (.iadd, 1) := zD96 whX6_takePairs_4 (p := 10) rfl
theorem dX6_takePairs_142 : decode cX6_takePairs 142 = .ok (.iaload, 1) := zD46 whX6_takePairs_4 (p := 11) rfl
theorem dX6_takePairs_143 : decode cX6_takePairs 143 = .ok (.iastore, 1) := zD79 whX6_takePairs_4 (p := 12) rfl
theorem dX6_takePairs_144 : decode cX6_takePairs 144 = .ok (.aload_n 0, 1) := zD42 whX6_takePairs_4 (p := 13) rfl
theorem dX6_takePairs_145 : decode cX6_takePairs 145 = .ok (.dup, 1) := zD89 whX6_takePairs_4 (p := 14) rfl
theorem dX6_takePairs_146 : decode cX6_takePairs 146 = .ok (.getfield 37, 3) := zD180 whX6_takePairs_4 (p := 15) rfl rfl
theorem dX6_takePairs_149 : decode cX6_takePairs 149 = .ok (.iconst 1, 1) := zD4 whX6_takePairs_4 (p := 18) rfl
theorem dX6_takePairs_150 : decode cX6_takePairs 150 = .ok (.iadd, 1) := zD96 whX6_takePairs_4 (p := 19) rfl
theorem dX6_takePairs_151 : decode cX6_takePairs 151 = .ok (.putfield 37, 3) := zD181 whX6_takePairs_4 (p := 20) rfl rfl
theorem dX6_takePairs_154 : decode cX6_takePairs 154 = .ok (.iinc 5 1, 3) := zD132p whX6_takePairs_4 (p := 23) (v := 1) rfl rfl rfl
theorem dX6_takePairs_157 : decode cX6_takePairs 157 = .ok (.goto (-120), 3) := zD167n whX6_takePairs_4 (p := 26) (v := 120) rfl rfl rfl
theorem dX6_takePairs_160 : decode cX6_takePairs 160 = .ok (.return_, 1) := zD177 whX6_takePairs_4 (p := 29) rfl
def wlX7_init_0 : List Nat := [42, 183, 0, 1, 42, 17, 1, 64, 188, 10, 181, 0, 9, 177]
theorem whX7_init_0 : WLy cX7_init 0 wlX7_init_0 := by decide +kernel
theorem dX7_init_0 : decode cX7_init 0 = .ok (.aload_n 0, 1) := zD42 whX7_init_0 (p := 0) rfl
theorem dX7_init_1 : decode cX7_init 1 = .ok (.invokespecial 1, 3) := zD183 whX7_init_0 (p := 1) rfl rfl
theorem dX7_init_4 : decode cX7_init 4 = .ok (.aload_n 0, 1) := zD42 whX7_init_0 (p := 4) rfl
theorem dX7_init_5 : decode cX7_init 5 = .ok (.sipush 320, 3) := zD17p whX7_init_0 (p := 5) (v := 320) rfl rfl rfl
theorem dX7_init_10 : decode cX7_init 10 = .ok (.putfield 9, 3) := zD181 whX7_init_0 (p := 10) rfl rfl
theorem dX7_init_13 : decode cX7_init 13 = .ok (.return_, 1) := zD177 whX7_init_0 (p := 13) rfl
def wlX7_addBytes_0 : List Nat := [42, 180, 0, 13, 155, 0, 16, 42, 180, 0, 13, 16, 8, 96, 17, 1, 64, 164, 0, 5, 3, 172, 16, 56, 62, 29, 155, 0, 36, 42, 180, 0, 9]
theorem whX7_addBytes_0 : WLy cX7_addBytes 0 wlX7_addBytes_0 := by decide +kernel
theorem dX7_addBytes_0 : decode cX7_addBytes 0 = .ok (.aload_n 0, 1) := zD42 whX7_addBytes_0 (p := 0) rfl
theorem dX7_addBytes_1 : decode cX7_addBytes 1 = .ok (.getfield 13, 3) := zD180 whX7_addBytes_0 (p := 1) rfl rfl
theorem dX7_addBytes_4 : decode cX7_addBytes 4 = .ok (.ifCond .lt 16, 3) := zD155p whX7_addBytes_0 (p := 4) (v := 16) rfl rfl rfl
theorem dX7_addBytes_7 : decode cX7_addBytes 7 = .ok (.aload_n 0, 1) := zD42 whX7_addBytes_0 (p := 7) rfl
theorem dX7_addBytes_8 : decode cX7_addBytes 8 = .ok (.getfield 13, 3) := zD180 whX7_addBytes_0 (p := 8) rfl rfl
theorem dX7_addBytes_11 : decode cX7_addBytes 11 = .ok (.bipush 8, 2) := zD16p whX7_addBytes_0 (p := 11) (v := 8) rfl rfl rfl
theorem dX7_addBytes_13 : decode cX7_addBytes 13 = .ok (.iadd, 1) := zD96 whX7_addBytes_0 (p := 13) rfl
theorem dX7_addBytes_14 : decode cX7_addBytes 14 = .ok (.sipush 320, 3) := zD17p whX7_addBytes_0 (p := 14) (v := 320) rfl rfl rfl
theorem dX7_addBytes_17 : decode cX7_addBytes 17 = .ok (.if_icmp .le 5, 3) := zD164p whX7_addBytes_0 (p := 17) (v := 5) rfl rfl rfl
theorem dX7_addBytes_20 : decode cX7_addBytes 20 = .ok (.iconst 0, 1) := zD3 whX7_addBytes_0 (p := 20) rfl
theorem dX7_addBytes_21 : decode cX7_addBytes 21 = .ok (.ireturn, 1) := zD172 whX7_addBytes_0 (p := 21) rfl
theorem dX7_addBytes_22 : decode cX7_addBytes 22 = .ok (.bipush 56, 2) := zD16p whX7_addBytes_0 (p := 22) (v := 56) rfl rfl rfl
theorem dX7_addBytes_24 : decode cX7_addBytes 24 = .ok (.istore_n 3, 1) := zD62 whX7_addBytes_0 (p := 24) rfl
theorem dX7_addBytes_25 : decode cX7_addBytes 25 = .ok (.iload_n 3, 1) := zD29 whX7_addBytes_0 (p := 25) rfl
theorem dX7_addBytes_26 : decode cX7_addBytes 26 = .ok (.ifCond .lt 36, 3) := zD155p whX7_addBytes_0 (p := 26) (v := 36) rfl rfl rfl
theorem dX7_addBytes_29 : decode cX7_addBytes 29 = .ok (.aload_n 0, 1) := zD42 whX7_addBytes_0 (p := 29) rfl
theorem dX7_addBytes_30 : decode cX7_addBytes 30 = .ok (.getfield 9, 3) := zD180 whX7_addBytes_0 (p := 30) rfl rfl
def wlX7_addBytes_1 : List Nat := [42, 180, 0, 13, 31, 29, 125, 20, 0, 17, 127, 136, 79, 42, 89, 180, 0, 13, 4, 96, 181, 0, 13, 132, 3, 248, 167, 255, 222, 4, 172]
theorem whX7_addBytes_1 : WLy cX7_addBytes 33 wlX7_addBytes_1 := by decide +kernel
theorem dX7_addBytes_33 : decode cX7_addBytes 33 = .ok (.aload_n 0, 1) := zD42 whX7_addBytes_1 (p := 0) rfl
theorem dX7_addBytes_34 : decode cX7_addBytes 34 = .ok (.getfield 13, 3) := zD180 whX7_addBytes_1 (p := 1) rfl rfl
theorem dX7_addBytes_37 : decode cX7_addBytes 37 = .ok (.lload_n 1, 1) := zD31 whX7_addBytes_1 (p := 4) rfl
theorem dX7_addBytes_38 : decode cX7_addBytes 38 = .ok (.iload_n 3, 1) := zD29 whX7_addBytes_1 (p := 5) rfl
theorem dX7_addBytes_39 : decode cX7_addBytes 39 = .ok (.lushr, 1) := zD125 whX7_addBytes_1 (p := 6) rfl
theorem dX7_addBytes_40 : decode cX7_addBytes 40 = .ok (.ldc2_w 17, 3) := zD20 whX7_addBytes_1 (p := 7) rfl rfl
theorem dX7_addBytes_43 : decode cX7_addBytes 43 = .ok (.land, 1) := zD127 whX7_addBytes_1 (p := 10) rfl
theorem dX7_addBytes_44 : decode cX7_addBytes 44 = .ok (.l2i, 1) := zD136 whX7_addBytes_1 (p := 11) rfl
theorem dX7_addBytes_45 : decode cX7_addBytes 45 = .ok (.iastore, 1) := zD79 whX7_addBytes_1 (p := 12) rfl
theorem dX7_addBytes_46 : decode cX7_addBytes 46 = .ok (.aload_n 0, 1) := zD42 whX7_addBytes_1 (p := 13) rfl
theorem dX7_addBytes_47 : decode cX7_addBytes 47 = .ok (.dup, 1) := zD89 whX7_addBytes_1 (p := 14) rfl
theorem dX7_addBytes_48 : decode cX7_addBytes 48 = .ok (.getfield 13, 3) := zD180 whX7_addBytes_1 (p := 15) rfl rfl
theorem dX7_addBytes_51 : decode cX7_addBytes 51 = .ok (.iconst 1, 1) := zD4 whX7_addBytes_1 (p := 18) rfl
theorem dX7_addBytes_52 : decode cX7_addBytes 52 = .ok (.iadd, 1) := zD96 whX7_addBytes_1 (p := 19) rfl
theorem dX7_addBytes_53 : decode cX7_addBytes 53 = .ok (.putfield 13, 3) := zD181 whX7_addBytes_1 (p := 20) rfl rfl
theorem dX7_addBytes_56 : decode cX7_addBytes 56 = .ok (.iinc 3 (-8), 3) := zD132n whX7_addBytes_1 (p := 23) (v := 8) rfl rfl rfl
theorem dX7_addBytes_59 : decode cX7_addBytes 59 = .ok (.goto (-34), 3) := zD167n whX7_addBytes_1 (p := 26) (v := 34) rfl rfl rfl
theorem dX7_addBytes_62 : decode cX7_addBytes 62 = .ok (.iconst 1, 1) := zD4 whX7_addBytes_1 (p := 29) rfl
theorem dX7_addBytes_63 : decode cX7_addBytes 63 = .ok (.ireturn, 1) := zD172 whX7_addBytes_1 (p := 30) rfl
def wlX7_byteAt_0 : List Nat := [27, 155, 0, 20, 27, 42, 180, 0, 13, 162, 0, 12, 42, 180, 0, 9, 27, 46, 167, 0, 4, 3, 172]
theorem whX7_byteAt_0 : WLy cX7_byteAt 0 wlX7_byteAt_0 := by decide +kernel
theorem dX7_byteAt_0 : decode cX7_byteAt 0 = .ok (.iload_n 1, 1) := zD27 whX7_byteAt_0 (p := 0) rfl
theorem dX7_byteAt_1 : decode cX7_byteAt 1 = .ok (.ifCond .lt 20, 3) := zD155p whX7_byteAt_0 (p := 1) (v := 20) rfl rfl rfl
theorem dX7_byteAt_4 : decode cX7_byteAt 4 = .ok (.iload_n 1, 1) := zD27 whX7_byteAt_0 (p := 4) rfl
theorem dX7_byteAt_5 : decode cX7_byteAt 5 = .ok (.aload_n 0, 1) := zD42 whX7_byteAt_0 (p := 5) rfl
theorem dX7_byteAt_6 : decode cX7_byteAt 6 = .ok (.getfield 13, 3) := zD180 whX7_byteAt_0 (p := 6) rfl rfl
theorem dX7_byteAt_9 : decode cX7_byteAt 9 = .ok (.if_icmp .ge 12, 3) := zD162p whX7_byteAt_0 (p := 9) (v := 12) rfl rfl rfl
theorem dX7_byteAt_12 : decode cX7_byteAt 12 = .ok (.aload_n 0, 1) := zD42 whX7_byteAt_0 (p := 12) rfl
theorem dX7_byteAt_13 : decode cX7_byteAt 13 = .ok (.getfield 9, 3) := zD180 whX7_byteAt_0 (p := 13) rfl rfl
theorem dX7_byteAt_16 : decode cX7_byteAt 16 = .ok (.iload_n 1, 1) := zD27 whX7_byteAt_0 (p := 16) rfl
theorem dX7_byteAt_17 : decode cX7_byteAt 17 = .ok (.iaload, 1) := zD46 whX7_byteAt_0 (p := 17) rfl
theorem dX7_byteAt_18 : decode cX7_byteAt 18 = .ok (.goto 4, 3) := zD167p whX7_byteAt_0 (p := 18) (v := 4) rfl rfl rfl
theorem dX7_byteAt_21 : decode cX7_byteAt 21 = .ok (.iconst 0, 1) := zD3 whX7_byteAt_0 (p := 21) rfl
theorem dX7_byteAt_22 : decode cX7_byteAt 22 = .ok (.ireturn, 1) := zD172 whX7_byteAt_0 (p := 22) rfl
def wlX7_says_0 : List Nat := [27, 155, 0, 21, 28, 42, 180, 0, 13, 163, 0, 13, 28, 27, 100, 45, 182, 0, 19, 159, 0, 5, 3, 172, 3, 54, 4, 21, 4, 45, 182, 0, 19]
theorem whX7_says_0 : WLy cX7_says 0 wlX7_says_0 := by decide +kernel
theorem dX7_says_0 : decode cX7_says 0 = .ok (.iload_n 1, 1) := zD27 whX7_says_0 (p := 0) rfl
theorem dX7_says_1 : decode cX7_says 1 = .ok (.ifCond .lt 21, 3) := zD155p whX7_says_0 (p := 1) (v := 21) rfl rfl rfl
theorem dX7_says_4 : decode cX7_says 4 = .ok (.iload_n 2, 1) := zD28 whX7_says_0 (p := 4) rfl
theorem dX7_says_5 : decode cX7_says 5 = .ok (.aload_n 0, 1) := zD42 whX7_says_0 (p := 5) rfl
theorem dX7_says_6 : decode cX7_says 6 = .ok (.getfield 13, 3) := zD180 whX7_says_0 (p := 6) rfl rfl
theorem dX7_says_9 : decode cX7_says 9 = .ok (.if_icmp .gt 13, 3) := zD163p whX7_says_0 (p := 9) (v := 13) rfl rfl rfl
theorem dX7_says_12 : decode cX7_says 12 = .ok (.iload_n 2, 1) := zD28 whX7_says_0 (p := 12) rfl
theorem dX7_says_13 : decode cX7_says 13 = .ok (.iload_n 1, 1) := zD27 whX7_says_0 (p := 13) rfl
theorem dX7_says_14 : decode cX7_says 14 = .ok (.isub, 1) := zD100 whX7_says_0 (p := 14) rfl
theorem dX7_says_15 : decode cX7_says 15 = .ok (.aload_n 3, 1) := zD45 whX7_says_0 (p := 15) rfl
theorem dX7_says_16 : decode cX7_says 16 = .ok (.invokevirtual 19, 3) := zD182 whX7_says_0 (p := 16) rfl rfl
theorem dX7_says_19 : decode cX7_says 19 = .ok (.if_icmp .eq 5, 3) := zD159p whX7_says_0 (p := 19) (v := 5) rfl rfl rfl
theorem dX7_says_22 : decode cX7_says 22 = .ok (.iconst 0, 1) := zD3 whX7_says_0 (p := 22) rfl
theorem dX7_says_23 : decode cX7_says 23 = .ok (.ireturn, 1) := zD172 whX7_says_0 (p := 23) rfl
theorem dX7_says_24 : decode cX7_says 24 = .ok (.iconst 0, 1) := zD3 whX7_says_0 (p := 24) rfl
theorem dX7_says_25 : decode cX7_says 25 = .ok (.istore 4, 2) := zD54 whX7_says_0 (p := 25) rfl
theorem dX7_says_27 : decode cX7_says 27 = .ok (.iload 4, 2) := zD21 whX7_says_0 (p := 27) rfl
theorem dX7_says_29 : decode cX7_says 29 = .ok (.aload_n 3, 1) := zD45 whX7_says_0 (p := 29) rfl
theorem dX7_says_30 : decode cX7_says 30 = .ok (.invokevirtual 19, 3) := zD182 whX7_says_0 (p := 30) rfl rfl
def wlX7_says_1 : List Nat := [162, 0, 29, 42, 180, 0, 9, 27, 21, 4, 96, 46, 45, 21, 4, 182, 0, 24, 159, 0, 5, 3, 172, 132, 4, 1, 167, 255, 224, 4, 172]
theorem whX7_says_1 : WLy cX7_says 33 wlX7_says_1 := by decide +kernel
theorem dX7_says_33 : decode cX7_says 33 = .ok (.if_icmp .ge 29, 3) := zD162p whX7_says_1 (p := 0) (v := 29) rfl rfl rfl
theorem dX7_says_36 : decode cX7_says 36 = .ok (.aload_n 0, 1) := zD42 whX7_says_1 (p := 3) rfl
theorem dX7_says_37 : decode cX7_says 37 = .ok (.getfield 9, 3) := zD180 whX7_says_1 (p := 4) rfl rfl
theorem dX7_says_40 : decode cX7_says 40 = .ok (.iload_n 1, 1) := zD27 whX7_says_1 (p := 7) rfl
theorem dX7_says_41 : decode cX7_says 41 = .ok (.iload 4, 2) := zD21 whX7_says_1 (p := 8) rfl
theorem dX7_says_43 : decode cX7_says 43 = .ok (.iadd, 1) := zD96 whX7_says_1 (p := 10) rfl
theorem dX7_says_44 : decode cX7_says 44 = .ok (.iaload, 1) := zD46 whX7_says_1 (p := 11) rfl
theorem dX7_says_45 : decode cX7_says 45 = .ok (.aload_n 3, 1) := zD45 whX7_says_1 (p := 12) rfl
theorem dX7_says_46 : decode cX7_says 46 = .ok (.iload 4, 2) := zD21 whX7_says_1 (p := 13) rfl
theorem dX7_says_48 : decode cX7_says 48 = .ok (.invokevirtual 24, 3) := zD182 whX7_says_1 (p := 15) rfl rfl
theorem dX7_says_51 : decode cX7_says 51 = .ok (.if_icmp .eq 5, 3) := zD159p whX7_says_1 (p := 18) (v := 5) rfl rfl rfl
theorem dX7_says_54 : decode cX7_says 54 = .ok (.iconst 0, 1) := zD3 whX7_says_1 (p := 21) rfl
theorem dX7_says_55 : decode cX7_says 55 = .ok (.ireturn, 1) := zD172 whX7_says_1 (p := 22) rfl
theorem dX7_says_56 : decode cX7_says 56 = .ok (.iinc 4 1, 3) := zD132p whX7_says_1 (p := 23) (v := 1) rfl rfl rfl
theorem dX7_says_59 : decode cX7_says 59 = .ok (.goto (-32), 3) := zD167n whX7_says_1 (p := 26) (v := 32) rfl rfl rfl
theorem dX7_says_62 : decode cX7_says 62 = .ok (.iconst 1, 1) := zD4 whX7_says_1 (p := 29) rfl
theorem dX7_says_63 : decode cX7_says 63 = .ok (.ireturn, 1) := zD172 whX7_says_1 (p := 30) rfl
def wlX7_pastAll_0 : List Nat := [27, 54, 4, 21, 4, 155, 0, 40, 21, 4, 42, 180, 0, 13, 162, 0, 31, 42, 180, 0, 9, 21, 4, 46, 28, 161, 0, 20, 42, 180, 0, 9]
theorem whX7_pastAll_0 : WLy cX7_pastAll 0 wlX7_pastAll_0 := by decide +kernel
theorem dX7_pastAll_0 : decode cX7_pastAll 0 = .ok (.iload_n 1, 1) := zD27 whX7_pastAll_0 (p := 0) rfl
theorem dX7_pastAll_1 : decode cX7_pastAll 1 = .ok (.istore 4, 2) := zD54 whX7_pastAll_0 (p := 1) rfl
theorem dX7_pastAll_3 : decode cX7_pastAll 3 = .ok (.iload 4, 2) := zD21 whX7_pastAll_0 (p := 3) rfl
theorem dX7_pastAll_5 : decode cX7_pastAll 5 = .ok (.ifCond .lt 40, 3) := zD155p whX7_pastAll_0 (p := 5) (v := 40) rfl rfl rfl
theorem dX7_pastAll_8 : decode cX7_pastAll 8 = .ok (.iload 4, 2) := zD21 whX7_pastAll_0 (p := 8) rfl
theorem dX7_pastAll_10 : decode cX7_pastAll 10 = .ok (.aload_n 0, 1) := zD42 whX7_pastAll_0 (p := 10) rfl
theorem dX7_pastAll_11 : decode cX7_pastAll 11 = .ok (.getfield 13, 3) := zD180 whX7_pastAll_0 (p := 11) rfl rfl
theorem dX7_pastAll_14 : decode cX7_pastAll 14 = .ok (.if_icmp .ge 31, 3) := zD162p whX7_pastAll_0 (p := 14) (v := 31) rfl rfl rfl
theorem dX7_pastAll_17 : decode cX7_pastAll 17 = .ok (.aload_n 0, 1) := zD42 whX7_pastAll_0 (p := 17) rfl
theorem dX7_pastAll_18 : decode cX7_pastAll 18 = .ok (.getfield 9, 3) := zD180 whX7_pastAll_0 (p := 18) rfl rfl
theorem dX7_pastAll_21 : decode cX7_pastAll 21 = .ok (.iload 4, 2) := zD21 whX7_pastAll_0 (p := 21) rfl
theorem dX7_pastAll_23 : decode cX7_pastAll 23 = .ok (.iaload, 1) := zD46 whX7_pastAll_0 (p := 23) rfl
theorem dX7_pastAll_24 : decode cX7_pastAll 24 = .ok (.iload_n 2, 1) := zD28 whX7_pastAll_0 (p := 24) rfl
theorem dX7_pastAll_25 : decode cX7_pastAll 25 = .ok (.if_icmp .lt 20, 3) := zD161p whX7_pastAll_0 (p := 25) (v := 20) rfl rfl rfl
theorem dX7_pastAll_28 : decode cX7_pastAll 28 = .ok (.aload_n 0, 1) := zD42 whX7_pastAll_0 (p := 28) rfl
theorem dX7_pastAll_29 : decode cX7_pastAll 29 = .ok (.getfield 9, 3) := zD180 whX7_pastAll_0 (p := 29) rfl rfl
def wlX7_pastAll_1 : List Nat := [21, 4, 46, 29, 163, 0, 9, 132, 4, 1, 167, 255, 217, 21, 4, 172]
theorem whX7_pastAll_1 : WLy cX7_pastAll 32 wlX7_pastAll_1 := by decide +kernel
theorem dX7_pastAll_32 : decode cX7_pastAll 32 = .ok (.iload 4, 2) := zD21 whX7_pastAll_1 (p := 0) rfl
theorem dX7_pastAll_34 : decode cX7_pastAll 34 = .ok (.iaload, 1) := zD46 whX7_pastAll_1 (p := 2) rfl
theorem dX7_pastAll_35 : decode cX7_pastAll 35 = .ok (.iload_n 3, 1) := zD29 whX7_pastAll_1 (p := 3) rfl
theorem dX7_pastAll_36 : decode cX7_pastAll 36 = .ok (.if_icmp .gt 9, 3) := zD163p whX7_pastAll_1 (p := 4) (v := 9) rfl rfl rfl
theorem dX7_pastAll_39 : decode cX7_pastAll 39 = .ok (.iinc 4 1, 3) := zD132p whX7_pastAll_1 (p := 7) (v := 1) rfl rfl rfl
theorem dX7_pastAll_42 : decode cX7_pastAll 42 = .ok (.goto (-39), 3) := zD167n whX7_pastAll_1 (p := 10) (v := 39) rfl rfl rfl
theorem dX7_pastAll_45 : decode cX7_pastAll 45 = .ok (.iload 4, 2) := zD21 whX7_pastAll_1 (p := 13) rfl
theorem dX7_pastAll_47 : decode cX7_pastAll 47 = .ok (.ireturn, 1) := zD172 whX7_pastAll_1 (p := 15) rfl
def wlX8_init_0 : List Nat := [42, 183, 0, 3, 42, 16, 11, 16, 10, 197, 0, 9, 2, 181, 0, 11, 42, 16, 11, 16, 10, 197, 0, 9, 2, 181, 0, 16, 177]
theorem whX8_init_0 : WLy cX8_init 0 wlX8_init_0 := by decide +kernel
theorem dX8_init_0 : decode cX8_init 0 = .ok (.aload_n 0, 1) := zD42 whX8_init_0 (p := 0) rfl
theorem dX8_init_1 : decode cX8_init 1 = .ok (.invokespecial 3, 3) := zD183 whX8_init_0 (p := 1) rfl rfl
theorem dX8_init_4 : decode cX8_init 4 = .ok (.aload_n 0, 1) := zD42 whX8_init_0 (p := 4) rfl
theorem dX8_init_5 : decode cX8_init 5 = .ok (.bipush 11, 2) := zD16p whX8_init_0 (p := 5) (v := 11) rfl rfl rfl
theorem dX8_init_7 : decode cX8_init 7 = .ok (.bipush 10, 2) := zD16p whX8_init_0 (p := 7) (v := 10) rfl rfl rfl
theorem dX8_init_13 : decode cX8_init 13 = .ok (.putfield 11, 3) := zD181 whX8_init_0 (p := 13) rfl rfl
theorem dX8_init_16 : decode cX8_init 16 = .ok (.aload_n 0, 1) := zD42 whX8_init_0 (p := 16) rfl
theorem dX8_init_17 : decode cX8_init 17 = .ok (.bipush 11, 2) := zD16p whX8_init_0 (p := 17) (v := 11) rfl rfl rfl
theorem dX8_init_19 : decode cX8_init 19 = .ok (.bipush 10, 2) := zD16p whX8_init_0 (p := 19) (v := 10) rfl rfl rfl
theorem dX8_init_25 : decode cX8_init 25 = .ok (.putfield 16, 3) := zD181 whX8_init_0 (p := 25) rfl rfl
theorem dX8_init_28 : decode cX8_init 28 = .ok (.return_, 1) := zD177 whX8_init_0 (p := 28) rfl
def wlX8_explore_0 : List Nat := [3, 62, 29, 16, 10, 162, 0, 42, 42, 180, 0, 11, 3, 50, 29, 29, 43, 180, 0, 19, 160, 0, 7, 4, 167, 0, 4, 3, 79, 42, 180, 0, 16]
theorem whX8_explore_0 : WLy cX8_explore 0 wlX8_explore_0 := by decide +kernel
theorem dX8_explore_0 : decode cX8_explore 0 = .ok (.iconst 0, 1) := zD3 whX8_explore_0 (p := 0) rfl
theorem dX8_explore_1 : decode cX8_explore 1 = .ok (.istore_n 3, 1) := zD62 whX8_explore_0 (p := 1) rfl
theorem dX8_explore_2 : decode cX8_explore 2 = .ok (.iload_n 3, 1) := zD29 whX8_explore_0 (p := 2) rfl
theorem dX8_explore_3 : decode cX8_explore 3 = .ok (.bipush 10, 2) := zD16p whX8_explore_0 (p := 3) (v := 10) rfl rfl rfl
theorem dX8_explore_5 : decode cX8_explore 5 = .ok (.if_icmp .ge 42, 3) := zD162p whX8_explore_0 (p := 5) (v := 42) rfl rfl rfl
theorem dX8_explore_8 : decode cX8_explore 8 = .ok (.aload_n 0, 1) := zD42 whX8_explore_0 (p := 8) rfl
theorem dX8_explore_9 : decode cX8_explore 9 = .ok (.getfield 11, 3) := zD180 whX8_explore_0 (p := 9) rfl rfl
theorem dX8_explore_12 : decode cX8_explore 12 = .ok (.iconst 0, 1) := zD3 whX8_explore_0 (p := 12) rfl
theorem dX8_explore_13 : decode cX8_explore 13 = .ok (.aaload, 1) := zD50 whX8_explore_0 (p := 13) rfl
theorem dX8_explore_14 : decode cX8_explore 14 = .ok (.iload_n 3, 1) := zD29 whX8_explore_0 (p := 14) rfl
theorem dX8_explore_15 : decode cX8_explore 15 = .ok (.iload_n 3, 1) := zD29 whX8_explore_0 (p := 15) rfl
theorem dX8_explore_16 : decode cX8_explore 16 = .ok (.aload_n 1, 1) := zD43 whX8_explore_0 (p := 16) rfl
theorem dX8_explore_17 : decode cX8_explore 17 = .ok (.getfield 19, 3) := zD180 whX8_explore_0 (p := 17) rfl rfl
theorem dX8_explore_20 : decode cX8_explore 20 = .ok (.if_icmp .ne 7, 3) := zD160p whX8_explore_0 (p := 20) (v := 7) rfl rfl rfl
theorem dX8_explore_23 : decode cX8_explore 23 = .ok (.iconst 1, 1) := zD4 whX8_explore_0 (p := 23) rfl
theorem dX8_explore_24 : decode cX8_explore 24 = .ok (.goto 4, 3) := zD167p whX8_explore_0 (p := 24) (v := 4) rfl rfl rfl
theorem dX8_explore_27 : decode cX8_explore 27 = .ok (.iconst 0, 1) := zD3 whX8_explore_0 (p := 27) rfl
theorem dX8_explore_28 : decode cX8_explore 28 = .ok (.iastore, 1) := zD79 whX8_explore_0 (p := 28) rfl
theorem dX8_explore_29 : decode cX8_explore 29 = .ok (.aload_n 0, 1) := zD42 whX8_explore_0 (p := 29) rfl
theorem dX8_explore_30 : decode cX8_explore 30 = .ok (.getfield 16, 3) := zD180 whX8_explore_0 (p := 30) rfl rfl
def wlX8_explore_1 : List Nat := [43, 180, 0, 25, 50, 29, 4, 79, 132, 3, 1, 167, 255, 214, 3, 62, 29, 43, 180, 0, 25, 162, 0, 32, 42, 43, 29, 182, 0, 28, 29, 182, 0, 32]
theorem whX8_explore_1 : WLy cX8_explore 33 wlX8_explore_1 := by decide +kernel
theorem dX8_explore_33 : decode cX8_explore 33 = .ok (.aload_n 1, 1) := zD43 whX8_explore_1 (p := 0) rfl
theorem dX8_explore_34 : decode cX8_explore 34 = .ok (.getfield 25, 3) := zD180 whX8_explore_1 (p := 1) rfl rfl
theorem dX8_explore_37 : decode cX8_explore 37 = .ok (.aaload, 1) := zD50 whX8_explore_1 (p := 4) rfl
theorem dX8_explore_38 : decode cX8_explore 38 = .ok (.iload_n 3, 1) := zD29 whX8_explore_1 (p := 5) rfl
theorem dX8_explore_39 : decode cX8_explore 39 = .ok (.iconst 1, 1) := zD4 whX8_explore_1 (p := 6) rfl
theorem dX8_explore_40 : decode cX8_explore 40 = .ok (.iastore, 1) := zD79 whX8_explore_1 (p := 7) rfl
theorem dX8_explore_41 : decode cX8_explore 41 = .ok (.iinc 3 1, 3) := zD132p whX8_explore_1 (p := 8) (v := 1) rfl rfl rfl
theorem dX8_explore_44 : decode cX8_explore 44 = .ok (.goto (-42), 3) := zD167n whX8_explore_1 (p := 11) (v := 42) rfl rfl rfl
theorem dX8_explore_47 : decode cX8_explore 47 = .ok (.iconst 0, 1) := zD3 whX8_explore_1 (p := 14) rfl
theorem dX8_explore_48 : decode cX8_explore 48 = .ok (.istore_n 3, 1) := zD62 whX8_explore_1 (p := 15) rfl
theorem dX8_explore_49 : decode cX8_explore 49 = .ok (.iload_n 3, 1) := zD29 whX8_explore_1 (p := 16) rfl
theorem dX8_explore_50 : decode cX8_explore 50 = .ok (.aload_n 1, 1) := zD43 whX8_explore_1 (p := 17) rfl
theorem dX8_explore_51 : decode cX8_explore 51 = .ok (.getfield 25, 3) := zD180 whX8_explore_1 (p := 18) rfl rfl
theorem dX8_explore_54 : decode cX8_explore 54 = .ok (.if_icmp .ge 32, 3) := zD162p whX8_explore_1 (p := 21) (v := 32) rfl rfl rfl
theorem dX8_explore_57 : decode cX8_explore 57 = .ok (.aload_n 0, 1) := zD42 whX8_explore_1 (p := 24) rfl
theorem dX8_explore_58 : decode cX8_explore 58 = .ok (.aload_n 1, 1) := zD43 whX8_explore_1 (p := 25) rfl
theorem dX8_explore_59 : decode cX8_explore 59 = .ok (.iload_n 3, 1) := zD29 whX8_explore_1 (p := 26) rfl
theorem dX8_explore_60 : decode cX8_explore 60 = .ok (.invokevirtual 28, 3) := zD182 whX8_explore_1 (p := 27) rfl rfl
theorem dX8_explore_63 : decode cX8_explore 63 = .ok (.iload_n 3, 1) := zD29 whX8_explore_1 (p := 30) rfl
theorem dX8_explore_64 : decode cX8_explore 64 = .ok (.invokevirtual 32, 3) := zD182 whX8_explore_1 (p := 31) rfl rfl
def wlX8_explore_2 : List Nat := [42, 180, 0, 11, 29, 4, 96, 50, 44, 29, 184, 0, 36, 132, 3, 1, 167, 255, 222, 43, 180, 0, 25, 4, 100, 62, 29, 155, 0, 32, 42, 180, 0, 16]
theorem whX8_explore_2 : WLy cX8_explore 67 wlX8_explore_2 := by decide +kernel
theorem dX8_explore_67 : decode cX8_explore 67 = .ok (.aload_n 0, 1) := zD42 whX8_explore_2 (p := 0) rfl
theorem dX8_explore_68 : decode cX8_explore 68 = .ok (.getfield 11, 3) := zD180 whX8_explore_2 (p := 1) rfl rfl
theorem dX8_explore_71 : decode cX8_explore 71 = .ok (.iload_n 3, 1) := zD29 whX8_explore_2 (p := 4) rfl
theorem dX8_explore_72 : decode cX8_explore 72 = .ok (.iconst 1, 1) := zD4 whX8_explore_2 (p := 5) rfl
theorem dX8_explore_73 : decode cX8_explore 73 = .ok (.iadd, 1) := zD96 whX8_explore_2 (p := 6) rfl
theorem dX8_explore_74 : decode cX8_explore 74 = .ok (.aaload, 1) := zD50 whX8_explore_2 (p := 7) rfl
theorem dX8_explore_75 : decode cX8_explore 75 = .ok (.aload_n 2, 1) := zD44 whX8_explore_2 (p := 8) rfl
theorem dX8_explore_76 : decode cX8_explore 76 = .ok (.iload_n 3, 1) := zD29 whX8_explore_2 (p := 9) rfl
theorem dX8_explore_77 : decode cX8_explore 77 = .ok (.invokestatic 36, 3) := zD184 whX8_explore_2 (p := 10) rfl rfl
theorem dX8_explore_80 : decode cX8_explore 80 = .ok (.iinc 3 1, 3) := zD132p whX8_explore_2 (p := 13) (v := 1) rfl rfl rfl
theorem dX8_explore_83 : decode cX8_explore 83 = .ok (.goto (-34), 3) := zD167n whX8_explore_2 (p := 16) (v := 34) rfl rfl rfl
theorem dX8_explore_86 : decode cX8_explore 86 = .ok (.aload_n 1, 1) := zD43 whX8_explore_2 (p := 19) rfl
theorem dX8_explore_87 : decode cX8_explore 87 = .ok (.getfield 25, 3) := zD180 whX8_explore_2 (p := 20) rfl rfl
theorem dX8_explore_90 : decode cX8_explore 90 = .ok (.iconst 1, 1) := zD4 whX8_explore_2 (p := 23) rfl
theorem dX8_explore_91 : decode cX8_explore 91 = .ok (.isub, 1) := zD100 whX8_explore_2 (p := 24) rfl
theorem dX8_explore_92 : decode cX8_explore 92 = .ok (.istore_n 3, 1) := zD62 whX8_explore_2 (p := 25) rfl
theorem dX8_explore_93 : decode cX8_explore 93 = .ok (.iload_n 3, 1) := zD29 whX8_explore_2 (p := 26) rfl
theorem dX8_explore_94 : decode cX8_explore 94 = .ok (.ifCond .lt 32, 3) := zD155p whX8_explore_2 (p := 27) (v := 32) rfl rfl rfl
theorem dX8_explore_97 : decode cX8_explore 97 = .ok (.aload_n 0, 1) := zD42 whX8_explore_2 (p := 30) rfl
theorem dX8_explore_98 : decode cX8_explore 98 = .ok (.getfield 16, 3) := zD180 whX8_explore_2 (p := 31) rfl rfl
def wlX8_explore_3 : List Nat := [29, 4, 96, 50, 44, 29, 184, 0, 36, 42, 43, 29, 182, 0, 28, 29, 182, 0, 40, 132, 3, 255, 167, 255, 226, 42, 42, 180, 0, 16, 3, 50]
theorem whX8_explore_3 : WLy cX8_explore 101 wlX8_explore_3 := by decide +kernel
theorem dX8_explore_101 : decode cX8_explore 101 = .ok (.iload_n 3, 1) := zD29 whX8_explore_3 (p := 0) rfl
theorem dX8_explore_102 : decode cX8_explore 102 = .ok (.iconst 1, 1) := zD4 whX8_explore_3 (p := 1) rfl
theorem dX8_explore_103 : decode cX8_explore 103 = .ok (.iadd, 1) := zD96 whX8_explore_3 (p := 2) rfl
theorem dX8_explore_104 : decode cX8_explore 104 = .ok (.aaload, 1) := zD50 whX8_explore_3 (p := 3) rfl
theorem dX8_explore_105 : decode cX8_explore 105 = .ok (.aload_n 2, 1) := zD44 whX8_explore_3 (p := 4) rfl
theorem dX8_explore_106 : decode cX8_explore 106 = .ok (.iload_n 3, 1) := zD29 whX8_explore_3 (p := 5) rfl
theorem dX8_explore_107 : decode cX8_explore 107 = .ok (.invokestatic 36, 3) := zD184 whX8_explore_3 (p := 6) rfl rfl
theorem dX8_explore_110 : decode cX8_explore 110 = .ok (.aload_n 0, 1) := zD42 whX8_explore_3 (p := 9) rfl
theorem dX8_explore_111 : decode cX8_explore 111 = .ok (.aload_n 1, 1) := zD43 whX8_explore_3 (p := 10) rfl
theorem dX8_explore_112 : decode cX8_explore 112 = .ok (.iload_n 3, 1) := zD29 whX8_explore_3 (p := 11) rfl
theorem dX8_explore_113 : decode cX8_explore 113 = .ok (.invokevirtual 28, 3) := zD182 whX8_explore_3 (p := 12) rfl rfl
theorem dX8_explore_116 : decode cX8_explore 116 = .ok (.iload_n 3, 1) := zD29 whX8_explore_3 (p := 15) rfl
theorem dX8_explore_117 : decode cX8_explore 117 = .ok (.invokevirtual 40, 3) := zD182 whX8_explore_3 (p := 16) rfl rfl
theorem dX8_explore_120 : decode cX8_explore 120 = .ok (.iinc 3 (-1), 3) := zD132n whX8_explore_3 (p := 19) (v := 1) rfl rfl rfl
theorem dX8_explore_123 : decode cX8_explore 123 = .ok (.goto (-30), 3) := zD167n whX8_explore_3 (p := 22) (v := 30) rfl rfl rfl
theorem dX8_explore_126 : decode cX8_explore 126 = .ok (.aload_n 0, 1) := zD42 whX8_explore_3 (p := 25) rfl
theorem dX8_explore_127 : decode cX8_explore 127 = .ok (.aload_n 0, 1) := zD42 whX8_explore_3 (p := 26) rfl
theorem dX8_explore_128 : decode cX8_explore 128 = .ok (.getfield 16, 3) := zD180 whX8_explore_3 (p := 27) rfl rfl
theorem dX8_explore_131 : decode cX8_explore 131 = .ok (.iconst 0, 1) := zD3 whX8_explore_3 (p := 30) rfl
theorem dX8_explore_132 : decode cX8_explore 132 = .ok (.aaload, 1) := zD50 whX8_explore_3 (p := 31) rfl
def wlX8_explore_4 : List Nat := [43, 180, 0, 19, 46, 181, 0, 43, 177]
theorem whX8_explore_4 : WLy cX8_explore 133 wlX8_explore_4 := by decide +kernel
theorem dX8_explore_133 : decode cX8_explore 133 = .ok (.aload_n 1, 1) := zD43 whX8_explore_4 (p := 0) rfl
theorem dX8_explore_134 : decode cX8_explore 134 = .ok (.getfield 19, 3) := zD180 whX8_explore_4 (p := 1) rfl rfl
theorem dX8_explore_137 : decode cX8_explore 137 = .ok (.iaload, 1) := zD46 whX8_explore_4 (p := 4) rfl
theorem dX8_explore_138 : decode cX8_explore 138 = .ok (.putfield 43, 3) := zD181 whX8_explore_4 (p := 5) rfl rfl
theorem dX8_explore_141 : decode cX8_explore 141 = .ok (.return_, 1) := zD177 whX8_explore_4 (p := 8) rfl
def wlX8_dropUnmarked_0 : List Nat := [3, 62, 29, 42, 190, 162, 0, 22, 43, 28, 29, 182, 0, 46, 154, 0, 7, 42, 29, 3, 79, 132, 3, 1, 167, 255, 234, 177]
theorem whX8_dropUnmarked_0 : WLy cX8_dropUnmarked 0 wlX8_dropUnmarked_0 := by decide +kernel
theorem dX8_dropUnmarked_0 : decode cX8_dropUnmarked 0 = .ok (.iconst 0, 1) := zD3 whX8_dropUnmarked_0 (p := 0) rfl
theorem dX8_dropUnmarked_1 : decode cX8_dropUnmarked 1 = .ok (.istore_n 3, 1) := zD62 whX8_dropUnmarked_0 (p := 1) rfl
theorem dX8_dropUnmarked_2 : decode cX8_dropUnmarked 2 = .ok (.iload_n 3, 1) := zD29 whX8_dropUnmarked_0 (p := 2) rfl
theorem dX8_dropUnmarked_3 : decode cX8_dropUnmarked 3 = .ok (.aload_n 0, 1) := zD42 whX8_dropUnmarked_0 (p := 3) rfl
theorem dX8_dropUnmarked_4 : decode cX8_dropUnmarked 4 = .ok (.arraylength, 1) := zD190 whX8_dropUnmarked_0 (p := 4) rfl
theorem dX8_dropUnmarked_5 : decode cX8_dropUnmarked 5 = .ok (.if_icmp .ge 22, 3) := zD162p whX8_dropUnmarked_0 (p := 5) (v := 22) rfl rfl rfl
theorem dX8_dropUnmarked_8 : decode cX8_dropUnmarked 8 = .ok (.aload_n 1, 1) := zD43 whX8_dropUnmarked_0 (p := 8) rfl
theorem dX8_dropUnmarked_9 : decode cX8_dropUnmarked 9 = .ok (.iload_n 2, 1) := zD28 whX8_dropUnmarked_0 (p := 9) rfl
theorem dX8_dropUnmarked_10 : decode cX8_dropUnmarked 10 = .ok (.iload_n 3, 1) := zD29 whX8_dropUnmarked_0 (p := 10) rfl
theorem dX8_dropUnmarked_11 : decode cX8_dropUnmarked 11 = .ok (.invokevirtual 46, 3) := zD182 whX8_dropUnmarked_0 (p := 11) rfl rfl
theorem dX8_dropUnmarked_14 : decode cX8_dropUnmarked 14 = .ok (.ifCond .ne 7, 3) := zD154p whX8_dropUnmarked_0 (p := 14) (v := 7) rfl rfl rfl
theorem dX8_dropUnmarked_17 : decode cX8_dropUnmarked 17 = .ok (.aload_n 0, 1) := zD42 whX8_dropUnmarked_0 (p := 17) rfl
theorem dX8_dropUnmarked_18 : decode cX8_dropUnmarked 18 = .ok (.iload_n 3, 1) := zD29 whX8_dropUnmarked_0 (p := 18) rfl
theorem dX8_dropUnmarked_19 : decode cX8_dropUnmarked 19 = .ok (.iconst 0, 1) := zD3 whX8_dropUnmarked_0 (p := 19) rfl
theorem dX8_dropUnmarked_20 : decode cX8_dropUnmarked 20 = .ok (.iastore, 1) := zD79 whX8_dropUnmarked_0 (p := 20) rfl
theorem dX8_dropUnmarked_21 : decode cX8_dropUnmarked 21 = .ok (.iinc 3 1, 3) := zD132p whX8_dropUnmarked_0 (p := 21) (v := 1) rfl rfl rfl
theorem dX8_dropUnmarked_24 : decode cX8_dropUnmarked 24 = .ok (.goto (-22), 3) := zD167n whX8_dropUnmarked_0 (p := 24) (v := 22) rfl rfl rfl
theorem dX8_dropUnmarked_27 : decode cX8_dropUnmarked 27 = .ok (.return_, 1) := zD177 whX8_dropUnmarked_0 (p := 27) rfl
def wlX8_leadInto_0 : List Nat := [3, 62, 29, 16, 10, 162, 0, 20, 42, 180, 0, 11, 28, 4, 96, 50, 29, 3, 79, 132, 3, 1, 167, 255, 236, 42, 180, 0, 11, 28, 4, 96]
theorem whX8_leadInto_0 : WLy cX8_leadInto 0 wlX8_leadInto_0 := by decide +kernel
theorem dX8_leadInto_0 : decode cX8_leadInto 0 = .ok (.iconst 0, 1) := zD3 whX8_leadInto_0 (p := 0) rfl
theorem dX8_leadInto_1 : decode cX8_leadInto 1 = .ok (.istore_n 3, 1) := zD62 whX8_leadInto_0 (p := 1) rfl
theorem dX8_leadInto_2 : decode cX8_leadInto 2 = .ok (.iload_n 3, 1) := zD29 whX8_leadInto_0 (p := 2) rfl
theorem dX8_leadInto_3 : decode cX8_leadInto 3 = .ok (.bipush 10, 2) := zD16p whX8_leadInto_0 (p := 3) (v := 10) rfl rfl rfl
theorem dX8_leadInto_5 : decode cX8_leadInto 5 = .ok (.if_icmp .ge 20, 3) := zD162p whX8_leadInto_0 (p := 5) (v := 20) rfl rfl rfl
theorem dX8_leadInto_8 : decode cX8_leadInto 8 = .ok (.aload_n 0, 1) := zD42 whX8_leadInto_0 (p := 8) rfl
theorem dX8_leadInto_9 : decode cX8_leadInto 9 = .ok (.getfield 11, 3) := zD180 whX8_leadInto_0 (p := 9) rfl rfl
theorem dX8_leadInto_12 : decode cX8_leadInto 12 = .ok (.iload_n 2, 1) := zD28 whX8_leadInto_0 (p := 12) rfl
theorem dX8_leadInto_13 : decode cX8_leadInto 13 = .ok (.iconst 1, 1) := zD4 whX8_leadInto_0 (p := 13) rfl
theorem dX8_leadInto_14 : decode cX8_leadInto 14 = .ok (.iadd, 1) := zD96 whX8_leadInto_0 (p := 14) rfl
theorem dX8_leadInto_15 : decode cX8_leadInto 15 = .ok (.aaload, 1) := zD50 whX8_leadInto_0 (p := 15) rfl
theorem dX8_leadInto_16 : decode cX8_leadInto 16 = .ok (.iload_n 3, 1) := zD29 whX8_leadInto_0 (p := 16) rfl
theorem dX8_leadInto_17 : decode cX8_leadInto 17 = .ok (.iconst 0, 1) := zD3 whX8_leadInto_0 (p := 17) rfl
theorem dX8_leadInto_18 : decode cX8_leadInto 18 = .ok (.iastore, 1) := zD79 whX8_leadInto_0 (p := 18) rfl
theorem dX8_leadInto_19 : decode cX8_leadInto 19 = .ok (.iinc 3 1, 3) := zD132p whX8_leadInto_0 (p := 19) (v := 1) rfl rfl rfl
theorem dX8_leadInto_22 : decode cX8_leadInto 22 = .ok (.goto (-20), 3) := zD167n whX8_leadInto_0 (p := 22) (v := 20) rfl rfl rfl
theorem dX8_leadInto_25 : decode cX8_leadInto 25 = .ok (.aload_n 0, 1) := zD42 whX8_leadInto_0 (p := 25) rfl
theorem dX8_leadInto_26 : decode cX8_leadInto 26 = .ok (.getfield 11, 3) := zD180 whX8_leadInto_0 (p := 26) rfl rfl
theorem dX8_leadInto_29 : decode cX8_leadInto 29 = .ok (.iload_n 2, 1) := zD28 whX8_leadInto_0 (p := 29) rfl
theorem dX8_leadInto_30 : decode cX8_leadInto 30 = .ok (.iconst 1, 1) := zD4 whX8_leadInto_0 (p := 30) rfl
theorem dX8_leadInto_31 : decode cX8_leadInto 31 = .ok (.iadd, 1) := zD96 whX8_leadInto_0 (p := 31) rfl
def wlX8_leadInto_1 : List Nat := [50, 3, 42, 180, 0, 11, 28, 50, 3, 46, 79, 4, 62, 29, 16, 10, 162, 0, 70, 27, 158, 0, 26, 42, 180, 0, 11, 28, 4, 96, 50, 29]
theorem whX8_leadInto_1 : WLy cX8_leadInto 32 wlX8_leadInto_1 := by decide +kernel
theorem dX8_leadInto_32 : decode cX8_leadInto 32 = .ok (.aaload, 1) := zD50 whX8_leadInto_1 (p := 0) rfl
theorem dX8_leadInto_33 : decode cX8_leadInto 33 = .ok (.iconst 0, 1) := zD3 whX8_leadInto_1 (p := 1) rfl
theorem dX8_leadInto_34 : decode cX8_leadInto 34 = .ok (.aload_n 0, 1) := zD42 whX8_leadInto_1 (p := 2) rfl
theorem dX8_leadInto_35 : decode cX8_leadInto 35 = .ok (.getfield 11, 3) := zD180 whX8_leadInto_1 (p := 3) rfl rfl
theorem dX8_leadInto_38 : decode cX8_leadInto 38 = .ok (.iload_n 2, 1) := zD28 whX8_leadInto_1 (p := 6) rfl
theorem dX8_leadInto_39 : decode cX8_leadInto 39 = .ok (.aaload, 1) := zD50 whX8_leadInto_1 (p := 7) rfl
theorem dX8_leadInto_40 : decode cX8_leadInto 40 = .ok (.iconst 0, 1) := zD3 whX8_leadInto_1 (p := 8) rfl
theorem dX8_leadInto_41 : decode cX8_leadInto 41 = .ok (.iaload, 1) := zD46 whX8_leadInto_1 (p := 9) rfl
theorem dX8_leadInto_42 : decode cX8_leadInto 42 = .ok (.iastore, 1) := zD79 whX8_leadInto_1 (p := 10) rfl
theorem dX8_leadInto_43 : decode cX8_leadInto 43 = .ok (.iconst 1, 1) := zD4 whX8_leadInto_1 (p := 11) rfl
theorem dX8_leadInto_44 : decode cX8_leadInto 44 = .ok (.istore_n 3, 1) := zD62 whX8_leadInto_1 (p := 12) rfl
theorem dX8_leadInto_45 : decode cX8_leadInto 45 = .ok (.iload_n 3, 1) := zD29 whX8_leadInto_1 (p := 13) rfl
theorem dX8_leadInto_46 : decode cX8_leadInto 46 = .ok (.bipush 10, 2) := zD16p whX8_leadInto_1 (p := 14) (v := 10) rfl rfl rfl
theorem dX8_leadInto_48 : decode cX8_leadInto 48 = .ok (.if_icmp .ge 70, 3) := zD162p whX8_leadInto_1 (p := 16) (v := 70) rfl rfl rfl
theorem dX8_leadInto_51 : decode cX8_leadInto 51 = .ok (.iload_n 1, 1) := zD27 whX8_leadInto_1 (p := 19) rfl
theorem dX8_leadInto_52 : decode cX8_leadInto 52 = .ok (.ifCond .le 26, 3) := zD158p whX8_leadInto_1 (p := 20) (v := 26) rfl rfl rfl
theorem dX8_leadInto_55 : decode cX8_leadInto 55 = .ok (.aload_n 0, 1) := zD42 whX8_leadInto_1 (p := 23) rfl
theorem dX8_leadInto_56 : decode cX8_leadInto 56 = .ok (.getfield 11, 3) := zD180 whX8_leadInto_1 (p := 24) rfl rfl
theorem dX8_leadInto_59 : decode cX8_leadInto 59 = .ok (.iload_n 2, 1) := zD28 whX8_leadInto_1 (p := 27) rfl
theorem dX8_leadInto_60 : decode cX8_leadInto 60 = .ok (.iconst 1, 1) := zD4 whX8_leadInto_1 (p := 28) rfl
theorem dX8_leadInto_61 : decode cX8_leadInto 61 = .ok (.iadd, 1) := zD96 whX8_leadInto_1 (p := 29) rfl
theorem dX8_leadInto_62 : decode cX8_leadInto 62 = .ok (.aaload, 1) := zD50 whX8_leadInto_1 (p := 30) rfl
theorem dX8_leadInto_63 : decode cX8_leadInto 63 = .ok (.iload_n 3, 1) := zD29 whX8_leadInto_1 (p := 31) rfl
def wlX8_leadInto_2 : List Nat := [4, 100, 92, 46, 42, 180, 0, 11, 28, 50, 29, 46, 96, 79, 27, 16, 20, 162, 0, 31, 42, 180, 0, 11, 28, 4, 96, 50, 16, 9, 29, 4]
theorem whX8_leadInto_2 : WLy cX8_leadInto 64 wlX8_leadInto_2 := by decide +kernel
theorem dX8_leadInto_64 : decode cX8_leadInto 64 = .ok (.iconst 1, 1) := zD4 whX8_leadInto_2 (p := 0) rfl
theorem dX8_leadInto_65 : decode cX8_leadInto 65 = .ok (.isub, 1) := zD100 whX8_leadInto_2 (p := 1) rfl
theorem dX8_leadInto_66 : decode cX8_leadInto 66 = .ok (.dup2, 1) := zD92 whX8_leadInto_2 (p := 2) rfl
theorem dX8_leadInto_67 : decode cX8_leadInto 67 = .ok (.iaload, 1) := zD46 whX8_leadInto_2 (p := 3) rfl
theorem dX8_leadInto_68 : decode cX8_leadInto 68 = .ok (.aload_n 0, 1) := zD42 whX8_leadInto_2 (p := 4) rfl
theorem dX8_leadInto_69 : decode cX8_leadInto 69 = .ok (.getfield 11, 3) := zD180 whX8_leadInto_2 (p := 5) rfl rfl
theorem dX8_leadInto_72 : decode cX8_leadInto 72 = .ok (.iload_n 2, 1) := zD28 whX8_leadInto_2 (p := 8) rfl
theorem dX8_leadInto_73 : decode cX8_leadInto 73 = .ok (.aaload, 1) := zD50 whX8_leadInto_2 (p := 9) rfl
theorem dX8_leadInto_74 : decode cX8_leadInto 74 = .ok (.iload_n 3, 1) := zD29 whX8_leadInto_2 (p := 10) rfl
theorem dX8_leadInto_75 : decode cX8_leadInto 75 = .ok (.iaload, 1) := zD46 whX8_leadInto_2 (p := 11) rfl
theorem dX8_leadInto_76 : decode cX8_leadInto 76 = .ok (.iadd, 1) := zD96 whX8_leadInto_2 (p := 12) rfl
theorem dX8_leadInto_77 : decode cX8_leadInto 77 = .ok (.iastore, 1) := zD79 whX8_leadInto_2 (p := 13) rfl
theorem dX8_leadInto_78 : decode cX8_leadInto 78 = .ok (.iload_n 1, 1) := zD27 whX8_leadInto_2 (p := 14) rfl
theorem dX8_leadInto_79 : decode cX8_leadInto 79 = .ok (.bipush 20, 2) := zD16p whX8_leadInto_2 (p := 15) (v := 20) rfl rfl rfl
theorem dX8_leadInto_81 : decode cX8_leadInto 81 = .ok (.if_icmp .ge 31, 3) := zD162p whX8_leadInto_2 (p := 17) (v := 31) rfl rfl rfl
theorem dX8_leadInto_84 : decode cX8_leadInto 84 = .ok (.aload_n 0, 1) := zD42 whX8_leadInto_2 (p := 20) rfl
theorem dX8_leadInto_85 : decode cX8_leadInto 85 = .ok (.getfield 11, 3) := zD180 whX8_leadInto_2 (p := 21) rfl rfl
theorem dX8_leadInto_88 : decode cX8_leadInto 88 = .ok (.iload_n 2, 1) := zD28 whX8_leadInto_2 (p := 24) rfl
theorem dX8_leadInto_89 : decode cX8_leadInto 89 = .ok (.iconst 1, 1) := zD4 whX8_leadInto_2 (p := 25) rfl
theorem dX8_leadInto_90 : decode cX8_leadInto 90 = .ok (.iadd, 1) := zD96 whX8_leadInto_2 (p := 26) rfl
theorem dX8_leadInto_91 : decode cX8_leadInto 91 = .ok (.aaload, 1) := zD50 whX8_leadInto_2 (p := 27) rfl
theorem dX8_leadInto_92 : decode cX8_leadInto 92 = .ok (.bipush 9, 2) := zD16p whX8_leadInto_2 (p := 28) (v := 9) rfl rfl rfl
theorem dX8_leadInto_94 : decode cX8_leadInto 94 = .ok (.iload_n 3, 1) := zD29 whX8_leadInto_2 (p := 30) rfl
theorem dX8_leadInto_95 : decode cX8_leadInto 95 = .ok (.iconst 1, 1) := zD4 whX8_leadInto_2 (p := 31) rfl
def wlX8_leadInto_3 : List Nat := [96, 184, 0, 52, 92, 46, 42, 180, 0, 11, 28, 50, 29, 46, 96, 79, 132, 3, 1, 167, 255, 186, 177]
theorem whX8_leadInto_3 : WLy cX8_leadInto 96 wlX8_leadInto_3 := by decide +kernel
theorem dX8_leadInto_96 : decode cX8_leadInto 96 = .ok (.iadd, 1) := zD96 whX8_leadInto_3 (p := 0) rfl
theorem dX8_leadInto_97 : decode cX8_leadInto 97 = .ok (.invokestatic 52, 3) := zD184 whX8_leadInto_3 (p := 1) rfl rfl
theorem dX8_leadInto_100 : decode cX8_leadInto 100 = .ok (.dup2, 1) := zD92 whX8_leadInto_3 (p := 4) rfl
theorem dX8_leadInto_101 : decode cX8_leadInto 101 = .ok (.iaload, 1) := zD46 whX8_leadInto_3 (p := 5) rfl
theorem dX8_leadInto_102 : decode cX8_leadInto 102 = .ok (.aload_n 0, 1) := zD42 whX8_leadInto_3 (p := 6) rfl
theorem dX8_leadInto_103 : decode cX8_leadInto 103 = .ok (.getfield 11, 3) := zD180 whX8_leadInto_3 (p := 7) rfl rfl
theorem dX8_leadInto_106 : decode cX8_leadInto 106 = .ok (.iload_n 2, 1) := zD28 whX8_leadInto_3 (p := 10) rfl
theorem dX8_leadInto_107 : decode cX8_leadInto 107 = .ok (.aaload, 1) := zD50 whX8_leadInto_3 (p := 11) rfl
theorem dX8_leadInto_108 : decode cX8_leadInto 108 = .ok (.iload_n 3, 1) := zD29 whX8_leadInto_3 (p := 12) rfl
theorem dX8_leadInto_109 : decode cX8_leadInto 109 = .ok (.iaload, 1) := zD46 whX8_leadInto_3 (p := 13) rfl
theorem dX8_leadInto_110 : decode cX8_leadInto 110 = .ok (.iadd, 1) := zD96 whX8_leadInto_3 (p := 14) rfl
theorem dX8_leadInto_111 : decode cX8_leadInto 111 = .ok (.iastore, 1) := zD79 whX8_leadInto_3 (p := 15) rfl
theorem dX8_leadInto_112 : decode cX8_leadInto 112 = .ok (.iinc 3 1, 3) := zD132p whX8_leadInto_3 (p := 16) (v := 1) rfl rfl rfl
theorem dX8_leadInto_115 : decode cX8_leadInto 115 = .ok (.goto (-70), 3) := zD167n whX8_leadInto_3 (p := 19) (v := 70) rfl rfl rfl
theorem dX8_leadInto_118 : decode cX8_leadInto 118 = .ok (.return_, 1) := zD177 whX8_leadInto_3 (p := 22) rfl
def wlX8_leadOnward_0 : List Nat := [42, 180, 0, 16, 28, 50, 3, 42, 180, 0, 16, 28, 4, 96, 50, 3, 46, 79, 4, 62, 29, 16, 10, 162, 0, 73, 27, 158, 0, 18, 42, 180, 0, 16]
theorem whX8_leadOnward_0 : WLy cX8_leadOnward 0 wlX8_leadOnward_0 := by decide +kernel
theorem dX8_leadOnward_0 : decode cX8_leadOnward 0 = .ok (.aload_n 0, 1) := zD42 whX8_leadOnward_0 (p := 0) rfl
theorem dX8_leadOnward_1 : decode cX8_leadOnward 1 = .ok (.getfield 16, 3) := zD180 whX8_leadOnward_0 (p := 1) rfl rfl
theorem dX8_leadOnward_4 : decode cX8_leadOnward 4 = .ok (.iload_n 2, 1) := zD28 whX8_leadOnward_0 (p := 4) rfl
theorem dX8_leadOnward_5 : decode cX8_leadOnward 5 = .ok (.aaload, 1) := zD50 whX8_leadOnward_0 (p := 5) rfl
theorem dX8_leadOnward_6 : decode cX8_leadOnward 6 = .ok (.iconst 0, 1) := zD3 whX8_leadOnward_0 (p := 6) rfl
theorem dX8_leadOnward_7 : decode cX8_leadOnward 7 = .ok (.aload_n 0, 1) := zD42 whX8_leadOnward_0 (p := 7) rfl
theorem dX8_leadOnward_8 : decode cX8_leadOnward 8 = .ok (.getfield 16, 3) := zD180 whX8_leadOnward_0 (p := 8) rfl rfl
theorem dX8_leadOnward_11 : decode cX8_leadOnward 11 = .ok (.iload_n 2, 1) := zD28 whX8_leadOnward_0 (p := 11) rfl
theorem dX8_leadOnward_12 : decode cX8_leadOnward 12 = .ok (.iconst 1, 1) := zD4 whX8_leadOnward_0 (p := 12) rfl
theorem dX8_leadOnward_13 : decode cX8_leadOnward 13 = .ok (.iadd, 1) := zD96 whX8_leadOnward_0 (p := 13) rfl
theorem dX8_leadOnward_14 : decode cX8_leadOnward 14 = .ok (.aaload, 1) := zD50 whX8_leadOnward_0 (p := 14) rfl
theorem dX8_leadOnward_15 : decode cX8_leadOnward 15 = .ok (.iconst 0, 1) := zD3 whX8_leadOnward_0 (p := 15) rfl
theorem dX8_leadOnward_16 : decode cX8_leadOnward 16 = .ok (.iaload, 1) := zD46 whX8_leadOnward_0 (p := 16) rfl
theorem dX8_leadOnward_17 : decode cX8_leadOnward 17 = .ok (.iastore, 1) := zD79 whX8_leadOnward_0 (p := 17) rfl
theorem dX8_leadOnward_18 : decode cX8_leadOnward 18 = .ok (.iconst 1, 1) := zD4 whX8_leadOnward_0 (p := 18) rfl
theorem dX8_leadOnward_19 : decode cX8_leadOnward 19 = .ok (.istore_n 3, 1) := zD62 whX8_leadOnward_0 (p := 19) rfl
theorem dX8_leadOnward_20 : decode cX8_leadOnward 20 = .ok (.iload_n 3, 1) := zD29 whX8_leadOnward_0 (p := 20) rfl
theorem dX8_leadOnward_21 : decode cX8_leadOnward 21 = .ok (.bipush 10, 2) := zD16p whX8_leadOnward_0 (p := 21) (v := 10) rfl rfl rfl
theorem dX8_leadOnward_23 : decode cX8_leadOnward 23 = .ok (.if_icmp .ge 73, 3) := zD162p whX8_leadOnward_0 (p := 23) (v := 73) rfl rfl rfl
theorem dX8_leadOnward_26 : decode cX8_leadOnward 26 = .ok (.iload_n 1, 1) := zD27 whX8_leadOnward_0 (p := 26) rfl
theorem dX8_leadOnward_27 : decode cX8_leadOnward 27 = .ok (.ifCond .le 18, 3) := zD158p whX8_leadOnward_0 (p := 27) (v := 18) rfl rfl rfl
theorem dX8_leadOnward_30 : decode cX8_leadOnward 30 = .ok (.aload_n 0, 1) := zD42 whX8_leadOnward_0 (p := 30) rfl
theorem dX8_leadOnward_31 : decode cX8_leadOnward 31 = .ok (.getfield 16, 3) := zD180 whX8_leadOnward_0 (p := 31) rfl rfl
def wlX8_leadOnward_1 : List Nat := [28, 4, 96, 50, 29, 4, 100, 46, 167, 0, 4, 3, 54, 4, 27, 16, 20, 162, 0, 23, 42, 180, 0, 16, 28, 4, 96, 50, 16, 9, 29, 4]
theorem whX8_leadOnward_1 : WLy cX8_leadOnward 34 wlX8_leadOnward_1 := by decide +kernel
theorem dX8_leadOnward_34 : decode cX8_leadOnward 34 = .ok (.iload_n 2, 1) := zD28 whX8_leadOnward_1 (p := 0) rfl
theorem dX8_leadOnward_35 : decode cX8_leadOnward 35 = .ok (.iconst 1, 1) := zD4 whX8_leadOnward_1 (p := 1) rfl
theorem dX8_leadOnward_36 : decode cX8_leadOnward 36 = .ok (.iadd, 1) := zD96 whX8_leadOnward_1 (p := 2) rfl
theorem dX8_leadOnward_37 : decode cX8_leadOnward 37 = .ok (.aaload, 1) := zD50 whX8_leadOnward_1 (p := 3) rfl
theorem dX8_leadOnward_38 : decode cX8_leadOnward 38 = .ok (.iload_n 3, 1) := zD29 whX8_leadOnward_1 (p := 4) rfl
theorem dX8_leadOnward_39 : decode cX8_leadOnward 39 = .ok (.iconst 1, 1) := zD4 whX8_leadOnward_1 (p := 5) rfl
theorem dX8_leadOnward_40 : decode cX8_leadOnward 40 = .ok (.isub, 1) := zD100 whX8_leadOnward_1 (p := 6) rfl
theorem dX8_leadOnward_41 : decode cX8_leadOnward 41 = .ok (.iaload, 1) := zD46 whX8_leadOnward_1 (p := 7) rfl
theorem dX8_leadOnward_42 : decode cX8_leadOnward 42 = .ok (.goto 4, 3) := zD167p whX8_leadOnward_1 (p := 8) (v := 4) rfl rfl rfl
theorem dX8_leadOnward_45 : decode cX8_leadOnward 45 = .ok (.iconst 0, 1) := zD3 whX8_leadOnward_1 (p := 11) rfl
theorem dX8_leadOnward_46 : decode cX8_leadOnward 46 = .ok (.istore 4, 2) := zD54 whX8_leadOnward_1 (p := 12) rfl
theorem dX8_leadOnward_48 : decode cX8_leadOnward 48 = .ok (.iload_n 1, 1) := zD27 whX8_leadOnward_1 (p := 14) rfl
theorem dX8_leadOnward_49 : decode cX8_leadOnward 49 = .ok (.bipush 20, 2) := zD16p whX8_leadOnward_1 (p := 15) (v := 20) rfl rfl rfl
theorem dX8_leadOnward_51 : decode cX8_leadOnward 51 = .ok (.if_icmp .ge 23, 3) := zD162p whX8_leadOnward_1 (p := 17) (v := 23) rfl rfl rfl
theorem dX8_leadOnward_54 : decode cX8_leadOnward 54 = .ok (.aload_n 0, 1) := zD42 whX8_leadOnward_1 (p := 20) rfl
theorem dX8_leadOnward_55 : decode cX8_leadOnward 55 = .ok (.getfield 16, 3) := zD180 whX8_leadOnward_1 (p := 21) rfl rfl
theorem dX8_leadOnward_58 : decode cX8_leadOnward 58 = .ok (.iload_n 2, 1) := zD28 whX8_leadOnward_1 (p := 24) rfl
theorem dX8_leadOnward_59 : decode cX8_leadOnward 59 = .ok (.iconst 1, 1) := zD4 whX8_leadOnward_1 (p := 25) rfl
theorem dX8_leadOnward_60 : decode cX8_leadOnward 60 = .ok (.iadd, 1) := zD96 whX8_leadOnward_1 (p := 26) rfl
theorem dX8_leadOnward_61 : decode cX8_leadOnward 61 = .ok (.aaload, 1) := zD50 whX8_leadOnward_1 (p := 27) rfl
theorem dX8_leadOnward_62 : decode cX8_leadOnward 62 = .ok (.bipush 9, 2) := zD16p whX8_leadOnward_1 (p := 28) (v := 9) rfl rfl rfl
theorem dX8_leadOnward_64 : decode cX8_leadOnward 64 = .ok (.iload_n 3, 1) := zD29 whX8_leadOnward_1 (p := 30) rfl
theorem dX8_leadOnward_65 : decode cX8_leadOnward 65 = .ok (.iconst 1, 1) := zD4 whX8_leadOnward_1 (p := 31) rfl
def wlX8_leadOnward_2 : List Nat := [96, 184, 0, 52, 46, 167, 0, 4, 3, 54, 5, 42, 180, 0, 16, 28, 50, 29, 21, 4, 21, 5, 96, 79, 132, 3, 1, 167, 255, 183, 177]
theorem whX8_leadOnward_2 : WLy cX8_leadOnward 66 wlX8_leadOnward_2 := by decide +kernel
theorem dX8_leadOnward_66 : decode cX8_leadOnward 66 = .ok (.iadd, 1) := zD96 whX8_leadOnward_2 (p := 0) rfl
theorem dX8_leadOnward_67 : decode cX8_leadOnward 67 = .ok (.invokestatic 52, 3) := zD184 whX8_leadOnward_2 (p := 1) rfl rfl
theorem dX8_leadOnward_70 : decode cX8_leadOnward 70 = .ok (.iaload, 1) := zD46 whX8_leadOnward_2 (p := 4) rfl
theorem dX8_leadOnward_71 : decode cX8_leadOnward 71 = .ok (.goto 4, 3) := zD167p whX8_leadOnward_2 (p := 5) (v := 4) rfl rfl rfl
theorem dX8_leadOnward_74 : decode cX8_leadOnward 74 = .ok (.iconst 0, 1) := zD3 whX8_leadOnward_2 (p := 8) rfl
theorem dX8_leadOnward_75 : decode cX8_leadOnward 75 = .ok (.istore 5, 2) := zD54 whX8_leadOnward_2 (p := 9) rfl
theorem dX8_leadOnward_77 : decode cX8_leadOnward 77 = .ok (.aload_n 0, 1) := zD42 whX8_leadOnward_2 (p := 11) rfl
theorem dX8_leadOnward_78 : decode cX8_leadOnward 78 = .ok (.getfield 16, 3) := zD180 whX8_leadOnward_2 (p := 12) rfl rfl
theorem dX8_leadOnward_81 : decode cX8_leadOnward 81 = .ok (.iload_n 2, 1) := zD28 whX8_leadOnward_2 (p := 15) rfl
theorem dX8_leadOnward_82 : decode cX8_leadOnward 82 = .ok (.aaload, 1) := zD50 whX8_leadOnward_2 (p := 16) rfl
theorem dX8_leadOnward_83 : decode cX8_leadOnward 83 = .ok (.iload_n 3, 1) := zD29 whX8_leadOnward_2 (p := 17) rfl
theorem dX8_leadOnward_84 : decode cX8_leadOnward 84 = .ok (.iload 4, 2) := zD21 whX8_leadOnward_2 (p := 18) rfl
theorem dX8_leadOnward_86 : decode cX8_leadOnward 86 = .ok (.iload 5, 2) := zD21 whX8_leadOnward_2 (p := 20) rfl
theorem dX8_leadOnward_88 : decode cX8_leadOnward 88 = .ok (.iadd, 1) := zD96 whX8_leadOnward_2 (p := 22) rfl
theorem dX8_leadOnward_89 : decode cX8_leadOnward 89 = .ok (.iastore, 1) := zD79 whX8_leadOnward_2 (p := 23) rfl
theorem dX8_leadOnward_90 : decode cX8_leadOnward 90 = .ok (.iinc 3 1, 3) := zD132p whX8_leadOnward_2 (p := 24) (v := 1) rfl rfl rfl
theorem dX8_leadOnward_93 : decode cX8_leadOnward 93 = .ok (.goto (-73), 3) := zD167n whX8_leadOnward_2 (p := 27) (v := 73) rfl rfl rfl
theorem dX8_leadOnward_96 : decode cX8_leadOnward 96 = .ok (.return_, 1) := zD177 whX8_leadOnward_2 (p := 30) rfl
def wlX8_canBeBehind_0 : List Nat := [42, 180, 0, 11, 27, 4, 96, 50, 28, 46, 158, 0, 20, 42, 180, 0, 16, 27, 4, 96, 50, 28, 46, 158, 0, 7, 4, 167, 0, 4, 3, 172]
theorem whX8_canBeBehind_0 : WLy cX8_canBeBehind 0 wlX8_canBeBehind_0 := by decide +kernel
theorem dX8_canBeBehind_0 : decode cX8_canBeBehind 0 = .ok (.aload_n 0, 1) := zD42 whX8_canBeBehind_0 (p := 0) rfl
theorem dX8_canBeBehind_1 : decode cX8_canBeBehind 1 = .ok (.getfield 11, 3) := zD180 whX8_canBeBehind_0 (p := 1) rfl rfl
theorem dX8_canBeBehind_4 : decode cX8_canBeBehind 4 = .ok (.iload_n 1, 1) := zD27 whX8_canBeBehind_0 (p := 4) rfl
theorem dX8_canBeBehind_5 : decode cX8_canBeBehind 5 = .ok (.iconst 1, 1) := zD4 whX8_canBeBehind_0 (p := 5) rfl
theorem dX8_canBeBehind_6 : decode cX8_canBeBehind 6 = .ok (.iadd, 1) := zD96 whX8_canBeBehind_0 (p := 6) rfl
theorem dX8_canBeBehind_7 : decode cX8_canBeBehind 7 = .ok (.aaload, 1) := zD50 whX8_canBeBehind_0 (p := 7) rfl
theorem dX8_canBeBehind_8 : decode cX8_canBeBehind 8 = .ok (.iload_n 2, 1) := zD28 whX8_canBeBehind_0 (p := 8) rfl
theorem dX8_canBeBehind_9 : decode cX8_canBeBehind 9 = .ok (.iaload, 1) := zD46 whX8_canBeBehind_0 (p := 9) rfl
theorem dX8_canBeBehind_10 : decode cX8_canBeBehind 10 = .ok (.ifCond .le 20, 3) := zD158p whX8_canBeBehind_0 (p := 10) (v := 20) rfl rfl rfl
theorem dX8_canBeBehind_13 : decode cX8_canBeBehind 13 = .ok (.aload_n 0, 1) := zD42 whX8_canBeBehind_0 (p := 13) rfl
theorem dX8_canBeBehind_14 : decode cX8_canBeBehind 14 = .ok (.getfield 16, 3) := zD180 whX8_canBeBehind_0 (p := 14) rfl rfl
theorem dX8_canBeBehind_17 : decode cX8_canBeBehind 17 = .ok (.iload_n 1, 1) := zD27 whX8_canBeBehind_0 (p := 17) rfl
theorem dX8_canBeBehind_18 : decode cX8_canBeBehind 18 = .ok (.iconst 1, 1) := zD4 whX8_canBeBehind_0 (p := 18) rfl
theorem dX8_canBeBehind_19 : decode cX8_canBeBehind 19 = .ok (.iadd, 1) := zD96 whX8_canBeBehind_0 (p := 19) rfl
theorem dX8_canBeBehind_20 : decode cX8_canBeBehind 20 = .ok (.aaload, 1) := zD50 whX8_canBeBehind_0 (p := 20) rfl
theorem dX8_canBeBehind_21 : decode cX8_canBeBehind 21 = .ok (.iload_n 2, 1) := zD28 whX8_canBeBehind_0 (p := 21) rfl
theorem dX8_canBeBehind_22 : decode cX8_canBeBehind 22 = .ok (.iaload, 1) := zD46 whX8_canBeBehind_0 (p := 22) rfl
theorem dX8_canBeBehind_23 : decode cX8_canBeBehind 23 = .ok (.ifCond .le 7, 3) := zD158p whX8_canBeBehind_0 (p := 23) (v := 7) rfl rfl rfl
theorem dX8_canBeBehind_26 : decode cX8_canBeBehind 26 = .ok (.iconst 1, 1) := zD4 whX8_canBeBehind_0 (p := 26) rfl
theorem dX8_canBeBehind_27 : decode cX8_canBeBehind 27 = .ok (.goto 4, 3) := zD167p whX8_canBeBehind_0 (p := 27) (v := 4) rfl rfl rfl
theorem dX8_canBeBehind_30 : decode cX8_canBeBehind 30 = .ok (.iconst 0, 1) := zD3 whX8_canBeBehind_0 (p := 30) rfl
theorem dX8_canBeBehind_31 : decode cX8_canBeBehind 31 = .ok (.ireturn, 1) := zD172 whX8_canBeBehind_0 (p := 31) rfl
def wlX8_falling_0 : List Nat := [43, 28, 182, 0, 28, 154, 0, 5, 3, 172, 3, 62, 4, 54, 4, 21, 4, 16, 10, 162, 0, 35, 29, 42, 180, 0, 11, 28, 50, 21, 4, 46]
theorem whX8_falling_0 : WLy cX8_falling 0 wlX8_falling_0 := by decide +kernel
theorem dX8_falling_0 : decode cX8_falling 0 = .ok (.aload_n 1, 1) := zD43 whX8_falling_0 (p := 0) rfl
theorem dX8_falling_1 : decode cX8_falling 1 = .ok (.iload_n 2, 1) := zD28 whX8_falling_0 (p := 1) rfl
theorem dX8_falling_2 : decode cX8_falling 2 = .ok (.invokevirtual 28, 3) := zD182 whX8_falling_0 (p := 2) rfl rfl
theorem dX8_falling_5 : decode cX8_falling 5 = .ok (.ifCond .ne 5, 3) := zD154p whX8_falling_0 (p := 5) (v := 5) rfl rfl rfl
theorem dX8_falling_8 : decode cX8_falling 8 = .ok (.iconst 0, 1) := zD3 whX8_falling_0 (p := 8) rfl
theorem dX8_falling_9 : decode cX8_falling 9 = .ok (.ireturn, 1) := zD172 whX8_falling_0 (p := 9) rfl
theorem dX8_falling_10 : decode cX8_falling 10 = .ok (.iconst 0, 1) := zD3 whX8_falling_0 (p := 10) rfl
theorem dX8_falling_11 : decode cX8_falling 11 = .ok (.istore_n 3, 1) := zD62 whX8_falling_0 (p := 11) rfl
theorem dX8_falling_12 : decode cX8_falling 12 = .ok (.iconst 1, 1) := zD4 whX8_falling_0 (p := 12) rfl
theorem dX8_falling_13 : decode cX8_falling 13 = .ok (.istore 4, 2) := zD54 whX8_falling_0 (p := 13) rfl
theorem dX8_falling_15 : decode cX8_falling 15 = .ok (.iload 4, 2) := zD21 whX8_falling_0 (p := 15) rfl
theorem dX8_falling_17 : decode cX8_falling 17 = .ok (.bipush 10, 2) := zD16p whX8_falling_0 (p := 17) (v := 10) rfl rfl rfl
theorem dX8_falling_19 : decode cX8_falling 19 = .ok (.if_icmp .ge 35, 3) := zD162p whX8_falling_0 (p := 19) (v := 35) rfl rfl rfl
theorem dX8_falling_22 : decode cX8_falling 22 = .ok (.iload_n 3, 1) := zD29 whX8_falling_0 (p := 22) rfl
theorem dX8_falling_23 : decode cX8_falling 23 = .ok (.aload_n 0, 1) := zD42 whX8_falling_0 (p := 23) rfl
theorem dX8_falling_24 : decode cX8_falling 24 = .ok (.getfield 11, 3) := zD180 whX8_falling_0 (p := 24) rfl rfl
theorem dX8_falling_27 : decode cX8_falling 27 = .ok (.iload_n 2, 1) := zD28 whX8_falling_0 (p := 27) rfl
theorem dX8_falling_28 : decode cX8_falling 28 = .ok (.aaload, 1) := zD50 whX8_falling_0 (p := 28) rfl
theorem dX8_falling_29 : decode cX8_falling 29 = .ok (.iload 4, 2) := zD21 whX8_falling_0 (p := 29) rfl
theorem dX8_falling_31 : decode cX8_falling 31 = .ok (.iaload, 1) := zD46 whX8_falling_0 (p := 31) rfl
def wlX8_falling_1 : List Nat := [42, 180, 0, 16, 28, 4, 96, 50, 21, 4, 4, 100, 46, 104, 96, 62, 132, 4, 1, 167, 255, 220, 29, 172]
theorem whX8_falling_1 : WLy cX8_falling 32 wlX8_falling_1 := by decide +kernel
theorem dX8_falling_32 : decode cX8_falling 32 = .ok (.aload_n 0, 1) := zD42 whX8_falling_1 (p := 0) rfl
theorem dX8_falling_33 : decode cX8_falling 33 = .ok (.getfield 16, 3) := zD180 whX8_falling_1 (p := 1) rfl rfl
theorem dX8_falling_36 : decode cX8_falling 36 = .ok (.iload_n 2, 1) := zD28 whX8_falling_1 (p := 4) rfl
theorem dX8_falling_37 : decode cX8_falling 37 = .ok (.iconst 1, 1) := zD4 whX8_falling_1 (p := 5) rfl
theorem dX8_falling_38 : decode cX8_falling 38 = .ok (.iadd, 1) := zD96 whX8_falling_1 (p := 6) rfl
theorem dX8_falling_39 : decode cX8_falling 39 = .ok (.aaload, 1) := zD50 whX8_falling_1 (p := 7) rfl
theorem dX8_falling_40 : decode cX8_falling 40 = .ok (.iload 4, 2) := zD21 whX8_falling_1 (p := 8) rfl
theorem dX8_falling_42 : decode cX8_falling 42 = .ok (.iconst 1, 1) := zD4 whX8_falling_1 (p := 10) rfl
theorem dX8_falling_43 : decode cX8_falling 43 = .ok (.isub, 1) := zD100 whX8_falling_1 (p := 11) rfl
theorem dX8_falling_44 : decode cX8_falling 44 = .ok (.iaload, 1) := zD46 whX8_falling_1 (p := 12) rfl
theorem dX8_falling_45 : decode cX8_falling 45 = .ok (.imul, 1) := zD104 whX8_falling_1 (p := 13) rfl
theorem dX8_falling_46 : decode cX8_falling 46 = .ok (.iadd, 1) := zD96 whX8_falling_1 (p := 14) rfl
theorem dX8_falling_47 : decode cX8_falling 47 = .ok (.istore_n 3, 1) := zD62 whX8_falling_1 (p := 15) rfl
theorem dX8_falling_48 : decode cX8_falling 48 = .ok (.iinc 4 1, 3) := zD132p whX8_falling_1 (p := 16) (v := 1) rfl rfl rfl
theorem dX8_falling_51 : decode cX8_falling 51 = .ok (.goto (-36), 3) := zD167n whX8_falling_1 (p := 19) (v := 36) rfl rfl rfl
theorem dX8_falling_54 : decode cX8_falling 54 = .ok (.iload_n 3, 1) := zD29 whX8_falling_1 (p := 22) rfl
theorem dX8_falling_55 : decode cX8_falling 55 = .ok (.ireturn, 1) := zD172 whX8_falling_1 (p := 23) rfl
def wlX8_rising_0 : List Nat := [43, 28, 182, 0, 28, 16, 20, 160, 0, 5, 3, 172, 3, 62, 4, 54, 4, 21, 4, 16, 10, 162, 0, 40, 29, 42, 180, 0, 11, 28, 50, 21, 4]
theorem whX8_rising_0 : WLy cX8_rising 0 wlX8_rising_0 := by decide +kernel
theorem dX8_rising_0 : decode cX8_rising 0 = .ok (.aload_n 1, 1) := zD43 whX8_rising_0 (p := 0) rfl
theorem dX8_rising_1 : decode cX8_rising 1 = .ok (.iload_n 2, 1) := zD28 whX8_rising_0 (p := 1) rfl
theorem dX8_rising_2 : decode cX8_rising 2 = .ok (.invokevirtual 28, 3) := zD182 whX8_rising_0 (p := 2) rfl rfl
theorem dX8_rising_5 : decode cX8_rising 5 = .ok (.bipush 20, 2) := zD16p whX8_rising_0 (p := 5) (v := 20) rfl rfl rfl
theorem dX8_rising_7 : decode cX8_rising 7 = .ok (.if_icmp .ne 5, 3) := zD160p whX8_rising_0 (p := 7) (v := 5) rfl rfl rfl
theorem dX8_rising_10 : decode cX8_rising 10 = .ok (.iconst 0, 1) := zD3 whX8_rising_0 (p := 10) rfl
theorem dX8_rising_11 : decode cX8_rising 11 = .ok (.ireturn, 1) := zD172 whX8_rising_0 (p := 11) rfl
theorem dX8_rising_12 : decode cX8_rising 12 = .ok (.iconst 0, 1) := zD3 whX8_rising_0 (p := 12) rfl
theorem dX8_rising_13 : decode cX8_rising 13 = .ok (.istore_n 3, 1) := zD62 whX8_rising_0 (p := 13) rfl
theorem dX8_rising_14 : decode cX8_rising 14 = .ok (.iconst 1, 1) := zD4 whX8_rising_0 (p := 14) rfl
theorem dX8_rising_15 : decode cX8_rising 15 = .ok (.istore 4, 2) := zD54 whX8_rising_0 (p := 15) rfl
theorem dX8_rising_17 : decode cX8_rising 17 = .ok (.iload 4, 2) := zD21 whX8_rising_0 (p := 17) rfl
theorem dX8_rising_19 : decode cX8_rising 19 = .ok (.bipush 10, 2) := zD16p whX8_rising_0 (p := 19) (v := 10) rfl rfl rfl
theorem dX8_rising_21 : decode cX8_rising 21 = .ok (.if_icmp .ge 40, 3) := zD162p whX8_rising_0 (p := 21) (v := 40) rfl rfl rfl
theorem dX8_rising_24 : decode cX8_rising 24 = .ok (.iload_n 3, 1) := zD29 whX8_rising_0 (p := 24) rfl
theorem dX8_rising_25 : decode cX8_rising 25 = .ok (.aload_n 0, 1) := zD42 whX8_rising_0 (p := 25) rfl
theorem dX8_rising_26 : decode cX8_rising 26 = .ok (.getfield 11, 3) := zD180 whX8_rising_0 (p := 26) rfl rfl
theorem dX8_rising_29 : decode cX8_rising 29 = .ok (.iload_n 2, 1) := zD28 whX8_rising_0 (p := 29) rfl
theorem dX8_rising_30 : decode cX8_rising 30 = .ok (.aaload, 1) := zD50 whX8_rising_0 (p := 30) rfl
theorem dX8_rising_31 : decode cX8_rising 31 = .ok (.iload 4, 2) := zD21 whX8_rising_0 (p := 31) rfl
def wlX8_rising_1 : List Nat := [46, 42, 180, 0, 16, 28, 4, 96, 50, 16, 9, 21, 4, 4, 96, 184, 0, 52, 46, 104, 96, 62, 132, 4, 1, 167, 255, 215, 29, 172]
theorem whX8_rising_1 : WLy cX8_rising 33 wlX8_rising_1 := by decide +kernel
theorem dX8_rising_33 : decode cX8_rising 33 = .ok (.iaload, 1) := zD46 whX8_rising_1 (p := 0) rfl
theorem dX8_rising_34 : decode cX8_rising 34 = .ok (.aload_n 0, 1) := zD42 whX8_rising_1 (p := 1) rfl
theorem dX8_rising_35 : decode cX8_rising 35 = .ok (.getfield 16, 3) := zD180 whX8_rising_1 (p := 2) rfl rfl
theorem dX8_rising_38 : decode cX8_rising 38 = .ok (.iload_n 2, 1) := zD28 whX8_rising_1 (p := 5) rfl
theorem dX8_rising_39 : decode cX8_rising 39 = .ok (.iconst 1, 1) := zD4 whX8_rising_1 (p := 6) rfl
theorem dX8_rising_40 : decode cX8_rising 40 = .ok (.iadd, 1) := zD96 whX8_rising_1 (p := 7) rfl
theorem dX8_rising_41 : decode cX8_rising 41 = .ok (.aaload, 1) := zD50 whX8_rising_1 (p := 8) rfl
theorem dX8_rising_42 : decode cX8_rising 42 = .ok (.bipush 9, 2) := zD16p whX8_rising_1 (p := 9) (v := 9) rfl rfl rfl
theorem dX8_rising_44 : decode cX8_rising 44 = .ok (.iload 4, 2) := zD21 whX8_rising_1 (p := 11) rfl
theorem dX8_rising_46 : decode cX8_rising 46 = .ok (.iconst 1, 1) := zD4 whX8_rising_1 (p := 13) rfl
theorem dX8_rising_47 : decode cX8_rising 47 = .ok (.iadd, 1) := zD96 whX8_rising_1 (p := 14) rfl
theorem dX8_rising_48 : decode cX8_rising 48 = .ok (.invokestatic 52, 3) := zD184 whX8_rising_1 (p := 15) rfl rfl
theorem dX8_rising_51 : decode cX8_rising 51 = .ok (.iaload, 1) := zD46 whX8_rising_1 (p := 18) rfl
theorem dX8_rising_52 : decode cX8_rising 52 = .ok (.imul, 1) := zD104 whX8_rising_1 (p := 19) rfl
theorem dX8_rising_53 : decode cX8_rising 53 = .ok (.iadd, 1) := zD96 whX8_rising_1 (p := 20) rfl
theorem dX8_rising_54 : decode cX8_rising 54 = .ok (.istore_n 3, 1) := zD62 whX8_rising_1 (p := 21) rfl
theorem dX8_rising_55 : decode cX8_rising 55 = .ok (.iinc 4 1, 3) := zD132p whX8_rising_1 (p := 22) (v := 1) rfl rfl rfl
theorem dX8_rising_58 : decode cX8_rising 58 = .ok (.goto (-41), 3) := zD167n whX8_rising_1 (p := 25) (v := 41) rfl rfl rfl
theorem dX8_rising_61 : decode cX8_rising 61 = .ok (.iload_n 3, 1) := zD29 whX8_rising_1 (p := 28) rfl
theorem dX8_rising_62 : decode cX8_rising 62 = .ok (.ireturn, 1) := zD172 whX8_rising_1 (p := 29) rfl
def wlX9_init_0 : List Nat := [42, 183, 0, 3, 42, 8, 181, 0, 9, 42, 16, 10, 188, 10, 181, 0, 15, 42, 16, 10, 188, 10, 181, 0, 19, 42, 16, 10, 188, 10, 181, 0, 22]
theorem whX9_init_0 : WLy cX9_init 0 wlX9_init_0 := by decide +kernel
theorem dX9_init_0 : decode cX9_init 0 = .ok (.aload_n 0, 1) := zD42 whX9_init_0 (p := 0) rfl
theorem dX9_init_1 : decode cX9_init 1 = .ok (.invokespecial 3, 3) := zD183 whX9_init_0 (p := 1) rfl rfl
theorem dX9_init_4 : decode cX9_init 4 = .ok (.aload_n 0, 1) := zD42 whX9_init_0 (p := 4) rfl
theorem dX9_init_5 : decode cX9_init 5 = .ok (.iconst 5, 1) := zD8 whX9_init_0 (p := 5) rfl
theorem dX9_init_6 : decode cX9_init 6 = .ok (.putfield 9, 3) := zD181 whX9_init_0 (p := 6) rfl rfl
theorem dX9_init_9 : decode cX9_init 9 = .ok (.aload_n 0, 1) := zD42 whX9_init_0 (p := 9) rfl
theorem dX9_init_10 : decode cX9_init 10 = .ok (.bipush 10, 2) := zD16p whX9_init_0 (p := 10) (v := 10) rfl rfl rfl
theorem dX9_init_14 : decode cX9_init 14 = .ok (.putfield 15, 3) := zD181 whX9_init_0 (p := 14) rfl rfl
theorem dX9_init_17 : decode cX9_init 17 = .ok (.aload_n 0, 1) := zD42 whX9_init_0 (p := 17) rfl
theorem dX9_init_18 : decode cX9_init 18 = .ok (.bipush 10, 2) := zD16p whX9_init_0 (p := 18) (v := 10) rfl rfl rfl
theorem dX9_init_22 : decode cX9_init 22 = .ok (.putfield 19, 3) := zD181 whX9_init_0 (p := 22) rfl rfl
theorem dX9_init_25 : decode cX9_init 25 = .ok (.aload_n 0, 1) := zD42 whX9_init_0 (p := 25) rfl
theorem dX9_init_26 : decode cX9_init 26 = .ok (.bipush 10, 2) := zD16p whX9_init_0 (p := 26) (v := 10) rfl rfl rfl
theorem dX9_init_30 : decode cX9_init 30 = .ok (.putfield 22, 3) := zD181 whX9_init_0 (p := 30) rfl rfl
def wlX9_init_1 : List Nat := [42, 16, 6, 188, 10, 181, 0, 25, 42, 16, 6, 188, 10, 181, 0, 28, 42, 16, 6, 188, 10, 181, 0, 31, 177]
theorem whX9_init_1 : WLy cX9_init 33 wlX9_init_1 := by decide +kernel
theorem dX9_init_33 : decode cX9_init 33 = .ok (.aload_n 0, 1) := zD42 whX9_init_1 (p := 0) rfl
theorem dX9_init_34 : decode cX9_init 34 = .ok (.bipush 6, 2) := zD16p whX9_init_1 (p := 1) (v := 6) rfl rfl rfl
theorem dX9_init_38 : decode cX9_init 38 = .ok (.putfield 25, 3) := zD181 whX9_init_1 (p := 5) rfl rfl
theorem dX9_init_41 : decode cX9_init 41 = .ok (.aload_n 0, 1) := zD42 whX9_init_1 (p := 8) rfl
theorem dX9_init_42 : decode cX9_init 42 = .ok (.bipush 6, 2) := zD16p whX9_init_1 (p := 9) (v := 6) rfl rfl rfl
theorem dX9_init_46 : decode cX9_init 46 = .ok (.putfield 28, 3) := zD181 whX9_init_1 (p := 13) rfl rfl
theorem dX9_init_49 : decode cX9_init 49 = .ok (.aload_n 0, 1) := zD42 whX9_init_1 (p := 16) rfl
theorem dX9_init_50 : decode cX9_init 50 = .ok (.bipush 6, 2) := zD16p whX9_init_1 (p := 17) (v := 6) rfl rfl rfl
theorem dX9_init_54 : decode cX9_init 54 = .ok (.putfield 31, 3) := zD181 whX9_init_1 (p := 21) rfl rfl
theorem dX9_init_57 : decode cX9_init 57 = .ok (.return_, 1) := zD177 whX9_init_1 (p := 24) rfl
def wlX9_clear_0 : List Nat := [42, 3, 181, 0, 34, 42, 3, 181, 0, 37, 42, 8, 181, 0, 9, 3, 60, 27, 16, 10, 162, 0, 16, 42, 180, 0, 22, 27, 3, 79, 132, 1, 1]
theorem whX9_clear_0 : WLy cX9_clear 0 wlX9_clear_0 := by decide +kernel
theorem dX9_clear_0 : decode cX9_clear 0 = .ok (.aload_n 0, 1) := zD42 whX9_clear_0 (p := 0) rfl
theorem dX9_clear_1 : decode cX9_clear 1 = .ok (.iconst 0, 1) := zD3 whX9_clear_0 (p := 1) rfl
theorem dX9_clear_2 : decode cX9_clear 2 = .ok (.putfield 34, 3) := zD181 whX9_clear_0 (p := 2) rfl rfl
theorem dX9_clear_5 : decode cX9_clear 5 = .ok (.aload_n 0, 1) := zD42 whX9_clear_0 (p := 5) rfl
theorem dX9_clear_6 : decode cX9_clear 6 = .ok (.iconst 0, 1) := zD3 whX9_clear_0 (p := 6) rfl
theorem dX9_clear_7 : decode cX9_clear 7 = .ok (.putfield 37, 3) := zD181 whX9_clear_0 (p := 7) rfl rfl
theorem dX9_clear_10 : decode cX9_clear 10 = .ok (.aload_n 0, 1) := zD42 whX9_clear_0 (p := 10) rfl
theorem dX9_clear_11 : decode cX9_clear 11 = .ok (.iconst 5, 1) := zD8 whX9_clear_0 (p := 11) rfl
theorem dX9_clear_12 : decode cX9_clear 12 = .ok (.putfield 9, 3) := zD181 whX9_clear_0 (p := 12) rfl rfl
theorem dX9_clear_15 : decode cX9_clear 15 = .ok (.iconst 0, 1) := zD3 whX9_clear_0 (p := 15) rfl
theorem dX9_clear_16 : decode cX9_clear 16 = .ok (.istore_n 1, 1) := zD60 whX9_clear_0 (p := 16) rfl
theorem dX9_clear_17 : decode cX9_clear 17 = .ok (.iload_n 1, 1) := zD27 whX9_clear_0 (p := 17) rfl
theorem dX9_clear_18 : decode cX9_clear 18 = .ok (.bipush 10, 2) := zD16p whX9_clear_0 (p := 18) (v := 10) rfl rfl rfl
theorem dX9_clear_20 : decode cX9_clear 20 = .ok (.if_icmp .ge 16, 3) := zD162p whX9_clear_0 (p := 20) (v := 16) rfl rfl rfl
theorem dX9_clear_23 : decode cX9_clear 23 = .ok (.aload_n 0, 1) := zD42 whX9_clear_0 (p := 23) rfl
theorem dX9_clear_24 : decode cX9_clear 24 = .ok (.getfield 22, 3) := zD180 whX9_clear_0 (p := 24) rfl rfl
theorem dX9_clear_27 : decode cX9_clear 27 = .ok (.iload_n 1, 1) := zD27 whX9_clear_0 (p := 27) rfl
theorem dX9_clear_28 : decode cX9_clear 28 = .ok (.iconst 0, 1) := zD3 whX9_clear_0 (p := 28) rfl
theorem dX9_clear_29 : decode cX9_clear 29 = .ok (.iastore, 1) := zD79 whX9_clear_0 (p := 29) rfl
theorem dX9_clear_30 : decode cX9_clear 30 = .ok (.iinc 1 1, 3) := zD132p whX9_clear_0 (p := 30) (v := 1) rfl rfl rfl
def wlX9_clear_1 : List Nat := [167, 255, 240, 177]
theorem whX9_clear_1 : WLy cX9_clear 33 wlX9_clear_1 := by decide +kernel
theorem dX9_clear_33 : decode cX9_clear 33 = .ok (.goto (-16), 3) := zD167n whX9_clear_1 (p := 0) (v := 16) rfl rfl rfl
theorem dX9_clear_36 : decode cX9_clear 36 = .ok (.return_, 1) := zD177 whX9_clear_1 (p := 3) rfl
def wlX9_copyOf_0 : List Nat := [42, 43, 180, 0, 34, 181, 0, 34, 42, 43, 180, 0, 37, 181, 0, 37, 42, 43, 180, 0, 9, 181, 0, 9, 43, 180, 0, 15, 3, 42, 180, 0, 15]
theorem whX9_copyOf_0 : WLy cX9_copyOf 0 wlX9_copyOf_0 := by decide +kernel
theorem dX9_copyOf_0 : decode cX9_copyOf 0 = .ok (.aload_n 0, 1) := zD42 whX9_copyOf_0 (p := 0) rfl
theorem dX9_copyOf_1 : decode cX9_copyOf 1 = .ok (.aload_n 1, 1) := zD43 whX9_copyOf_0 (p := 1) rfl
theorem dX9_copyOf_2 : decode cX9_copyOf 2 = .ok (.getfield 34, 3) := zD180 whX9_copyOf_0 (p := 2) rfl rfl
theorem dX9_copyOf_5 : decode cX9_copyOf 5 = .ok (.putfield 34, 3) := zD181 whX9_copyOf_0 (p := 5) rfl rfl
theorem dX9_copyOf_8 : decode cX9_copyOf 8 = .ok (.aload_n 0, 1) := zD42 whX9_copyOf_0 (p := 8) rfl
theorem dX9_copyOf_9 : decode cX9_copyOf 9 = .ok (.aload_n 1, 1) := zD43 whX9_copyOf_0 (p := 9) rfl
theorem dX9_copyOf_10 : decode cX9_copyOf 10 = .ok (.getfield 37, 3) := zD180 whX9_copyOf_0 (p := 10) rfl rfl
theorem dX9_copyOf_13 : decode cX9_copyOf 13 = .ok (.putfield 37, 3) := zD181 whX9_copyOf_0 (p := 13) rfl rfl
theorem dX9_copyOf_16 : decode cX9_copyOf 16 = .ok (.aload_n 0, 1) := zD42 whX9_copyOf_0 (p := 16) rfl
theorem dX9_copyOf_17 : decode cX9_copyOf 17 = .ok (.aload_n 1, 1) := zD43 whX9_copyOf_0 (p := 17) rfl
theorem dX9_copyOf_18 : decode cX9_copyOf 18 = .ok (.getfield 9, 3) := zD180 whX9_copyOf_0 (p := 18) rfl rfl
theorem dX9_copyOf_21 : decode cX9_copyOf 21 = .ok (.putfield 9, 3) := zD181 whX9_copyOf_0 (p := 21) rfl rfl
theorem dX9_copyOf_24 : decode cX9_copyOf 24 = .ok (.aload_n 1, 1) := zD43 whX9_copyOf_0 (p := 24) rfl
theorem dX9_copyOf_25 : decode cX9_copyOf 25 = .ok (.getfield 15, 3) := zD180 whX9_copyOf_0 (p := 25) rfl rfl
theorem dX9_copyOf_28 : decode cX9_copyOf 28 = .ok (.iconst 0, 1) := zD3 whX9_copyOf_0 (p := 28) rfl
theorem dX9_copyOf_29 : decode cX9_copyOf 29 = .ok (.aload_n 0, 1) := zD42 whX9_copyOf_0 (p := 29) rfl
theorem dX9_copyOf_30 : decode cX9_copyOf 30 = .ok (.getfield 15, 3) := zD180 whX9_copyOf_0 (p := 30) rfl rfl
def wlX9_copyOf_1 : List Nat := [3, 16, 10, 184, 0, 40, 43, 180, 0, 19, 3, 42, 180, 0, 19, 3, 16, 10, 184, 0, 40, 43, 180, 0, 22, 3, 42, 180, 0, 22, 3, 16, 10]
theorem whX9_copyOf_1 : WLy cX9_copyOf 33 wlX9_copyOf_1 := by decide +kernel
theorem dX9_copyOf_33 : decode cX9_copyOf 33 = .ok (.iconst 0, 1) := zD3 whX9_copyOf_1 (p := 0) rfl
theorem dX9_copyOf_34 : decode cX9_copyOf 34 = .ok (.bipush 10, 2) := zD16p whX9_copyOf_1 (p := 1) (v := 10) rfl rfl rfl
theorem dX9_copyOf_36 : decode cX9_copyOf 36 = .ok (.invokestatic 40, 3) := zD184 whX9_copyOf_1 (p := 3) rfl rfl
theorem dX9_copyOf_39 : decode cX9_copyOf 39 = .ok (.aload_n 1, 1) := zD43 whX9_copyOf_1 (p := 6) rfl
theorem dX9_copyOf_40 : decode cX9_copyOf 40 = .ok (.getfield 19, 3) := zD180 whX9_copyOf_1 (p := 7) rfl rfl
theorem dX9_copyOf_43 : decode cX9_copyOf 43 = .ok (.iconst 0, 1) := zD3 whX9_copyOf_1 (p := 10) rfl
theorem dX9_copyOf_44 : decode cX9_copyOf 44 = .ok (.aload_n 0, 1) := zD42 whX9_copyOf_1 (p := 11) rfl
theorem dX9_copyOf_45 : decode cX9_copyOf 45 = .ok (.getfield 19, 3) := zD180 whX9_copyOf_1 (p := 12) rfl rfl
theorem dX9_copyOf_48 : decode cX9_copyOf 48 = .ok (.iconst 0, 1) := zD3 whX9_copyOf_1 (p := 15) rfl
theorem dX9_copyOf_49 : decode cX9_copyOf 49 = .ok (.bipush 10, 2) := zD16p whX9_copyOf_1 (p := 16) (v := 10) rfl rfl rfl
theorem dX9_copyOf_51 : decode cX9_copyOf 51 = .ok (.invokestatic 40, 3) := zD184 whX9_copyOf_1 (p := 18) rfl rfl
theorem dX9_copyOf_54 : decode cX9_copyOf 54 = .ok (.aload_n 1, 1) := zD43 whX9_copyOf_1 (p := 21) rfl
theorem dX9_copyOf_55 : decode cX9_copyOf 55 = .ok (.getfield 22, 3) := zD180 whX9_copyOf_1 (p := 22) rfl rfl
theorem dX9_copyOf_58 : decode cX9_copyOf 58 = .ok (.iconst 0, 1) := zD3 whX9_copyOf_1 (p := 25) rfl
theorem dX9_copyOf_59 : decode cX9_copyOf 59 = .ok (.aload_n 0, 1) := zD42 whX9_copyOf_1 (p := 26) rfl
theorem dX9_copyOf_60 : decode cX9_copyOf 60 = .ok (.getfield 22, 3) := zD180 whX9_copyOf_1 (p := 27) rfl rfl
theorem dX9_copyOf_63 : decode cX9_copyOf 63 = .ok (.iconst 0, 1) := zD3 whX9_copyOf_1 (p := 30) rfl
theorem dX9_copyOf_64 : decode cX9_copyOf 64 = .ok (.bipush 10, 2) := zD16p whX9_copyOf_1 (p := 31) (v := 10) rfl rfl rfl
def wlX9_copyOf_2 : List Nat := [184, 0, 40, 43, 180, 0, 25, 3, 42, 180, 0, 25, 3, 16, 6, 184, 0, 40, 43, 180, 0, 28, 3, 42, 180, 0, 28, 3, 16, 6, 184, 0, 40]
theorem whX9_copyOf_2 : WLy cX9_copyOf 66 wlX9_copyOf_2 := by decide +kernel
theorem dX9_copyOf_66 : decode cX9_copyOf 66 = .ok (.invokestatic 40, 3) := zD184 whX9_copyOf_2 (p := 0) rfl rfl
theorem dX9_copyOf_69 : decode cX9_copyOf 69 = .ok (.aload_n 1, 1) := zD43 whX9_copyOf_2 (p := 3) rfl
theorem dX9_copyOf_70 : decode cX9_copyOf 70 = .ok (.getfield 25, 3) := zD180 whX9_copyOf_2 (p := 4) rfl rfl
theorem dX9_copyOf_73 : decode cX9_copyOf 73 = .ok (.iconst 0, 1) := zD3 whX9_copyOf_2 (p := 7) rfl
theorem dX9_copyOf_74 : decode cX9_copyOf 74 = .ok (.aload_n 0, 1) := zD42 whX9_copyOf_2 (p := 8) rfl
theorem dX9_copyOf_75 : decode cX9_copyOf 75 = .ok (.getfield 25, 3) := zD180 whX9_copyOf_2 (p := 9) rfl rfl
theorem dX9_copyOf_78 : decode cX9_copyOf 78 = .ok (.iconst 0, 1) := zD3 whX9_copyOf_2 (p := 12) rfl
theorem dX9_copyOf_79 : decode cX9_copyOf 79 = .ok (.bipush 6, 2) := zD16p whX9_copyOf_2 (p := 13) (v := 6) rfl rfl rfl
theorem dX9_copyOf_81 : decode cX9_copyOf 81 = .ok (.invokestatic 40, 3) := zD184 whX9_copyOf_2 (p := 15) rfl rfl
theorem dX9_copyOf_84 : decode cX9_copyOf 84 = .ok (.aload_n 1, 1) := zD43 whX9_copyOf_2 (p := 18) rfl
theorem dX9_copyOf_85 : decode cX9_copyOf 85 = .ok (.getfield 28, 3) := zD180 whX9_copyOf_2 (p := 19) rfl rfl
theorem dX9_copyOf_88 : decode cX9_copyOf 88 = .ok (.iconst 0, 1) := zD3 whX9_copyOf_2 (p := 22) rfl
theorem dX9_copyOf_89 : decode cX9_copyOf 89 = .ok (.aload_n 0, 1) := zD42 whX9_copyOf_2 (p := 23) rfl
theorem dX9_copyOf_90 : decode cX9_copyOf 90 = .ok (.getfield 28, 3) := zD180 whX9_copyOf_2 (p := 24) rfl rfl
theorem dX9_copyOf_93 : decode cX9_copyOf 93 = .ok (.iconst 0, 1) := zD3 whX9_copyOf_2 (p := 27) rfl
theorem dX9_copyOf_94 : decode cX9_copyOf 94 = .ok (.bipush 6, 2) := zD16p whX9_copyOf_2 (p := 28) (v := 6) rfl rfl rfl
theorem dX9_copyOf_96 : decode cX9_copyOf 96 = .ok (.invokestatic 40, 3) := zD184 whX9_copyOf_2 (p := 30) rfl rfl
def wlX9_copyOf_3 : List Nat := [43, 180, 0, 31, 3, 42, 180, 0, 31, 3, 16, 6, 184, 0, 40, 177]
theorem whX9_copyOf_3 : WLy cX9_copyOf 99 wlX9_copyOf_3 := by decide +kernel
theorem dX9_copyOf_99 : decode cX9_copyOf 99 = .ok (.aload_n 1, 1) := zD43 whX9_copyOf_3 (p := 0) rfl
theorem dX9_copyOf_100 : decode cX9_copyOf 100 = .ok (.getfield 31, 3) := zD180 whX9_copyOf_3 (p := 1) rfl rfl
theorem dX9_copyOf_103 : decode cX9_copyOf 103 = .ok (.iconst 0, 1) := zD3 whX9_copyOf_3 (p := 4) rfl
theorem dX9_copyOf_104 : decode cX9_copyOf 104 = .ok (.aload_n 0, 1) := zD42 whX9_copyOf_3 (p := 5) rfl
theorem dX9_copyOf_105 : decode cX9_copyOf 105 = .ok (.getfield 31, 3) := zD180 whX9_copyOf_3 (p := 6) rfl rfl
theorem dX9_copyOf_108 : decode cX9_copyOf 108 = .ok (.iconst 0, 1) := zD3 whX9_copyOf_3 (p := 9) rfl
theorem dX9_copyOf_109 : decode cX9_copyOf 109 = .ok (.bipush 6, 2) := zD16p whX9_copyOf_3 (p := 10) (v := 6) rfl rfl rfl
theorem dX9_copyOf_111 : decode cX9_copyOf 111 = .ok (.invokestatic 40, 3) := zD184 whX9_copyOf_3 (p := 12) rfl rfl
theorem dX9_copyOf_114 : decode cX9_copyOf 114 = .ok (.return_, 1) := zD177 whX9_copyOf_3 (p := 15) rfl
def wlX9_hasStretch_0 : List Nat := [27, 155, 0, 15, 27, 42, 180, 0, 34, 162, 0, 7, 4, 167, 0, 4, 3, 172]
theorem whX9_hasStretch_0 : WLy cX9_hasStretch 0 wlX9_hasStretch_0 := by decide +kernel
theorem dX9_hasStretch_0 : decode cX9_hasStretch 0 = .ok (.iload_n 1, 1) := zD27 whX9_hasStretch_0 (p := 0) rfl
theorem dX9_hasStretch_1 : decode cX9_hasStretch 1 = .ok (.ifCond .lt 15, 3) := zD155p whX9_hasStretch_0 (p := 1) (v := 15) rfl rfl rfl
theorem dX9_hasStretch_4 : decode cX9_hasStretch 4 = .ok (.iload_n 1, 1) := zD27 whX9_hasStretch_0 (p := 4) rfl
theorem dX9_hasStretch_5 : decode cX9_hasStretch 5 = .ok (.aload_n 0, 1) := zD42 whX9_hasStretch_0 (p := 5) rfl
theorem dX9_hasStretch_6 : decode cX9_hasStretch 6 = .ok (.getfield 34, 3) := zD180 whX9_hasStretch_0 (p := 6) rfl rfl
theorem dX9_hasStretch_9 : decode cX9_hasStretch 9 = .ok (.if_icmp .ge 7, 3) := zD162p whX9_hasStretch_0 (p := 9) (v := 7) rfl rfl rfl
theorem dX9_hasStretch_12 : decode cX9_hasStretch 12 = .ok (.iconst 1, 1) := zD4 whX9_hasStretch_0 (p := 12) rfl
theorem dX9_hasStretch_13 : decode cX9_hasStretch 13 = .ok (.goto 4, 3) := zD167p whX9_hasStretch_0 (p := 13) (v := 4) rfl rfl rfl
theorem dX9_hasStretch_16 : decode cX9_hasStretch 16 = .ok (.iconst 0, 1) := zD3 whX9_hasStretch_0 (p := 16) rfl
theorem dX9_hasStretch_17 : decode cX9_hasStretch 17 = .ok (.ireturn, 1) := zD172 whX9_hasStretch_0 (p := 17) rfl
def wlX9_hasBearer_0 : List Nat := [27, 155, 0, 15, 27, 42, 180, 0, 37, 162, 0, 7, 4, 167, 0, 4, 3, 172]
theorem whX9_hasBearer_0 : WLy cX9_hasBearer 0 wlX9_hasBearer_0 := by decide +kernel
theorem dX9_hasBearer_0 : decode cX9_hasBearer 0 = .ok (.iload_n 1, 1) := zD27 whX9_hasBearer_0 (p := 0) rfl
theorem dX9_hasBearer_1 : decode cX9_hasBearer 1 = .ok (.ifCond .lt 15, 3) := zD155p whX9_hasBearer_0 (p := 1) (v := 15) rfl rfl rfl
theorem dX9_hasBearer_4 : decode cX9_hasBearer 4 = .ok (.iload_n 1, 1) := zD27 whX9_hasBearer_0 (p := 4) rfl
theorem dX9_hasBearer_5 : decode cX9_hasBearer 5 = .ok (.aload_n 0, 1) := zD42 whX9_hasBearer_0 (p := 5) rfl
theorem dX9_hasBearer_6 : decode cX9_hasBearer 6 = .ok (.getfield 37, 3) := zD180 whX9_hasBearer_0 (p := 6) rfl rfl
theorem dX9_hasBearer_9 : decode cX9_hasBearer 9 = .ok (.if_icmp .ge 7, 3) := zD162p whX9_hasBearer_0 (p := 9) (v := 7) rfl rfl rfl
theorem dX9_hasBearer_12 : decode cX9_hasBearer 12 = .ok (.iconst 1, 1) := zD4 whX9_hasBearer_0 (p := 12) rfl
theorem dX9_hasBearer_13 : decode cX9_hasBearer 13 = .ok (.goto 4, 3) := zD167p whX9_hasBearer_0 (p := 13) (v := 4) rfl rfl rfl
theorem dX9_hasBearer_16 : decode cX9_hasBearer 16 = .ok (.iconst 0, 1) := zD3 whX9_hasBearer_0 (p := 16) rfl
theorem dX9_hasBearer_17 : decode cX9_hasBearer 17 = .ok (.ireturn, 1) := zD172 whX9_hasBearer_0 (p := 17) rfl
def wlX9_addStretch_0 : List Nat := [42, 180, 0, 34, 16, 10, 162, 0, 33, 42, 180, 0, 15, 42, 180, 0, 34, 27, 79, 42, 180, 0, 19, 42, 180, 0, 34, 28, 79, 42, 89, 180, 0, 34]
theorem whX9_addStretch_0 : WLy cX9_addStretch 0 wlX9_addStretch_0 := by decide +kernel
theorem dX9_addStretch_0 : decode cX9_addStretch 0 = .ok (.aload_n 0, 1) := zD42 whX9_addStretch_0 (p := 0) rfl
theorem dX9_addStretch_1 : decode cX9_addStretch 1 = .ok (.getfield 34, 3) := zD180 whX9_addStretch_0 (p := 1) rfl rfl
theorem dX9_addStretch_4 : decode cX9_addStretch 4 = .ok (.bipush 10, 2) := zD16p whX9_addStretch_0 (p := 4) (v := 10) rfl rfl rfl
theorem dX9_addStretch_6 : decode cX9_addStretch 6 = .ok (.if_icmp .ge 33, 3) := zD162p whX9_addStretch_0 (p := 6) (v := 33) rfl rfl rfl
theorem dX9_addStretch_9 : decode cX9_addStretch 9 = .ok (.aload_n 0, 1) := zD42 whX9_addStretch_0 (p := 9) rfl
theorem dX9_addStretch_10 : decode cX9_addStretch 10 = .ok (.getfield 15, 3) := zD180 whX9_addStretch_0 (p := 10) rfl rfl
theorem dX9_addStretch_13 : decode cX9_addStretch 13 = .ok (.aload_n 0, 1) := zD42 whX9_addStretch_0 (p := 13) rfl
theorem dX9_addStretch_14 : decode cX9_addStretch 14 = .ok (.getfield 34, 3) := zD180 whX9_addStretch_0 (p := 14) rfl rfl
theorem dX9_addStretch_17 : decode cX9_addStretch 17 = .ok (.iload_n 1, 1) := zD27 whX9_addStretch_0 (p := 17) rfl
theorem dX9_addStretch_18 : decode cX9_addStretch 18 = .ok (.iastore, 1) := zD79 whX9_addStretch_0 (p := 18) rfl
theorem dX9_addStretch_19 : decode cX9_addStretch 19 = .ok (.aload_n 0, 1) := zD42 whX9_addStretch_0 (p := 19) rfl
theorem dX9_addStretch_20 : decode cX9_addStretch 20 = .ok (.getfield 19, 3) := zD180 whX9_addStretch_0 (p := 20) rfl rfl
theorem dX9_addStretch_23 : decode cX9_addStretch 23 = .ok (.aload_n 0, 1) := zD42 whX9_addStretch_0 (p := 23) rfl
theorem dX9_addStretch_24 : decode cX9_addStretch 24 = .ok (.getfield 34, 3) := zD180 whX9_addStretch_0 (p := 24) rfl rfl
theorem dX9_addStretch_27 : decode cX9_addStretch 27 = .ok (.iload_n 2, 1) := zD28 whX9_addStretch_0 (p := 27) rfl
theorem dX9_addStretch_28 : decode cX9_addStretch 28 = .ok (.iastore, 1) := zD79 whX9_addStretch_0 (p := 28) rfl
theorem dX9_addStretch_29 : decode cX9_addStretch 29 = .ok (.aload_n 0, 1) := zD42 whX9_addStretch_0 (p := 29) rfl
theorem dX9_addStretch_30 : decode cX9_addStretch 30 = .ok (.dup, 1) := zD89 whX9_addStretch_0 (p := 30) rfl
theorem dX9_addStretch_31 : decode cX9_addStretch 31 = .ok (.getfield 34, 3) := zD180 whX9_addStretch_0 (p := 31) rfl rfl
def wlX9_addStretch_1 : List Nat := [4, 96, 181, 0, 34, 177]
theorem whX9_addStretch_1 : WLy cX9_addStretch 34 wlX9_addStretch_1 := by decide +kernel
theorem dX9_addStretch_34 : decode cX9_addStretch 34 = .ok (.iconst 1, 1) := zD4 whX9_addStretch_1 (p := 0) rfl
theorem dX9_addStretch_35 : decode cX9_addStretch 35 = .ok (.iadd, 1) := zD96 whX9_addStretch_1 (p := 1) rfl
theorem dX9_addStretch_36 : decode cX9_addStretch 36 = .ok (.putfield 34, 3) := zD181 whX9_addStretch_1 (p := 2) rfl rfl
theorem dX9_addStretch_39 : decode cX9_addStretch 39 = .ok (.return_, 1) := zD177 whX9_addStretch_1 (p := 5) rfl
def wlX9_addBearer_0 : List Nat := [42, 180, 0, 37, 16, 6, 162, 0, 43, 42, 180, 0, 25, 42, 180, 0, 37, 27, 79, 42, 180, 0, 28, 42, 180, 0, 37, 28, 79, 42, 180, 0, 31]
theorem whX9_addBearer_0 : WLy cX9_addBearer 0 wlX9_addBearer_0 := by decide +kernel
theorem dX9_addBearer_0 : decode cX9_addBearer 0 = .ok (.aload_n 0, 1) := zD42 whX9_addBearer_0 (p := 0) rfl
theorem dX9_addBearer_1 : decode cX9_addBearer 1 = .ok (.getfield 37, 3) := zD180 whX9_addBearer_0 (p := 1) rfl rfl
theorem dX9_addBearer_4 : decode cX9_addBearer 4 = .ok (.bipush 6, 2) := zD16p whX9_addBearer_0 (p := 4) (v := 6) rfl rfl rfl
theorem dX9_addBearer_6 : decode cX9_addBearer 6 = .ok (.if_icmp .ge 43, 3) := zD162p whX9_addBearer_0 (p := 6) (v := 43) rfl rfl rfl
theorem dX9_addBearer_9 : decode cX9_addBearer 9 = .ok (.aload_n 0, 1) := zD42 whX9_addBearer_0 (p := 9) rfl
theorem dX9_addBearer_10 : decode cX9_addBearer 10 = .ok (.getfield 25, 3) := zD180 whX9_addBearer_0 (p := 10) rfl rfl
theorem dX9_addBearer_13 : decode cX9_addBearer 13 = .ok (.aload_n 0, 1) := zD42 whX9_addBearer_0 (p := 13) rfl
theorem dX9_addBearer_14 : decode cX9_addBearer 14 = .ok (.getfield 37, 3) := zD180 whX9_addBearer_0 (p := 14) rfl rfl
theorem dX9_addBearer_17 : decode cX9_addBearer 17 = .ok (.iload_n 1, 1) := zD27 whX9_addBearer_0 (p := 17) rfl
theorem dX9_addBearer_18 : decode cX9_addBearer 18 = .ok (.iastore, 1) := zD79 whX9_addBearer_0 (p := 18) rfl
theorem dX9_addBearer_19 : decode cX9_addBearer 19 = .ok (.aload_n 0, 1) := zD42 whX9_addBearer_0 (p := 19) rfl
theorem dX9_addBearer_20 : decode cX9_addBearer 20 = .ok (.getfield 28, 3) := zD180 whX9_addBearer_0 (p := 20) rfl rfl
theorem dX9_addBearer_23 : decode cX9_addBearer 23 = .ok (.aload_n 0, 1) := zD42 whX9_addBearer_0 (p := 23) rfl
theorem dX9_addBearer_24 : decode cX9_addBearer 24 = .ok (.getfield 37, 3) := zD180 whX9_addBearer_0 (p := 24) rfl rfl
theorem dX9_addBearer_27 : decode cX9_addBearer 27 = .ok (.iload_n 2, 1) := zD28 whX9_addBearer_0 (p := 27) rfl
theorem dX9_addBearer_28 : decode cX9_addBearer 28 = .ok (.iastore, 1) := zD79 whX9_addBearer_0 (p := 28) rfl
theorem dX9_addBearer_29 : decode cX9_addBearer 29 = .ok (.aload_n 0, 1) := zD42 whX9_addBearer_0 (p := 29) rfl
theorem dX9_addBearer_30 : decode cX9_addBearer 30 = .ok (.getfield 31, 3) := zD180 whX9_addBearer_0 (p := 30) rfl rfl
def wlX9_addBearer_1 : List Nat := [42, 180, 0, 37, 29, 79, 42, 89, 180, 0, 37, 4, 96, 181, 0, 37, 177]
theorem whX9_addBearer_1 : WLy cX9_addBearer 33 wlX9_addBearer_1 := by decide +kernel
theorem dX9_addBearer_33 : decode cX9_addBearer 33 = .ok (.aload_n 0, 1) := zD42 whX9_addBearer_1 (p := 0) rfl
theorem dX9_addBearer_34 : decode cX9_addBearer 34 = .ok (.getfield 37, 3) := zD180 whX9_addBearer_1 (p := 1) rfl rfl
theorem dX9_addBearer_37 : decode cX9_addBearer 37 = .ok (.iload_n 3, 1) := zD29 whX9_addBearer_1 (p := 4) rfl
theorem dX9_addBearer_38 : decode cX9_addBearer 38 = .ok (.iastore, 1) := zD79 whX9_addBearer_1 (p := 5) rfl
theorem dX9_addBearer_39 : decode cX9_addBearer 39 = .ok (.aload_n 0, 1) := zD42 whX9_addBearer_1 (p := 6) rfl
theorem dX9_addBearer_40 : decode cX9_addBearer 40 = .ok (.dup, 1) := zD89 whX9_addBearer_1 (p := 7) rfl
theorem dX9_addBearer_41 : decode cX9_addBearer 41 = .ok (.getfield 37, 3) := zD180 whX9_addBearer_1 (p := 8) rfl rfl
theorem dX9_addBearer_44 : decode cX9_addBearer 44 = .ok (.iconst 1, 1) := zD4 whX9_addBearer_1 (p := 11) rfl
theorem dX9_addBearer_45 : decode cX9_addBearer 45 = .ok (.iadd, 1) := zD96 whX9_addBearer_1 (p := 12) rfl
theorem dX9_addBearer_46 : decode cX9_addBearer 46 = .ok (.putfield 37, 3) := zD181 whX9_addBearer_1 (p := 13) rfl rfl
theorem dX9_addBearer_49 : decode cX9_addBearer 49 = .ok (.return_, 1) := zD177 whX9_addBearer_1 (p := 16) rfl
def wlX9_canHand_0 : List Nat := [42, 27, 182, 0, 46, 153, 0, 29, 28, 16, 252, 159, 0, 11, 42, 28, 182, 0, 50, 153, 0, 15, 42, 29, 182, 0, 50, 153, 0, 7, 4, 167, 0, 4]
theorem whX9_canHand_0 : WLy cX9_canHand 0 wlX9_canHand_0 := by decide +kernel
theorem dX9_canHand_0 : decode cX9_canHand 0 = .ok (.aload_n 0, 1) := zD42 whX9_canHand_0 (p := 0) rfl
theorem dX9_canHand_1 : decode cX9_canHand 1 = .ok (.iload_n 1, 1) := zD27 whX9_canHand_0 (p := 1) rfl
theorem dX9_canHand_2 : decode cX9_canHand 2 = .ok (.invokevirtual 46, 3) := zD182 whX9_canHand_0 (p := 2) rfl rfl
theorem dX9_canHand_5 : decode cX9_canHand 5 = .ok (.ifCond .eq 29, 3) := zD153p whX9_canHand_0 (p := 5) (v := 29) rfl rfl rfl
theorem dX9_canHand_8 : decode cX9_canHand 8 = .ok (.iload_n 2, 1) := zD28 whX9_canHand_0 (p := 8) rfl
theorem dX9_canHand_9 : decode cX9_canHand 9 = .ok (.bipush (-4), 2) := zD16n whX9_canHand_0 (p := 9) (v := 4) rfl rfl rfl
theorem dX9_canHand_11 : decode cX9_canHand 11 = .ok (.if_icmp .eq 11, 3) := zD159p whX9_canHand_0 (p := 11) (v := 11) rfl rfl rfl
theorem dX9_canHand_14 : decode cX9_canHand 14 = .ok (.aload_n 0, 1) := zD42 whX9_canHand_0 (p := 14) rfl
theorem dX9_canHand_15 : decode cX9_canHand 15 = .ok (.iload_n 2, 1) := zD28 whX9_canHand_0 (p := 15) rfl
theorem dX9_canHand_16 : decode cX9_canHand 16 = .ok (.invokevirtual 50, 3) := zD182 whX9_canHand_0 (p := 16) rfl rfl
theorem dX9_canHand_19 : decode cX9_canHand 19 = .ok (.ifCond .eq 15, 3) := zD153p whX9_canHand_0 (p := 19) (v := 15) rfl rfl rfl
theorem dX9_canHand_22 : decode cX9_canHand 22 = .ok (.aload_n 0, 1) := zD42 whX9_canHand_0 (p := 22) rfl
theorem dX9_canHand_23 : decode cX9_canHand 23 = .ok (.iload_n 3, 1) := zD29 whX9_canHand_0 (p := 23) rfl
theorem dX9_canHand_24 : decode cX9_canHand 24 = .ok (.invokevirtual 50, 3) := zD182 whX9_canHand_0 (p := 24) rfl rfl
theorem dX9_canHand_27 : decode cX9_canHand 27 = .ok (.ifCond .eq 7, 3) := zD153p whX9_canHand_0 (p := 27) (v := 7) rfl rfl rfl
theorem dX9_canHand_30 : decode cX9_canHand 30 = .ok (.iconst 1, 1) := zD4 whX9_canHand_0 (p := 30) rfl
theorem dX9_canHand_31 : decode cX9_canHand 31 = .ok (.goto 4, 3) := zD167p whX9_canHand_0 (p := 31) (v := 4) rfl rfl rfl
def wlX9_canHand_1 : List Nat := [3, 172]
theorem whX9_canHand_1 : WLy cX9_canHand 34 wlX9_canHand_1 := by decide +kernel
theorem dX9_canHand_34 : decode cX9_canHand 34 = .ok (.iconst 0, 1) := zD3 whX9_canHand_1 (p := 0) rfl
theorem dX9_canHand_35 : decode cX9_canHand 35 = .ok (.ireturn, 1) := zD172 whX9_canHand_1 (p := 1) rfl
def wlX9_harmBy_0 : List Nat := [42, 27, 28, 29, 182, 0, 53, 154, 0, 5, 3, 172, 16, 20, 42, 27, 29, 182, 0, 57, 42, 27, 29, 182, 0, 61, 96, 42, 28, 29, 182, 0, 64]
theorem whX9_harmBy_0 : WLy cX9_harmBy 0 wlX9_harmBy_0 := by decide +kernel
theorem dX9_harmBy_0 : decode cX9_harmBy 0 = .ok (.aload_n 0, 1) := zD42 whX9_harmBy_0 (p := 0) rfl
theorem dX9_harmBy_1 : decode cX9_harmBy 1 = .ok (.iload_n 1, 1) := zD27 whX9_harmBy_0 (p := 1) rfl
theorem dX9_harmBy_2 : decode cX9_harmBy 2 = .ok (.iload_n 2, 1) := zD28 whX9_harmBy_0 (p := 2) rfl
theorem dX9_harmBy_3 : decode cX9_harmBy 3 = .ok (.iload_n 3, 1) := zD29 whX9_harmBy_0 (p := 3) rfl
theorem dX9_harmBy_4 : decode cX9_harmBy 4 = .ok (.invokevirtual 53, 3) := zD182 whX9_harmBy_0 (p := 4) rfl rfl
theorem dX9_harmBy_7 : decode cX9_harmBy 7 = .ok (.ifCond .ne 5, 3) := zD154p whX9_harmBy_0 (p := 7) (v := 5) rfl rfl rfl
theorem dX9_harmBy_10 : decode cX9_harmBy 10 = .ok (.iconst 0, 1) := zD3 whX9_harmBy_0 (p := 10) rfl
theorem dX9_harmBy_11 : decode cX9_harmBy 11 = .ok (.ireturn, 1) := zD172 whX9_harmBy_0 (p := 11) rfl
theorem dX9_harmBy_12 : decode cX9_harmBy 12 = .ok (.bipush 20, 2) := zD16p whX9_harmBy_0 (p := 12) (v := 20) rfl rfl rfl
theorem dX9_harmBy_14 : decode cX9_harmBy 14 = .ok (.aload_n 0, 1) := zD42 whX9_harmBy_0 (p := 14) rfl
theorem dX9_harmBy_15 : decode cX9_harmBy 15 = .ok (.iload_n 1, 1) := zD27 whX9_harmBy_0 (p := 15) rfl
theorem dX9_harmBy_16 : decode cX9_harmBy 16 = .ok (.iload_n 3, 1) := zD29 whX9_harmBy_0 (p := 16) rfl
theorem dX9_harmBy_17 : decode cX9_harmBy 17 = .ok (.invokevirtual 57, 3) := zD182 whX9_harmBy_0 (p := 17) rfl rfl
theorem dX9_harmBy_20 : decode cX9_harmBy 20 = .ok (.aload_n 0, 1) := zD42 whX9_harmBy_0 (p := 20) rfl
theorem dX9_harmBy_21 : decode cX9_harmBy 21 = .ok (.iload_n 1, 1) := zD27 whX9_harmBy_0 (p := 21) rfl
theorem dX9_harmBy_22 : decode cX9_harmBy 22 = .ok (.iload_n 3, 1) := zD29 whX9_harmBy_0 (p := 22) rfl
theorem dX9_harmBy_23 : decode cX9_harmBy 23 = .ok (.invokevirtual 61, 3) := zD182 whX9_harmBy_0 (p := 23) rfl rfl
theorem dX9_harmBy_26 : decode cX9_harmBy 26 = .ok (.iadd, 1) := zD96 whX9_harmBy_0 (p := 26) rfl
theorem dX9_harmBy_27 : decode cX9_harmBy 27 = .ok (.aload_n 0, 1) := zD42 whX9_harmBy_0 (p := 27) rfl
theorem dX9_harmBy_28 : decode cX9_harmBy 28 = .ok (.iload_n 2, 1) := zD28 whX9_harmBy_0 (p := 28) rfl
theorem dX9_harmBy_29 : decode cX9_harmBy 29 = .ok (.iload_n 3, 1) := zD29 whX9_harmBy_0 (p := 29) rfl
theorem dX9_harmBy_30 : decode cX9_harmBy 30 = .ok (.invokevirtual 64, 3) := zD182 whX9_harmBy_0 (p := 30) rfl rfl
def wlX9_harmBy_1 : List Nat := [96, 184, 0, 67, 172]
theorem whX9_harmBy_1 : WLy cX9_harmBy 33 wlX9_harmBy_1 := by decide +kernel
theorem dX9_harmBy_33 : decode cX9_harmBy 33 = .ok (.iadd, 1) := zD96 whX9_harmBy_1 (p := 0) rfl
theorem dX9_harmBy_34 : decode cX9_harmBy 34 = .ok (.invokestatic 67, 3) := zD184 whX9_harmBy_1 (p := 1) rfl rfl
theorem dX9_harmBy_37 : decode cX9_harmBy 37 = .ok (.ireturn, 1) := zD172 whX9_harmBy_1 (p := 4) rfl
def wlX9_noiseBy_0 : List Nat := [42, 180, 0, 25, 28, 46, 4, 160, 0, 7, 5, 167, 0, 18, 42, 180, 0, 25, 28, 46, 6, 160, 0, 7, 4, 167, 0, 4, 3, 62, 3, 42]
theorem whX9_noiseBy_0 : WLy cX9_noiseBy 0 wlX9_noiseBy_0 := by decide +kernel
theorem dX9_noiseBy_0 : decode cX9_noiseBy 0 = .ok (.aload_n 0, 1) := zD42 whX9_noiseBy_0 (p := 0) rfl
theorem dX9_noiseBy_1 : decode cX9_noiseBy 1 = .ok (.getfield 25, 3) := zD180 whX9_noiseBy_0 (p := 1) rfl rfl
theorem dX9_noiseBy_4 : decode cX9_noiseBy 4 = .ok (.iload_n 2, 1) := zD28 whX9_noiseBy_0 (p := 4) rfl
theorem dX9_noiseBy_5 : decode cX9_noiseBy 5 = .ok (.iaload, 1) := zD46 whX9_noiseBy_0 (p := 5) rfl
theorem dX9_noiseBy_6 : decode cX9_noiseBy 6 = .ok (.iconst 1, 1) := zD4 whX9_noiseBy_0 (p := 6) rfl
theorem dX9_noiseBy_7 : decode cX9_noiseBy 7 = .ok (.if_icmp .ne 7, 3) := zD160p whX9_noiseBy_0 (p := 7) (v := 7) rfl rfl rfl
theorem dX9_noiseBy_10 : decode cX9_noiseBy 10 = .ok (.iconst 2, 1) := zD5 whX9_noiseBy_0 (p := 10) rfl
theorem dX9_noiseBy_11 : decode cX9_noiseBy 11 = .ok (.goto 18, 3) := zD167p whX9_noiseBy_0 (p := 11) (v := 18) rfl rfl rfl
theorem dX9_noiseBy_14 : decode cX9_noiseBy 14 = .ok (.aload_n 0, 1) := zD42 whX9_noiseBy_0 (p := 14) rfl
theorem dX9_noiseBy_15 : decode cX9_noiseBy 15 = .ok (.getfield 25, 3) := zD180 whX9_noiseBy_0 (p := 15) rfl rfl
theorem dX9_noiseBy_18 : decode cX9_noiseBy 18 = .ok (.iload_n 2, 1) := zD28 whX9_noiseBy_0 (p := 18) rfl
theorem dX9_noiseBy_19 : decode cX9_noiseBy 19 = .ok (.iaload, 1) := zD46 whX9_noiseBy_0 (p := 19) rfl
theorem dX9_noiseBy_20 : decode cX9_noiseBy 20 = .ok (.iconst 3, 1) := zD6 whX9_noiseBy_0 (p := 20) rfl
theorem dX9_noiseBy_21 : decode cX9_noiseBy 21 = .ok (.if_icmp .ne 7, 3) := zD160p whX9_noiseBy_0 (p := 21) (v := 7) rfl rfl rfl
theorem dX9_noiseBy_24 : decode cX9_noiseBy 24 = .ok (.iconst 1, 1) := zD4 whX9_noiseBy_0 (p := 24) rfl
theorem dX9_noiseBy_25 : decode cX9_noiseBy 25 = .ok (.goto 4, 3) := zD167p whX9_noiseBy_0 (p := 25) (v := 4) rfl rfl rfl
theorem dX9_noiseBy_28 : decode cX9_noiseBy 28 = .ok (.iconst 0, 1) := zD3 whX9_noiseBy_0 (p := 28) rfl
theorem dX9_noiseBy_29 : decode cX9_noiseBy 29 = .ok (.istore_n 3, 1) := zD62 whX9_noiseBy_0 (p := 29) rfl
theorem dX9_noiseBy_30 : decode cX9_noiseBy 30 = .ok (.iconst 0, 1) := zD3 whX9_noiseBy_0 (p := 30) rfl
theorem dX9_noiseBy_31 : decode cX9_noiseBy 31 = .ok (.aload_n 0, 1) := zD42 whX9_noiseBy_0 (p := 31) rfl
def wlX9_noiseBy_1 : List Nat := [180, 0, 15, 27, 46, 29, 100, 184, 0, 72, 172]
theorem whX9_noiseBy_1 : WLy cX9_noiseBy 32 wlX9_noiseBy_1 := by decide +kernel
theorem dX9_noiseBy_32 : decode cX9_noiseBy 32 = .ok (.getfield 15, 3) := zD180 whX9_noiseBy_1 (p := 0) rfl rfl
theorem dX9_noiseBy_35 : decode cX9_noiseBy 35 = .ok (.iload_n 1, 1) := zD27 whX9_noiseBy_1 (p := 3) rfl
theorem dX9_noiseBy_36 : decode cX9_noiseBy 36 = .ok (.iaload, 1) := zD46 whX9_noiseBy_1 (p := 4) rfl
theorem dX9_noiseBy_37 : decode cX9_noiseBy 37 = .ok (.iload_n 3, 1) := zD29 whX9_noiseBy_1 (p := 5) rfl
theorem dX9_noiseBy_38 : decode cX9_noiseBy 38 = .ok (.isub, 1) := zD100 whX9_noiseBy_1 (p := 6) rfl
theorem dX9_noiseBy_39 : decode cX9_noiseBy 39 = .ok (.invokestatic 72, 3) := zD184 whX9_noiseBy_1 (p := 7) rfl rfl
theorem dX9_noiseBy_42 : decode cX9_noiseBy 42 = .ok (.ireturn, 1) := zD172 whX9_noiseBy_1 (p := 10) rfl
def wlX9_coldBy_0 : List Nat := [42, 180, 0, 25, 28, 46, 5, 160, 0, 17, 42, 180, 0, 19, 27, 46, 8, 161, 0, 7, 4, 167, 0, 4, 3, 62, 3, 42, 180, 0, 19, 27]
theorem whX9_coldBy_0 : WLy cX9_coldBy 0 wlX9_coldBy_0 := by decide +kernel
theorem dX9_coldBy_0 : decode cX9_coldBy 0 = .ok (.aload_n 0, 1) := zD42 whX9_coldBy_0 (p := 0) rfl
theorem dX9_coldBy_1 : decode cX9_coldBy 1 = .ok (.getfield 25, 3) := zD180 whX9_coldBy_0 (p := 1) rfl rfl
theorem dX9_coldBy_4 : decode cX9_coldBy 4 = .ok (.iload_n 2, 1) := zD28 whX9_coldBy_0 (p := 4) rfl
theorem dX9_coldBy_5 : decode cX9_coldBy 5 = .ok (.iaload, 1) := zD46 whX9_coldBy_0 (p := 5) rfl
theorem dX9_coldBy_6 : decode cX9_coldBy 6 = .ok (.iconst 2, 1) := zD5 whX9_coldBy_0 (p := 6) rfl
theorem dX9_coldBy_7 : decode cX9_coldBy 7 = .ok (.if_icmp .ne 17, 3) := zD160p whX9_coldBy_0 (p := 7) (v := 17) rfl rfl rfl
theorem dX9_coldBy_10 : decode cX9_coldBy 10 = .ok (.aload_n 0, 1) := zD42 whX9_coldBy_0 (p := 10) rfl
theorem dX9_coldBy_11 : decode cX9_coldBy 11 = .ok (.getfield 19, 3) := zD180 whX9_coldBy_0 (p := 11) rfl rfl
theorem dX9_coldBy_14 : decode cX9_coldBy 14 = .ok (.iload_n 1, 1) := zD27 whX9_coldBy_0 (p := 14) rfl
theorem dX9_coldBy_15 : decode cX9_coldBy 15 = .ok (.iaload, 1) := zD46 whX9_coldBy_0 (p := 15) rfl
theorem dX9_coldBy_16 : decode cX9_coldBy 16 = .ok (.iconst 5, 1) := zD8 whX9_coldBy_0 (p := 16) rfl
theorem dX9_coldBy_17 : decode cX9_coldBy 17 = .ok (.if_icmp .lt 7, 3) := zD161p whX9_coldBy_0 (p := 17) (v := 7) rfl rfl rfl
theorem dX9_coldBy_20 : decode cX9_coldBy 20 = .ok (.iconst 1, 1) := zD4 whX9_coldBy_0 (p := 20) rfl
theorem dX9_coldBy_21 : decode cX9_coldBy 21 = .ok (.goto 4, 3) := zD167p whX9_coldBy_0 (p := 21) (v := 4) rfl rfl rfl
theorem dX9_coldBy_24 : decode cX9_coldBy 24 = .ok (.iconst 0, 1) := zD3 whX9_coldBy_0 (p := 24) rfl
theorem dX9_coldBy_25 : decode cX9_coldBy 25 = .ok (.istore_n 3, 1) := zD62 whX9_coldBy_0 (p := 25) rfl
theorem dX9_coldBy_26 : decode cX9_coldBy 26 = .ok (.iconst 0, 1) := zD3 whX9_coldBy_0 (p := 26) rfl
theorem dX9_coldBy_27 : decode cX9_coldBy 27 = .ok (.aload_n 0, 1) := zD42 whX9_coldBy_0 (p := 27) rfl
theorem dX9_coldBy_28 : decode cX9_coldBy 28 = .ok (.getfield 19, 3) := zD180 whX9_coldBy_0 (p := 28) rfl rfl
theorem dX9_coldBy_31 : decode cX9_coldBy 31 = .ok (.iload_n 1, 1) := zD27 whX9_coldBy_0 (p := 31) rfl
def wlX9_coldBy_1 : List Nat := [46, 42, 180, 0, 31, 28, 46, 100, 184, 0, 72, 29, 96, 172]
theorem whX9_coldBy_1 : WLy cX9_coldBy 32 wlX9_coldBy_1 := by decide +kernel
theorem dX9_coldBy_32 : decode cX9_coldBy 32 = .ok (.iaload, 1) := zD46 whX9_coldBy_1 (p := 0) rfl
theorem dX9_coldBy_33 : decode cX9_coldBy 33 = .ok (.aload_n 0, 1) := zD42 whX9_coldBy_1 (p := 1) rfl
theorem dX9_coldBy_34 : decode cX9_coldBy 34 = .ok (.getfield 31, 3) := zD180 whX9_coldBy_1 (p := 2) rfl rfl
theorem dX9_coldBy_37 : decode cX9_coldBy 37 = .ok (.iload_n 2, 1) := zD28 whX9_coldBy_1 (p := 5) rfl
theorem dX9_coldBy_38 : decode cX9_coldBy 38 = .ok (.iaload, 1) := zD46 whX9_coldBy_1 (p := 6) rfl
theorem dX9_coldBy_39 : decode cX9_coldBy 39 = .ok (.isub, 1) := zD100 whX9_coldBy_1 (p := 7) rfl
theorem dX9_coldBy_40 : decode cX9_coldBy 40 = .ok (.invokestatic 72, 3) := zD184 whX9_coldBy_1 (p := 8) rfl rfl
theorem dX9_coldBy_43 : decode cX9_coldBy 43 = .ok (.iload_n 3, 1) := zD29 whX9_coldBy_1 (p := 11) rfl
theorem dX9_coldBy_44 : decode cX9_coldBy 44 = .ok (.iadd, 1) := zD96 whX9_coldBy_1 (p := 12) rfl
theorem dX9_coldBy_45 : decode cX9_coldBy 45 = .ok (.ireturn, 1) := zD172 whX9_coldBy_1 (p := 13) rfl
def wlX9_joltBy_0 : List Nat := [27, 16, 252, 159, 0, 28, 27, 28, 159, 0, 23, 42, 180, 0, 25, 27, 46, 7, 160, 0, 15, 42, 180, 0, 25, 28, 46, 7, 160, 0, 5, 3]
theorem whX9_joltBy_0 : WLy cX9_joltBy 0 wlX9_joltBy_0 := by decide +kernel
theorem dX9_joltBy_0 : decode cX9_joltBy 0 = .ok (.iload_n 1, 1) := zD27 whX9_joltBy_0 (p := 0) rfl
theorem dX9_joltBy_1 : decode cX9_joltBy 1 = .ok (.bipush (-4), 2) := zD16n whX9_joltBy_0 (p := 1) (v := 4) rfl rfl rfl
theorem dX9_joltBy_3 : decode cX9_joltBy 3 = .ok (.if_icmp .eq 28, 3) := zD159p whX9_joltBy_0 (p := 3) (v := 28) rfl rfl rfl
theorem dX9_joltBy_6 : decode cX9_joltBy 6 = .ok (.iload_n 1, 1) := zD27 whX9_joltBy_0 (p := 6) rfl
theorem dX9_joltBy_7 : decode cX9_joltBy 7 = .ok (.iload_n 2, 1) := zD28 whX9_joltBy_0 (p := 7) rfl
theorem dX9_joltBy_8 : decode cX9_joltBy 8 = .ok (.if_icmp .eq 23, 3) := zD159p whX9_joltBy_0 (p := 8) (v := 23) rfl rfl rfl
theorem dX9_joltBy_11 : decode cX9_joltBy 11 = .ok (.aload_n 0, 1) := zD42 whX9_joltBy_0 (p := 11) rfl
theorem dX9_joltBy_12 : decode cX9_joltBy 12 = .ok (.getfield 25, 3) := zD180 whX9_joltBy_0 (p := 12) rfl rfl
theorem dX9_joltBy_15 : decode cX9_joltBy 15 = .ok (.iload_n 1, 1) := zD27 whX9_joltBy_0 (p := 15) rfl
theorem dX9_joltBy_16 : decode cX9_joltBy 16 = .ok (.iaload, 1) := zD46 whX9_joltBy_0 (p := 16) rfl
theorem dX9_joltBy_17 : decode cX9_joltBy 17 = .ok (.iconst 4, 1) := zD7 whX9_joltBy_0 (p := 17) rfl
theorem dX9_joltBy_18 : decode cX9_joltBy 18 = .ok (.if_icmp .ne 15, 3) := zD160p whX9_joltBy_0 (p := 18) (v := 15) rfl rfl rfl
theorem dX9_joltBy_21 : decode cX9_joltBy 21 = .ok (.aload_n 0, 1) := zD42 whX9_joltBy_0 (p := 21) rfl
theorem dX9_joltBy_22 : decode cX9_joltBy 22 = .ok (.getfield 25, 3) := zD180 whX9_joltBy_0 (p := 22) rfl rfl
theorem dX9_joltBy_25 : decode cX9_joltBy 25 = .ok (.iload_n 2, 1) := zD28 whX9_joltBy_0 (p := 25) rfl
theorem dX9_joltBy_26 : decode cX9_joltBy 26 = .ok (.iaload, 1) := zD46 whX9_joltBy_0 (p := 26) rfl
theorem dX9_joltBy_27 : decode cX9_joltBy 27 = .ok (.iconst 4, 1) := zD7 whX9_joltBy_0 (p := 27) rfl
theorem dX9_joltBy_28 : decode cX9_joltBy 28 = .ok (.if_icmp .ne 5, 3) := zD160p whX9_joltBy_0 (p := 28) (v := 5) rfl rfl rfl
theorem dX9_joltBy_31 : decode cX9_joltBy 31 = .ok (.iconst 0, 1) := zD3 whX9_joltBy_0 (p := 31) rfl
def wlX9_joltBy_1 : List Nat := [172, 42, 180, 0, 28, 27, 46, 42, 180, 0, 28, 28, 46, 100, 184, 0, 75, 62, 42, 180, 0, 25, 28, 46, 8, 160, 0, 9, 29, 5, 108, 167, 0, 4]
theorem whX9_joltBy_1 : WLy cX9_joltBy 32 wlX9_joltBy_1 := by decide +kernel
theorem dX9_joltBy_32 : decode cX9_joltBy 32 = .ok (.ireturn, 1) := zD172 whX9_joltBy_1 (p := 0) rfl
theorem dX9_joltBy_33 : decode cX9_joltBy 33 = .ok (.aload_n 0, 1) := zD42 whX9_joltBy_1 (p := 1) rfl
theorem dX9_joltBy_34 : decode cX9_joltBy 34 = .ok (.getfield 28, 3) := zD180 whX9_joltBy_1 (p := 2) rfl rfl
theorem dX9_joltBy_37 : decode cX9_joltBy 37 = .ok (.iload_n 1, 1) := zD27 whX9_joltBy_1 (p := 5) rfl
theorem dX9_joltBy_38 : decode cX9_joltBy 38 = .ok (.iaload, 1) := zD46 whX9_joltBy_1 (p := 6) rfl
theorem dX9_joltBy_39 : decode cX9_joltBy 39 = .ok (.aload_n 0, 1) := zD42 whX9_joltBy_1 (p := 7) rfl
theorem dX9_joltBy_40 : decode cX9_joltBy 40 = .ok (.getfield 28, 3) := zD180 whX9_joltBy_1 (p := 8) rfl rfl
theorem dX9_joltBy_43 : decode cX9_joltBy 43 = .ok (.iload_n 2, 1) := zD28 whX9_joltBy_1 (p := 11) rfl
theorem dX9_joltBy_44 : decode cX9_joltBy 44 = .ok (.iaload, 1) := zD46 whX9_joltBy_1 (p := 12) rfl
theorem dX9_joltBy_45 : decode cX9_joltBy 45 = .ok (.isub, 1) := zD100 whX9_joltBy_1 (p := 13) rfl
theorem dX9_joltBy_46 : decode cX9_joltBy 46 = .ok (.invokestatic 75, 3) := zD184 whX9_joltBy_1 (p := 14) rfl rfl
theorem dX9_joltBy_49 : decode cX9_joltBy 49 = .ok (.istore_n 3, 1) := zD62 whX9_joltBy_1 (p := 17) rfl
theorem dX9_joltBy_50 : decode cX9_joltBy 50 = .ok (.aload_n 0, 1) := zD42 whX9_joltBy_1 (p := 18) rfl
theorem dX9_joltBy_51 : decode cX9_joltBy 51 = .ok (.getfield 25, 3) := zD180 whX9_joltBy_1 (p := 19) rfl rfl
theorem dX9_joltBy_54 : decode cX9_joltBy 54 = .ok (.iload_n 2, 1) := zD28 whX9_joltBy_1 (p := 22) rfl
theorem dX9_joltBy_55 : decode cX9_joltBy 55 = .ok (.iaload, 1) := zD46 whX9_joltBy_1 (p := 23) rfl
theorem dX9_joltBy_56 : decode cX9_joltBy 56 = .ok (.iconst 5, 1) := zD8 whX9_joltBy_1 (p := 24) rfl
theorem dX9_joltBy_57 : decode cX9_joltBy 57 = .ok (.if_icmp .ne 9, 3) := zD160p whX9_joltBy_1 (p := 25) (v := 9) rfl rfl rfl
theorem dX9_joltBy_60 : decode cX9_joltBy 60 = .ok (.iload_n 3, 1) := zD29 whX9_joltBy_1 (p := 28) rfl
theorem dX9_joltBy_61 : decode cX9_joltBy 61 = .ok (.iconst 2, 1) := zD5 whX9_joltBy_1 (p := 29) rfl
theorem dX9_joltBy_62 : decode cX9_joltBy 62 = .ok (.idiv, 1) := zD108 whX9_joltBy_1 (p := 30) rfl
theorem dX9_joltBy_63 : decode cX9_joltBy 63 = .ok (.goto 4, 3) := zD167p whX9_joltBy_1 (p := 31) (v := 4) rfl rfl rfl
def wlX9_joltBy_2 : List Nat := [29, 172]
theorem whX9_joltBy_2 : WLy cX9_joltBy 66 wlX9_joltBy_2 := by decide +kernel
theorem dX9_joltBy_66 : decode cX9_joltBy 66 = .ok (.iload_n 3, 1) := zD29 whX9_joltBy_2 (p := 0) rfl
theorem dX9_joltBy_67 : decode cX9_joltBy 67 = .ok (.ireturn, 1) := zD172 whX9_joltBy_2 (p := 1) rfl
def wlX9_harmInOrder_0 : List Nat := [42, 27, 182, 0, 46, 154, 0, 5, 3, 172, 42, 27, 27, 154, 0, 8, 16, 252, 167, 0, 11, 42, 180, 0, 22, 27, 4, 100, 46, 42, 180, 0, 22]
theorem whX9_harmInOrder_0 : WLy cX9_harmInOrder 0 wlX9_harmInOrder_0 := by decide +kernel
theorem dX9_harmInOrder_0 : decode cX9_harmInOrder 0 = .ok (.aload_n 0, 1) := zD42 whX9_harmInOrder_0 (p := 0) rfl
theorem dX9_harmInOrder_1 : decode cX9_harmInOrder 1 = .ok (.iload_n 1, 1) := zD27 whX9_harmInOrder_0 (p := 1) rfl
theorem dX9_harmInOrder_2 : decode cX9_harmInOrder 2 = .ok (.invokevirtual 46, 3) := zD182 whX9_harmInOrder_0 (p := 2) rfl rfl
theorem dX9_harmInOrder_5 : decode cX9_harmInOrder 5 = .ok (.ifCond .ne 5, 3) := zD154p whX9_harmInOrder_0 (p := 5) (v := 5) rfl rfl rfl
theorem dX9_harmInOrder_8 : decode cX9_harmInOrder 8 = .ok (.iconst 0, 1) := zD3 whX9_harmInOrder_0 (p := 8) rfl
theorem dX9_harmInOrder_9 : decode cX9_harmInOrder 9 = .ok (.ireturn, 1) := zD172 whX9_harmInOrder_0 (p := 9) rfl
theorem dX9_harmInOrder_10 : decode cX9_harmInOrder 10 = .ok (.aload_n 0, 1) := zD42 whX9_harmInOrder_0 (p := 10) rfl
theorem dX9_harmInOrder_11 : decode cX9_harmInOrder 11 = .ok (.iload_n 1, 1) := zD27 whX9_harmInOrder_0 (p := 11) rfl
theorem dX9_harmInOrder_12 : decode cX9_harmInOrder 12 = .ok (.iload_n 1, 1) := zD27 whX9_harmInOrder_0 (p := 12) rfl
theorem dX9_harmInOrder_13 : decode cX9_harmInOrder 13 = .ok (.ifCond .ne 8, 3) := zD154p whX9_harmInOrder_0 (p := 13) (v := 8) rfl rfl rfl
theorem dX9_harmInOrder_16 : decode cX9_harmInOrder 16 = .ok (.bipush (-4), 2) := zD16n whX9_harmInOrder_0 (p := 16) (v := 4) rfl rfl rfl
theorem dX9_harmInOrder_18 : decode cX9_harmInOrder 18 = .ok (.goto 11, 3) := zD167p whX9_harmInOrder_0 (p := 18) (v := 11) rfl rfl rfl
theorem dX9_harmInOrder_21 : decode cX9_harmInOrder 21 = .ok (.aload_n 0, 1) := zD42 whX9_harmInOrder_0 (p := 21) rfl
theorem dX9_harmInOrder_22 : decode cX9_harmInOrder 22 = .ok (.getfield 22, 3) := zD180 whX9_harmInOrder_0 (p := 22) rfl rfl
theorem dX9_harmInOrder_25 : decode cX9_harmInOrder 25 = .ok (.iload_n 1, 1) := zD27 whX9_harmInOrder_0 (p := 25) rfl
theorem dX9_harmInOrder_26 : decode cX9_harmInOrder 26 = .ok (.iconst 1, 1) := zD4 whX9_harmInOrder_0 (p := 26) rfl
theorem dX9_harmInOrder_27 : decode cX9_harmInOrder 27 = .ok (.isub, 1) := zD100 whX9_harmInOrder_0 (p := 27) rfl
theorem dX9_harmInOrder_28 : decode cX9_harmInOrder 28 = .ok (.iaload, 1) := zD46 whX9_harmInOrder_0 (p := 28) rfl
theorem dX9_harmInOrder_29 : decode cX9_harmInOrder 29 = .ok (.aload_n 0, 1) := zD42 whX9_harmInOrder_0 (p := 29) rfl
theorem dX9_harmInOrder_30 : decode cX9_harmInOrder 30 = .ok (.getfield 22, 3) := zD180 whX9_harmInOrder_0 (p := 30) rfl rfl
def wlX9_harmInOrder_1 : List Nat := [27, 46, 182, 0, 79, 172]
theorem whX9_harmInOrder_1 : WLy cX9_harmInOrder 33 wlX9_harmInOrder_1 := by decide +kernel
theorem dX9_harmInOrder_33 : decode cX9_harmInOrder 33 = .ok (.iload_n 1, 1) := zD27 whX9_harmInOrder_1 (p := 0) rfl
theorem dX9_harmInOrder_34 : decode cX9_harmInOrder 34 = .ok (.iaload, 1) := zD46 whX9_harmInOrder_1 (p := 1) rfl
theorem dX9_harmInOrder_35 : decode cX9_harmInOrder 35 = .ok (.invokevirtual 79, 3) := zD182 whX9_harmInOrder_1 (p := 2) rfl rfl
theorem dX9_harmInOrder_38 : decode cX9_harmInOrder 38 = .ok (.ireturn, 1) := zD172 whX9_harmInOrder_1 (p := 5) rfl
def wlX9_exchange_0 : List Nat := [42, 27, 182, 0, 46, 153, 0, 37, 42, 28, 182, 0, 46, 153, 0, 29, 42, 180, 0, 22, 27, 46, 62, 42, 180, 0, 22, 27, 42, 180, 0, 22]
theorem whX9_exchange_0 : WLy cX9_exchange 0 wlX9_exchange_0 := by decide +kernel
theorem dX9_exchange_0 : decode cX9_exchange 0 = .ok (.aload_n 0, 1) := zD42 whX9_exchange_0 (p := 0) rfl
theorem dX9_exchange_1 : decode cX9_exchange 1 = .ok (.iload_n 1, 1) := zD27 whX9_exchange_0 (p := 1) rfl
theorem dX9_exchange_2 : decode cX9_exchange 2 = .ok (.invokevirtual 46, 3) := zD182 whX9_exchange_0 (p := 2) rfl rfl
theorem dX9_exchange_5 : decode cX9_exchange 5 = .ok (.ifCond .eq 37, 3) := zD153p whX9_exchange_0 (p := 5) (v := 37) rfl rfl rfl
theorem dX9_exchange_8 : decode cX9_exchange 8 = .ok (.aload_n 0, 1) := zD42 whX9_exchange_0 (p := 8) rfl
theorem dX9_exchange_9 : decode cX9_exchange 9 = .ok (.iload_n 2, 1) := zD28 whX9_exchange_0 (p := 9) rfl
theorem dX9_exchange_10 : decode cX9_exchange 10 = .ok (.invokevirtual 46, 3) := zD182 whX9_exchange_0 (p := 10) rfl rfl
theorem dX9_exchange_13 : decode cX9_exchange 13 = .ok (.ifCond .eq 29, 3) := zD153p whX9_exchange_0 (p := 13) (v := 29) rfl rfl rfl
theorem dX9_exchange_16 : decode cX9_exchange 16 = .ok (.aload_n 0, 1) := zD42 whX9_exchange_0 (p := 16) rfl
theorem dX9_exchange_17 : decode cX9_exchange 17 = .ok (.getfield 22, 3) := zD180 whX9_exchange_0 (p := 17) rfl rfl
theorem dX9_exchange_20 : decode cX9_exchange 20 = .ok (.iload_n 1, 1) := zD27 whX9_exchange_0 (p := 20) rfl
theorem dX9_exchange_21 : decode cX9_exchange 21 = .ok (.iaload, 1) := zD46 whX9_exchange_0 (p := 21) rfl
theorem dX9_exchange_22 : decode cX9_exchange 22 = .ok (.istore_n 3, 1) := zD62 whX9_exchange_0 (p := 22) rfl
theorem dX9_exchange_23 : decode cX9_exchange 23 = .ok (.aload_n 0, 1) := zD42 whX9_exchange_0 (p := 23) rfl
theorem dX9_exchange_24 : decode cX9_exchange 24 = .ok (.getfield 22, 3) := zD180 whX9_exchange_0 (p := 24) rfl rfl
theorem dX9_exchange_27 : decode cX9_exchange 27 = .ok (.iload_n 1, 1) := zD27 whX9_exchange_0 (p := 27) rfl
theorem dX9_exchange_28 : decode cX9_exchange 28 = .ok (.aload_n 0, 1) := zD42 whX9_exchange_0 (p := 28) rfl
theorem dX9_exchange_29 : decode cX9_exchange 29 = .ok (.getfield 22, 3) := zD180 whX9_exchange_0 (p := 29) rfl rfl
def wlX9_exchange_1 : List Nat := [28, 46, 79, 42, 180, 0, 22, 28, 29, 79, 177]
theorem whX9_exchange_1 : WLy cX9_exchange 32 wlX9_exchange_1 := by decide +kernel
theorem dX9_exchange_32 : decode cX9_exchange 32 = .ok (.iload_n 2, 1) := zD28 whX9_exchange_1 (p := 0) rfl
theorem dX9_exchange_33 : decode cX9_exchange 33 = .ok (.iaload, 1) := zD46 whX9_exchange_1 (p := 1) rfl
theorem dX9_exchange_34 : decode cX9_exchange 34 = .ok (.iastore, 1) := zD79 whX9_exchange_1 (p := 2) rfl
theorem dX9_exchange_35 : decode cX9_exchange 35 = .ok (.aload_n 0, 1) := zD42 whX9_exchange_1 (p := 3) rfl
theorem dX9_exchange_36 : decode cX9_exchange 36 = .ok (.getfield 22, 3) := zD180 whX9_exchange_1 (p := 4) rfl rfl
theorem dX9_exchange_39 : decode cX9_exchange 39 = .ok (.iload_n 2, 1) := zD28 whX9_exchange_1 (p := 7) rfl
theorem dX9_exchange_40 : decode cX9_exchange 40 = .ok (.iload_n 3, 1) := zD29 whX9_exchange_1 (p := 8) rfl
theorem dX9_exchange_41 : decode cX9_exchange 41 = .ok (.iastore, 1) := zD79 whX9_exchange_1 (p := 9) rfl
theorem dX9_exchange_42 : decode cX9_exchange 42 = .ok (.return_, 1) := zD177 whX9_exchange_1 (p := 10) rfl
def wlX9_handOvers_0 : List Nat := [3, 60, 4, 61, 28, 42, 180, 0, 34, 162, 0, 29, 42, 180, 0, 22, 28, 46, 42, 180, 0, 22, 28, 4, 100, 46, 159, 0, 6, 132, 1, 1]
theorem whX9_handOvers_0 : WLy cX9_handOvers 0 wlX9_handOvers_0 := by decide +kernel
theorem dX9_handOvers_0 : decode cX9_handOvers 0 = .ok (.iconst 0, 1) := zD3 whX9_handOvers_0 (p := 0) rfl
theorem dX9_handOvers_1 : decode cX9_handOvers 1 = .ok (.istore_n 1, 1) := zD60 whX9_handOvers_0 (p := 1) rfl
theorem dX9_handOvers_2 : decode cX9_handOvers 2 = .ok (.iconst 1, 1) := zD4 whX9_handOvers_0 (p := 2) rfl
theorem dX9_handOvers_3 : decode cX9_handOvers 3 = .ok (.istore_n 2, 1) := zD61 whX9_handOvers_0 (p := 3) rfl
theorem dX9_handOvers_4 : decode cX9_handOvers 4 = .ok (.iload_n 2, 1) := zD28 whX9_handOvers_0 (p := 4) rfl
theorem dX9_handOvers_5 : decode cX9_handOvers 5 = .ok (.aload_n 0, 1) := zD42 whX9_handOvers_0 (p := 5) rfl
theorem dX9_handOvers_6 : decode cX9_handOvers 6 = .ok (.getfield 34, 3) := zD180 whX9_handOvers_0 (p := 6) rfl rfl
theorem dX9_handOvers_9 : decode cX9_handOvers 9 = .ok (.if_icmp .ge 29, 3) := zD162p whX9_handOvers_0 (p := 9) (v := 29) rfl rfl rfl
theorem dX9_handOvers_12 : decode cX9_handOvers 12 = .ok (.aload_n 0, 1) := zD42 whX9_handOvers_0 (p := 12) rfl
theorem dX9_handOvers_13 : decode cX9_handOvers 13 = .ok (.getfield 22, 3) := zD180 whX9_handOvers_0 (p := 13) rfl rfl
theorem dX9_handOvers_16 : decode cX9_handOvers 16 = .ok (.iload_n 2, 1) := zD28 whX9_handOvers_0 (p := 16) rfl
theorem dX9_handOvers_17 : decode cX9_handOvers 17 = .ok (.iaload, 1) := zD46 whX9_handOvers_0 (p := 17) rfl
theorem dX9_handOvers_18 : decode cX9_handOvers 18 = .ok (.aload_n 0, 1) := zD42 whX9_handOvers_0 (p := 18) rfl
theorem dX9_handOvers_19 : decode cX9_handOvers 19 = .ok (.getfield 22, 3) := zD180 whX9_handOvers_0 (p := 19) rfl rfl
theorem dX9_handOvers_22 : decode cX9_handOvers 22 = .ok (.iload_n 2, 1) := zD28 whX9_handOvers_0 (p := 22) rfl
theorem dX9_handOvers_23 : decode cX9_handOvers 23 = .ok (.iconst 1, 1) := zD4 whX9_handOvers_0 (p := 23) rfl
theorem dX9_handOvers_24 : decode cX9_handOvers 24 = .ok (.isub, 1) := zD100 whX9_handOvers_0 (p := 24) rfl
theorem dX9_handOvers_25 : decode cX9_handOvers 25 = .ok (.iaload, 1) := zD46 whX9_handOvers_0 (p := 25) rfl
theorem dX9_handOvers_26 : decode cX9_handOvers 26 = .ok (.if_icmp .eq 6, 3) := zD159p whX9_handOvers_0 (p := 26) (v := 6) rfl rfl rfl
theorem dX9_handOvers_29 : decode cX9_handOvers 29 = .ok (.iinc 1 1, 3) := zD132p whX9_handOvers_0 (p := 29) (v := 1) rfl rfl rfl
def wlX9_handOvers_1 : List Nat := [132, 2, 1, 167, 255, 225, 27, 172]
theorem whX9_handOvers_1 : WLy cX9_handOvers 32 wlX9_handOvers_1 := by decide +kernel
theorem dX9_handOvers_32 : decode cX9_handOvers 32 = .ok (.iinc 2 1, 3) := zD132p whX9_handOvers_1 (p := 0) (v := 1) rfl rfl rfl
theorem dX9_handOvers_35 : decode cX9_handOvers 35 = .ok (.goto (-31), 3) := zD167n whX9_handOvers_1 (p := 3) (v := 31) rfl rfl rfl
theorem dX9_handOvers_38 : decode cX9_handOvers 38 = .ok (.iload_n 1, 1) := zD27 whX9_handOvers_1 (p := 6) rfl
theorem dX9_handOvers_39 : decode cX9_handOvers 39 = .ok (.ireturn, 1) := zD172 whX9_handOvers_1 (p := 7) rfl
def wlJ0_length_8abf5_0 : List Nat := [42, 180, 0, 9, 190, 42, 182, 1, 79, 122, 172]
theorem whJ0_length_8abf5_0 : WLy cJ0_length_8abf5 0 wlJ0_length_8abf5_0 := by decide +kernel
theorem dJ0_length_8abf5_0 : decode cJ0_length_8abf5 0 = .ok (.aload_n 0, 1) := zD42 whJ0_length_8abf5_0 (p := 0) rfl
theorem dJ0_length_8abf5_1 : decode cJ0_length_8abf5 1 = .ok (.getfield 9, 3) := zD180 whJ0_length_8abf5_0 (p := 1) rfl rfl
theorem dJ0_length_8abf5_4 : decode cJ0_length_8abf5 4 = .ok (.arraylength, 1) := zD190 whJ0_length_8abf5_0 (p := 4) rfl
theorem dJ0_length_8abf5_5 : decode cJ0_length_8abf5 5 = .ok (.aload_n 0, 1) := zD42 whJ0_length_8abf5_0 (p := 5) rfl
theorem dJ0_length_8abf5_6 : decode cJ0_length_8abf5 6 = .ok (.invokevirtual 335, 3) := zD182 whJ0_length_8abf5_0 (p := 6) rfl rfl
theorem dJ0_length_8abf5_9 : decode cJ0_length_8abf5 9 = .ok (.ishr, 1) := zD122 whJ0_length_8abf5_0 (p := 9) rfl
theorem dJ0_length_8abf5_10 : decode cJ0_length_8abf5 10 = .ok (.ireturn, 1) := zD172 whJ0_length_8abf5_0 (p := 10) rfl
def wlJ0_charAt_5068e_0 : List Nat := [42, 182, 1, 236, 153, 0, 12, 42, 180, 0, 9, 27, 184, 1, 239, 172, 42, 180, 0, 9, 27, 184, 1, 242, 172]
theorem whJ0_charAt_5068e_0 : WLy cJ0_charAt_5068e 0 wlJ0_charAt_5068e_0 := by decide +kernel
theorem dJ0_charAt_5068e_0 : decode cJ0_charAt_5068e 0 = .ok (.aload_n 0, 1) := zD42 whJ0_charAt_5068e_0 (p := 0) rfl
theorem dJ0_charAt_5068e_1 : decode cJ0_charAt_5068e 1 = .ok (.invokevirtual 492, 3) := zD182 whJ0_charAt_5068e_0 (p := 1) rfl rfl
theorem dJ0_charAt_5068e_4 : decode cJ0_charAt_5068e 4 = .ok (.ifCond .eq 12, 3) := zD153p whJ0_charAt_5068e_0 (p := 4) (v := 12) rfl rfl rfl
theorem dJ0_charAt_5068e_7 : decode cJ0_charAt_5068e 7 = .ok (.aload_n 0, 1) := zD42 whJ0_charAt_5068e_0 (p := 7) rfl
theorem dJ0_charAt_5068e_8 : decode cJ0_charAt_5068e 8 = .ok (.getfield 9, 3) := zD180 whJ0_charAt_5068e_0 (p := 8) rfl rfl
theorem dJ0_charAt_5068e_11 : decode cJ0_charAt_5068e 11 = .ok (.iload_n 1, 1) := zD27 whJ0_charAt_5068e_0 (p := 11) rfl
theorem dJ0_charAt_5068e_12 : decode cJ0_charAt_5068e 12 = .ok (.invokestatic 495, 3) := zD184 whJ0_charAt_5068e_0 (p := 12) rfl rfl
theorem dJ0_charAt_5068e_15 : decode cJ0_charAt_5068e 15 = .ok (.ireturn, 1) := zD172 whJ0_charAt_5068e_0 (p := 15) rfl
def wlJ0_coder_7d493_0 : List Nat := [178, 0, 38, 153, 0, 10, 42, 180, 0, 15, 167, 0, 4, 4, 172]
theorem whJ0_coder_7d493_0 : WLy cJ0_coder_7d493 0 wlJ0_coder_7d493_0 := by decide +kernel
theorem dJ0_coder_7d493_0 : decode cJ0_coder_7d493 0 = .ok (.getstatic 38, 3) := zD178 whJ0_coder_7d493_0 (p := 0) rfl rfl
theorem dJ0_coder_7d493_3 : decode cJ0_coder_7d493 3 = .ok (.ifCond .eq 10, 3) := zD153p whJ0_coder_7d493_0 (p := 3) (v := 10) rfl rfl rfl
theorem dJ0_coder_7d493_6 : decode cJ0_coder_7d493 6 = .ok (.aload_n 0, 1) := zD42 whJ0_coder_7d493_0 (p := 6) rfl
theorem dJ0_coder_7d493_7 : decode cJ0_coder_7d493 7 = .ok (.getfield 15, 3) := zD180 whJ0_coder_7d493_0 (p := 7) rfl rfl
theorem dJ0_coder_7d493_10 : decode cJ0_coder_7d493 10 = .ok (.goto 4, 3) := zD167p whJ0_coder_7d493_0 (p := 10) (v := 4) rfl rfl rfl
theorem dJ0_coder_7d493_14 : decode cJ0_coder_7d493 14 = .ok (.ireturn, 1) := zD172 whJ0_coder_7d493_0 (p := 14) rfl
def wlJ0_isLatin1_aae02_0 : List Nat := [178, 0, 38, 153, 0, 14, 42, 180, 0, 15, 154, 0, 7, 4, 167, 0, 4, 3, 172]
theorem whJ0_isLatin1_aae02_0 : WLy cJ0_isLatin1_aae02 0 wlJ0_isLatin1_aae02_0 := by decide +kernel
theorem dJ0_isLatin1_aae02_0 : decode cJ0_isLatin1_aae02 0 = .ok (.getstatic 38, 3) := zD178 whJ0_isLatin1_aae02_0 (p := 0) rfl rfl
theorem dJ0_isLatin1_aae02_3 : decode cJ0_isLatin1_aae02 3 = .ok (.ifCond .eq 14, 3) := zD153p whJ0_isLatin1_aae02_0 (p := 3) (v := 14) rfl rfl rfl
theorem dJ0_isLatin1_aae02_6 : decode cJ0_isLatin1_aae02 6 = .ok (.aload_n 0, 1) := zD42 whJ0_isLatin1_aae02_0 (p := 6) rfl
theorem dJ0_isLatin1_aae02_7 : decode cJ0_isLatin1_aae02 7 = .ok (.getfield 15, 3) := zD180 whJ0_isLatin1_aae02_0 (p := 7) rfl rfl
theorem dJ0_isLatin1_aae02_10 : decode cJ0_isLatin1_aae02 10 = .ok (.ifCond .ne 7, 3) := zD154p whJ0_isLatin1_aae02_0 (p := 10) (v := 7) rfl rfl rfl
theorem dJ0_isLatin1_aae02_13 : decode cJ0_isLatin1_aae02 13 = .ok (.iconst 1, 1) := zD4 whJ0_isLatin1_aae02_0 (p := 13) rfl
theorem dJ0_isLatin1_aae02_14 : decode cJ0_isLatin1_aae02 14 = .ok (.goto 4, 3) := zD167p whJ0_isLatin1_aae02_0 (p := 14) (v := 4) rfl rfl rfl
theorem dJ0_isLatin1_aae02_18 : decode cJ0_isLatin1_aae02 18 = .ok (.ireturn, 1) := zD172 whJ0_isLatin1_aae02_0 (p := 18) rfl
def wlJ0_checkIndex_df160_0 : List Nat := [26, 27, 178, 4, 29, 184, 4, 35, 87, 177]
theorem whJ0_checkIndex_df160_0 : WLy cJ0_checkIndex_df160 0 wlJ0_checkIndex_df160_0 := by decide +kernel
theorem dJ0_checkIndex_df160_0 : decode cJ0_checkIndex_df160 0 = .ok (.iload_n 0, 1) := zD26 whJ0_checkIndex_df160_0 (p := 0) rfl
theorem dJ0_checkIndex_df160_1 : decode cJ0_checkIndex_df160 1 = .ok (.iload_n 1, 1) := zD27 whJ0_checkIndex_df160_0 (p := 1) rfl
theorem dJ0_checkIndex_df160_2 : decode cJ0_checkIndex_df160 2 = .ok (.getstatic 1053, 3) := zD178 whJ0_checkIndex_df160_0 (p := 2) rfl rfl
theorem dJ0_checkIndex_df160_5 : decode cJ0_checkIndex_df160 5 = .ok (.invokestatic 1059, 3) := zD184 whJ0_checkIndex_df160_0 (p := 5) rfl rfl
theorem dJ0_checkIndex_df160_8 : decode cJ0_checkIndex_df160 8 = .ok (.pop, 1) := zD87 whJ0_checkIndex_df160_0 (p := 8) rfl
theorem dJ0_checkIndex_df160_9 : decode cJ0_checkIndex_df160 9 = .ok (.return_, 1) := zD177 whJ0_checkIndex_df160_0 (p := 9) rfl
def wlJ1_charAt_3b067_0 : List Nat := [27, 42, 190, 184, 0, 9, 42, 27, 51, 17, 0, 255, 126, 146, 172]
theorem whJ1_charAt_3b067_0 : WLy cJ1_charAt_3b067 0 wlJ1_charAt_3b067_0 := by decide +kernel
theorem dJ1_charAt_3b067_0 : decode cJ1_charAt_3b067 0 = .ok (.iload_n 1, 1) := zD27 whJ1_charAt_3b067_0 (p := 0) rfl
theorem dJ1_charAt_3b067_1 : decode cJ1_charAt_3b067 1 = .ok (.aload_n 0, 1) := zD42 whJ1_charAt_3b067_0 (p := 1) rfl
theorem dJ1_charAt_3b067_2 : decode cJ1_charAt_3b067 2 = .ok (.arraylength, 1) := zD190 whJ1_charAt_3b067_0 (p := 2) rfl
theorem dJ1_charAt_3b067_3 : decode cJ1_charAt_3b067 3 = .ok (.invokestatic 9, 3) := zD184 whJ1_charAt_3b067_0 (p := 3) rfl rfl
theorem dJ1_charAt_3b067_6 : decode cJ1_charAt_3b067 6 = .ok (.aload_n 0, 1) := zD42 whJ1_charAt_3b067_0 (p := 6) rfl
theorem dJ1_charAt_3b067_7 : decode cJ1_charAt_3b067 7 = .ok (.iload_n 1, 1) := zD27 whJ1_charAt_3b067_0 (p := 7) rfl
theorem dJ1_charAt_3b067_8 : decode cJ1_charAt_3b067 8 = .ok (.baload, 1) := zD51 whJ1_charAt_3b067_0 (p := 8) rfl
theorem dJ1_charAt_3b067_9 : decode cJ1_charAt_3b067 9 = .ok (.sipush 255, 3) := zD17p whJ1_charAt_3b067_0 (p := 9) (v := 255) rfl rfl rfl
theorem dJ1_charAt_3b067_12 : decode cJ1_charAt_3b067 12 = .ok (.iand, 1) := zD126 whJ1_charAt_3b067_0 (p := 12) rfl
theorem dJ1_charAt_3b067_13 : decode cJ1_charAt_3b067 13 = .ok (.i2c, 1) := zD146 whJ1_charAt_3b067_0 (p := 13) rfl
theorem dJ1_charAt_3b067_14 : decode cJ1_charAt_3b067 14 = .ok (.ireturn, 1) := zD172 whJ1_charAt_3b067_0 (p := 14) rfl
def wlJ3_checkIndex_8e157_0 : List Nat := [26, 155, 0, 8, 26, 27, 161, 0, 10, 44, 26, 27, 184, 0, 95, 191, 26, 172]
theorem whJ3_checkIndex_8e157_0 : WLy cJ3_checkIndex_8e157 0 wlJ3_checkIndex_8e157_0 := by decide +kernel
theorem dJ3_checkIndex_8e157_0 : decode cJ3_checkIndex_8e157 0 = .ok (.iload_n 0, 1) := zD26 whJ3_checkIndex_8e157_0 (p := 0) rfl
theorem dJ3_checkIndex_8e157_1 : decode cJ3_checkIndex_8e157 1 = .ok (.ifCond .lt 8, 3) := zD155p whJ3_checkIndex_8e157_0 (p := 1) (v := 8) rfl rfl rfl
theorem dJ3_checkIndex_8e157_4 : decode cJ3_checkIndex_8e157 4 = .ok (.iload_n 0, 1) := zD26 whJ3_checkIndex_8e157_0 (p := 4) rfl
theorem dJ3_checkIndex_8e157_5 : decode cJ3_checkIndex_8e157 5 = .ok (.iload_n 1, 1) := zD27 whJ3_checkIndex_8e157_0 (p := 5) rfl
theorem dJ3_checkIndex_8e157_6 : decode cJ3_checkIndex_8e157 6 = .ok (.if_icmp .lt 10, 3) := zD161p whJ3_checkIndex_8e157_0 (p := 6) (v := 10) rfl rfl rfl
theorem dJ3_checkIndex_8e157_16 : decode cJ3_checkIndex_8e157 16 = .ok (.iload_n 0, 1) := zD26 whJ3_checkIndex_8e157_0 (p := 16) rfl
theorem dJ3_checkIndex_8e157_17 : decode cJ3_checkIndex_8e157 17 = .ok (.ireturn, 1) := zD172 whJ3_checkIndex_8e157_0 (p := 17) rfl
def wlJ6_bitCount_0f7a4_0 : List Nat := [26, 26, 4, 124, 19, 1, 9, 126, 100, 59, 26, 19, 1, 10, 126, 26, 5, 124, 19, 1, 10, 126, 96, 59, 26, 26, 7, 124, 96, 19, 1, 11]
theorem whJ6_bitCount_0f7a4_0 : WLy cJ6_bitCount_0f7a4 0 wlJ6_bitCount_0f7a4_0 := by decide +kernel
theorem dJ6_bitCount_0f7a4_0 : decode cJ6_bitCount_0f7a4 0 = .ok (.iload_n 0, 1) := zD26 whJ6_bitCount_0f7a4_0 (p := 0) rfl
theorem dJ6_bitCount_0f7a4_1 : decode cJ6_bitCount_0f7a4 1 = .ok (.iload_n 0, 1) := zD26 whJ6_bitCount_0f7a4_0 (p := 1) rfl
theorem dJ6_bitCount_0f7a4_2 : decode cJ6_bitCount_0f7a4 2 = .ok (.iconst 1, 1) := zD4 whJ6_bitCount_0f7a4_0 (p := 2) rfl
theorem dJ6_bitCount_0f7a4_3 : decode cJ6_bitCount_0f7a4 3 = .ok (.iushr, 1) := zD124 whJ6_bitCount_0f7a4_0 (p := 3) rfl
theorem dJ6_bitCount_0f7a4_4 : decode cJ6_bitCount_0f7a4 4 = .ok (.ldc_w 265, 3) := zD19 whJ6_bitCount_0f7a4_0 (p := 4) rfl rfl
theorem dJ6_bitCount_0f7a4_7 : decode cJ6_bitCount_0f7a4 7 = .ok (.iand, 1) := zD126 whJ6_bitCount_0f7a4_0 (p := 7) rfl
theorem dJ6_bitCount_0f7a4_8 : decode cJ6_bitCount_0f7a4 8 = .ok (.isub, 1) := zD100 whJ6_bitCount_0f7a4_0 (p := 8) rfl
theorem dJ6_bitCount_0f7a4_9 : decode cJ6_bitCount_0f7a4 9 = .ok (.istore_n 0, 1) := zD59 whJ6_bitCount_0f7a4_0 (p := 9) rfl
theorem dJ6_bitCount_0f7a4_10 : decode cJ6_bitCount_0f7a4 10 = .ok (.iload_n 0, 1) := zD26 whJ6_bitCount_0f7a4_0 (p := 10) rfl
theorem dJ6_bitCount_0f7a4_11 : decode cJ6_bitCount_0f7a4 11 = .ok (.ldc_w 266, 3) := zD19 whJ6_bitCount_0f7a4_0 (p := 11) rfl rfl
theorem dJ6_bitCount_0f7a4_14 : decode cJ6_bitCount_0f7a4 14 = .ok (.iand, 1) := zD126 whJ6_bitCount_0f7a4_0 (p := 14) rfl
theorem dJ6_bitCount_0f7a4_15 : decode cJ6_bitCount_0f7a4 15 = .ok (.iload_n 0, 1) := zD26 whJ6_bitCount_0f7a4_0 (p := 15) rfl
theorem dJ6_bitCount_0f7a4_16 : decode cJ6_bitCount_0f7a4 16 = .ok (.iconst 2, 1) := zD5 whJ6_bitCount_0f7a4_0 (p := 16) rfl
theorem dJ6_bitCount_0f7a4_17 : decode cJ6_bitCount_0f7a4 17 = .ok (.iushr, 1) := zD124 whJ6_bitCount_0f7a4_0 (p := 17) rfl
theorem dJ6_bitCount_0f7a4_18 : decode cJ6_bitCount_0f7a4 18 = .ok (.ldc_w 266, 3) := zD19 whJ6_bitCount_0f7a4_0 (p := 18) rfl rfl
theorem dJ6_bitCount_0f7a4_21 : decode cJ6_bitCount_0f7a4 21 = .ok (.iand, 1) := zD126 whJ6_bitCount_0f7a4_0 (p := 21) rfl
theorem dJ6_bitCount_0f7a4_22 : decode cJ6_bitCount_0f7a4 22 = .ok (.iadd, 1) := zD96 whJ6_bitCount_0f7a4_0 (p := 22) rfl
theorem dJ6_bitCount_0f7a4_23 : decode cJ6_bitCount_0f7a4 23 = .ok (.istore_n 0, 1) := zD59 whJ6_bitCount_0f7a4_0 (p := 23) rfl
theorem dJ6_bitCount_0f7a4_24 : decode cJ6_bitCount_0f7a4 24 = .ok (.iload_n 0, 1) := zD26 whJ6_bitCount_0f7a4_0 (p := 24) rfl
theorem dJ6_bitCount_0f7a4_25 : decode cJ6_bitCount_0f7a4 25 = .ok (.iload_n 0, 1) := zD26 whJ6_bitCount_0f7a4_0 (p := 25) rfl
theorem dJ6_bitCount_0f7a4_26 : decode cJ6_bitCount_0f7a4 26 = .ok (.iconst 4, 1) := zD7 whJ6_bitCount_0f7a4_0 (p := 26) rfl
theorem dJ6_bitCount_0f7a4_27 : decode cJ6_bitCount_0f7a4 27 = .ok (.iushr, 1) := zD124 whJ6_bitCount_0f7a4_0 (p := 27) rfl
theorem dJ6_bitCount_0f7a4_28 : decode cJ6_bitCount_0f7a4 28 = .ok (.iadd, 1) := zD96 whJ6_bitCount_0f7a4_0 (p := 28) rfl
theorem dJ6_bitCount_0f7a4_29 : decode cJ6_bitCount_0f7a4 29 = .ok (.ldc_w 267, 3) := zD19 whJ6_bitCount_0f7a4_0 (p := 29) rfl rfl
def wlJ6_bitCount_0f7a4_1 : List Nat := [126, 59, 26, 26, 16, 8, 124, 96, 59, 26, 26, 16, 16, 124, 96, 59, 26, 16, 63, 126, 172]
theorem whJ6_bitCount_0f7a4_1 : WLy cJ6_bitCount_0f7a4 32 wlJ6_bitCount_0f7a4_1 := by decide +kernel
theorem dJ6_bitCount_0f7a4_32 : decode cJ6_bitCount_0f7a4 32 = .ok (.iand, 1) := zD126 whJ6_bitCount_0f7a4_1 (p := 0) rfl
theorem dJ6_bitCount_0f7a4_33 : decode cJ6_bitCount_0f7a4 33 = .ok (.istore_n 0, 1) := zD59 whJ6_bitCount_0f7a4_1 (p := 1) rfl
theorem dJ6_bitCount_0f7a4_34 : decode cJ6_bitCount_0f7a4 34 = .ok (.iload_n 0, 1) := zD26 whJ6_bitCount_0f7a4_1 (p := 2) rfl
theorem dJ6_bitCount_0f7a4_35 : decode cJ6_bitCount_0f7a4 35 = .ok (.iload_n 0, 1) := zD26 whJ6_bitCount_0f7a4_1 (p := 3) rfl
theorem dJ6_bitCount_0f7a4_36 : decode cJ6_bitCount_0f7a4 36 = .ok (.bipush 8, 2) := zD16p whJ6_bitCount_0f7a4_1 (p := 4) (v := 8) rfl rfl rfl
theorem dJ6_bitCount_0f7a4_38 : decode cJ6_bitCount_0f7a4 38 = .ok (.iushr, 1) := zD124 whJ6_bitCount_0f7a4_1 (p := 6) rfl
theorem dJ6_bitCount_0f7a4_39 : decode cJ6_bitCount_0f7a4 39 = .ok (.iadd, 1) := zD96 whJ6_bitCount_0f7a4_1 (p := 7) rfl
theorem dJ6_bitCount_0f7a4_40 : decode cJ6_bitCount_0f7a4 40 = .ok (.istore_n 0, 1) := zD59 whJ6_bitCount_0f7a4_1 (p := 8) rfl
theorem dJ6_bitCount_0f7a4_41 : decode cJ6_bitCount_0f7a4 41 = .ok (.iload_n 0, 1) := zD26 whJ6_bitCount_0f7a4_1 (p := 9) rfl
theorem dJ6_bitCount_0f7a4_42 : decode cJ6_bitCount_0f7a4 42 = .ok (.iload_n 0, 1) := zD26 whJ6_bitCount_0f7a4_1 (p := 10) rfl
theorem dJ6_bitCount_0f7a4_43 : decode cJ6_bitCount_0f7a4 43 = .ok (.bipush 16, 2) := zD16p whJ6_bitCount_0f7a4_1 (p := 11) (v := 16) rfl rfl rfl
theorem dJ6_bitCount_0f7a4_45 : decode cJ6_bitCount_0f7a4 45 = .ok (.iushr, 1) := zD124 whJ6_bitCount_0f7a4_1 (p := 13) rfl
theorem dJ6_bitCount_0f7a4_46 : decode cJ6_bitCount_0f7a4 46 = .ok (.iadd, 1) := zD96 whJ6_bitCount_0f7a4_1 (p := 14) rfl
theorem dJ6_bitCount_0f7a4_47 : decode cJ6_bitCount_0f7a4 47 = .ok (.istore_n 0, 1) := zD59 whJ6_bitCount_0f7a4_1 (p := 15) rfl
theorem dJ6_bitCount_0f7a4_48 : decode cJ6_bitCount_0f7a4 48 = .ok (.iload_n 0, 1) := zD26 whJ6_bitCount_0f7a4_1 (p := 16) rfl
theorem dJ6_bitCount_0f7a4_49 : decode cJ6_bitCount_0f7a4 49 = .ok (.bipush 63, 2) := zD16p whJ6_bitCount_0f7a4_1 (p := 17) (v := 63) rfl rfl rfl
theorem dJ6_bitCount_0f7a4_51 : decode cJ6_bitCount_0f7a4 51 = .ok (.iand, 1) := zD126 whJ6_bitCount_0f7a4_1 (p := 19) rfl
theorem dJ6_bitCount_0f7a4_52 : decode cJ6_bitCount_0f7a4 52 = .ok (.ireturn, 1) := zD172 whJ6_bitCount_0f7a4_1 (p := 20) rfl
def wlJ9_abs_0f7a4_0 : List Nat := [26, 156, 0, 8, 26, 116, 167, 0, 4, 26, 172]
theorem whJ9_abs_0f7a4_0 : WLy cJ9_abs_0f7a4 0 wlJ9_abs_0f7a4_0 := by decide +kernel
theorem dJ9_abs_0f7a4_0 : decode cJ9_abs_0f7a4 0 = .ok (.iload_n 0, 1) := zD26 whJ9_abs_0f7a4_0 (p := 0) rfl
theorem dJ9_abs_0f7a4_1 : decode cJ9_abs_0f7a4 1 = .ok (.ifCond .ge 8, 3) := zD156p whJ9_abs_0f7a4_0 (p := 1) (v := 8) rfl rfl rfl
theorem dJ9_abs_0f7a4_4 : decode cJ9_abs_0f7a4 4 = .ok (.iload_n 0, 1) := zD26 whJ9_abs_0f7a4_0 (p := 4) rfl
theorem dJ9_abs_0f7a4_5 : decode cJ9_abs_0f7a4 5 = .ok (.ineg, 1) := zD116 whJ9_abs_0f7a4_0 (p := 5) rfl
theorem dJ9_abs_0f7a4_6 : decode cJ9_abs_0f7a4 6 = .ok (.goto 4, 3) := zD167p whJ9_abs_0f7a4_0 (p := 6) (v := 4) rfl rfl rfl
theorem dJ9_abs_0f7a4_9 : decode cJ9_abs_0f7a4 9 = .ok (.iload_n 0, 1) := zD26 whJ9_abs_0f7a4_0 (p := 9) rfl
theorem dJ9_abs_0f7a4_10 : decode cJ9_abs_0f7a4 10 = .ok (.ireturn, 1) := zD172 whJ9_abs_0f7a4_0 (p := 10) rfl
def wlJ9_max_7cf53_0 : List Nat := [26, 27, 161, 0, 7, 26, 167, 0, 4, 27, 172]
theorem whJ9_max_7cf53_0 : WLy cJ9_max_7cf53 0 wlJ9_max_7cf53_0 := by decide +kernel
theorem dJ9_max_7cf53_0 : decode cJ9_max_7cf53 0 = .ok (.iload_n 0, 1) := zD26 whJ9_max_7cf53_0 (p := 0) rfl
theorem dJ9_max_7cf53_1 : decode cJ9_max_7cf53 1 = .ok (.iload_n 1, 1) := zD27 whJ9_max_7cf53_0 (p := 1) rfl
theorem dJ9_max_7cf53_2 : decode cJ9_max_7cf53 2 = .ok (.if_icmp .lt 7, 3) := zD161p whJ9_max_7cf53_0 (p := 2) (v := 7) rfl rfl rfl
theorem dJ9_max_7cf53_5 : decode cJ9_max_7cf53 5 = .ok (.iload_n 0, 1) := zD26 whJ9_max_7cf53_0 (p := 5) rfl
theorem dJ9_max_7cf53_6 : decode cJ9_max_7cf53 6 = .ok (.goto 4, 3) := zD167p whJ9_max_7cf53_0 (p := 6) (v := 4) rfl rfl rfl
theorem dJ9_max_7cf53_9 : decode cJ9_max_7cf53 9 = .ok (.iload_n 1, 1) := zD27 whJ9_max_7cf53_0 (p := 9) rfl
theorem dJ9_max_7cf53_10 : decode cJ9_max_7cf53 10 = .ok (.ireturn, 1) := zD172 whJ9_max_7cf53_0 (p := 10) rfl
def wlJ9_min_7cf53_0 : List Nat := [26, 27, 163, 0, 7, 26, 167, 0, 4, 27, 172]
theorem whJ9_min_7cf53_0 : WLy cJ9_min_7cf53 0 wlJ9_min_7cf53_0 := by decide +kernel
theorem dJ9_min_7cf53_0 : decode cJ9_min_7cf53 0 = .ok (.iload_n 0, 1) := zD26 whJ9_min_7cf53_0 (p := 0) rfl
theorem dJ9_min_7cf53_1 : decode cJ9_min_7cf53 1 = .ok (.iload_n 1, 1) := zD27 whJ9_min_7cf53_0 (p := 1) rfl
theorem dJ9_min_7cf53_2 : decode cJ9_min_7cf53 2 = .ok (.if_icmp .gt 7, 3) := zD163p whJ9_min_7cf53_0 (p := 2) (v := 7) rfl rfl rfl
theorem dJ9_min_7cf53_5 : decode cJ9_min_7cf53 5 = .ok (.iload_n 0, 1) := zD26 whJ9_min_7cf53_0 (p := 5) rfl
theorem dJ9_min_7cf53_6 : decode cJ9_min_7cf53 6 = .ok (.goto 4, 3) := zD167p whJ9_min_7cf53_0 (p := 6) (v := 4) rfl rfl rfl
theorem dJ9_min_7cf53_9 : decode cJ9_min_7cf53 9 = .ok (.iload_n 1, 1) := zD27 whJ9_min_7cf53_0 (p := 9) rfl
theorem dJ9_min_7cf53_10 : decode cJ9_min_7cf53 10 = .ok (.ireturn, 1) := zD172 whJ9_min_7cf53_0 (p := 10) rfl
theorem bX0_init_0 : (decode cX0_init 14 = .ok (.multianewarray 15 2, 4)) ∧ (decode cX0_init 26 = .ok (.multianewarray 20 2, 4)) := by decide +kernel
theorem dX0_init_14 : decode cX0_init 14 = .ok (.multianewarray 15 2, 4) := bX0_init_0.1
theorem dX0_init_26 : decode cX0_init 26 = .ok (.multianewarray 20 2, 4) := bX0_init_0.2
theorem bX2_init_0 : (decode cX2_init 7 = .ok (.newarray .int, 2)) ∧ (decode cX2_init 15 = .ok (.newarray .int, 2)) ∧ (decode cX2_init 23 = .ok (.newarray .int, 2)) ∧ (decode cX2_init 31 = .ok (.newarray .int, 2)) := by decide +kernel
theorem dX2_init_7 : decode cX2_init 7 = .ok (.newarray .int, 2) := bX2_init_0.1
theorem dX2_init_15 : decode cX2_init 15 = .ok (.newarray .int, 2) := bX2_init_0.2.1
theorem dX2_init_23 : decode cX2_init 23 = .ok (.newarray .int, 2) := bX2_init_0.2.2.1
theorem dX2_init_31 : decode cX2_init 31 = .ok (.newarray .int, 2) := bX2_init_0.2.2.2
theorem bX3_init_0 : (decode cX3_init 7 = .ok (.newarray .int, 2)) ∧ (decode cX3_init 15 = .ok (.newarray .int, 2)) := by decide +kernel
theorem dX3_init_7 : decode cX3_init 7 = .ok (.newarray .int, 2) := bX3_init_0.1
theorem dX3_init_15 : decode cX3_init 15 = .ok (.newarray .int, 2) := bX3_init_0.2
theorem bX4_init_0 : (decode cX4_init 12 = .ok (.newarray .long, 2)) ∧ (decode cX4_init 20 = .ok (.newarray .long, 2)) := by decide +kernel
theorem dX4_init_12 : decode cX4_init 12 = .ok (.newarray .long, 2) := bX4_init_0.1
theorem dX4_init_20 : decode cX4_init 20 = .ok (.newarray .long, 2) := bX4_init_0.2
theorem bX6_init_0 : (decode cX6_init 6 = .ok (.newarray .int, 2)) ∧ (decode cX6_init 29 = .ok (.newarray .int, 2)) ∧ (decode cX6_init 38 = .ok (.multianewarray 18 2, 4)) ∧ (decode cX6_init 48 = .ok (.newarray .int, 2)) ∧ (decode cX6_init 56 = .ok (.newarray .int, 2)) := by decide +kernel
theorem dX6_init_6 : decode cX6_init 6 = .ok (.newarray .int, 2) := bX6_init_0.1
theorem dX6_init_29 : decode cX6_init 29 = .ok (.newarray .int, 2) := bX6_init_0.2.1
theorem dX6_init_38 : decode cX6_init 38 = .ok (.multianewarray 18 2, 4) := bX6_init_0.2.2.1
theorem dX6_init_48 : decode cX6_init 48 = .ok (.newarray .int, 2) := bX6_init_0.2.2.2.1
theorem dX6_init_56 : decode cX6_init 56 = .ok (.newarray .int, 2) := bX6_init_0.2.2.2.2
theorem dX7_init_8 : decode cX7_init 8 = .ok (.newarray .int, 2) := by decide +kernel
theorem bX8_init_0 : (decode cX8_init 9 = .ok (.multianewarray 9 2, 4)) ∧ (decode cX8_init 21 = .ok (.multianewarray 9 2, 4)) := by decide +kernel
theorem dX8_init_9 : decode cX8_init 9 = .ok (.multianewarray 9 2, 4) := bX8_init_0.1
theorem dX8_init_21 : decode cX8_init 21 = .ok (.multianewarray 9 2, 4) := bX8_init_0.2
theorem bX9_init_0 : (decode cX9_init 12 = .ok (.newarray .int, 2)) ∧ (decode cX9_init 20 = .ok (.newarray .int, 2)) ∧ (decode cX9_init 28 = .ok (.newarray .int, 2)) ∧ (decode cX9_init 36 = .ok (.newarray .int, 2)) ∧ (decode cX9_init 44 = .ok (.newarray .int, 2)) ∧ (decode cX9_init 52 = .ok (.newarray .int, 2)) := by decide +kernel
theorem dX9_init_12 : decode cX9_init 12 = .ok (.newarray .int, 2) := bX9_init_0.1
theorem dX9_init_20 : decode cX9_init 20 = .ok (.newarray .int, 2) := bX9_init_0.2.1
theorem dX9_init_28 : decode cX9_init 28 = .ok (.newarray .int, 2) := bX9_init_0.2.2.1
theorem dX9_init_36 : decode cX9_init 36 = .ok (.newarray .int, 2) := bX9_init_0.2.2.2.1
theorem dX9_init_44 : decode cX9_init 44 = .ok (.newarray .int, 2) := bX9_init_0.2.2.2.2.1
theorem dX9_init_52 : decode cX9_init 52 = .ok (.newarray .int, 2) := bX9_init_0.2.2.2.2.2

def wlX10_init_0 : List Nat := [42, 183, 0, 1, 42, 187, 0, 7, 89, 183, 0, 9, 181, 0, 10, 42, 187, 0, 16, 89, 183, 0, 18, 181, 0, 19, 42, 187, 0, 16, 89, 183, 0, 18]
theorem whX10_init_0 : WLy cX10_init 0 wlX10_init_0 := by decide +kernel
theorem dX10_init_0 : decode cX10_init 0 = .ok (.aload_n 0, 1) := zD42 whX10_init_0 (p := 0) rfl
theorem dX10_init_1 : decode cX10_init 1 = .ok (.invokespecial 1, 3) := zD183 whX10_init_0 (p := 1) rfl rfl
theorem dX10_init_4 : decode cX10_init 4 = .ok (.aload_n 0, 1) := zD42 whX10_init_0 (p := 4) rfl
theorem dX10_init_5 : decode cX10_init 5 = .ok (.new 7, 3) := zD187 whX10_init_0 (p := 5) rfl rfl
theorem dX10_init_8 : decode cX10_init 8 = .ok (.dup, 1) := zD89 whX10_init_0 (p := 8) rfl
theorem dX10_init_9 : decode cX10_init 9 = .ok (.invokespecial 9, 3) := zD183 whX10_init_0 (p := 9) rfl rfl
theorem dX10_init_12 : decode cX10_init 12 = .ok (.putfield 10, 3) := zD181 whX10_init_0 (p := 12) rfl rfl
theorem dX10_init_15 : decode cX10_init 15 = .ok (.aload_n 0, 1) := zD42 whX10_init_0 (p := 15) rfl
theorem dX10_init_16 : decode cX10_init 16 = .ok (.new 16, 3) := zD187 whX10_init_0 (p := 16) rfl rfl
theorem dX10_init_19 : decode cX10_init 19 = .ok (.dup, 1) := zD89 whX10_init_0 (p := 19) rfl
theorem dX10_init_20 : decode cX10_init 20 = .ok (.invokespecial 18, 3) := zD183 whX10_init_0 (p := 20) rfl rfl
theorem dX10_init_23 : decode cX10_init 23 = .ok (.putfield 19, 3) := zD181 whX10_init_0 (p := 23) rfl rfl
theorem dX10_init_26 : decode cX10_init 26 = .ok (.aload_n 0, 1) := zD42 whX10_init_0 (p := 26) rfl
theorem dX10_init_27 : decode cX10_init 27 = .ok (.new 16, 3) := zD187 whX10_init_0 (p := 27) rfl rfl
theorem dX10_init_30 : decode cX10_init 30 = .ok (.dup, 1) := zD89 whX10_init_0 (p := 30) rfl
theorem dX10_init_31 : decode cX10_init 31 = .ok (.invokespecial 18, 3) := zD183 whX10_init_0 (p := 31) rfl rfl
def wlX10_init_1 : List Nat := [181, 0, 23, 42, 5, 189, 0, 16, 181, 0, 26, 3, 60, 27, 5, 162, 0, 22, 42, 180, 0, 26, 27, 187, 0, 16, 89, 183, 0, 18, 83, 132, 1, 1]
theorem whX10_init_1 : WLy cX10_init 34 wlX10_init_1 := by decide +kernel
theorem dX10_init_34 : decode cX10_init 34 = .ok (.putfield 23, 3) := zD181 whX10_init_1 (p := 0) rfl rfl
theorem dX10_init_37 : decode cX10_init 37 = .ok (.aload_n 0, 1) := zD42 whX10_init_1 (p := 3) rfl
theorem dX10_init_38 : decode cX10_init 38 = .ok (.iconst 2, 1) := zD5 whX10_init_1 (p := 4) rfl
theorem dX10_init_39 : decode cX10_init 39 = .ok (.anewarray 16, 3) := zD189 whX10_init_1 (p := 5) rfl rfl
theorem dX10_init_42 : decode cX10_init 42 = .ok (.putfield 26, 3) := zD181 whX10_init_1 (p := 8) rfl rfl
theorem dX10_init_45 : decode cX10_init 45 = .ok (.iconst 0, 1) := zD3 whX10_init_1 (p := 11) rfl
theorem dX10_init_46 : decode cX10_init 46 = .ok (.istore_n 1, 1) := zD60 whX10_init_1 (p := 12) rfl
theorem dX10_init_47 : decode cX10_init 47 = .ok (.iload_n 1, 1) := zD27 whX10_init_1 (p := 13) rfl
theorem dX10_init_48 : decode cX10_init 48 = .ok (.iconst 2, 1) := zD5 whX10_init_1 (p := 14) rfl
theorem dX10_init_49 : decode cX10_init 49 = .ok (.if_icmp .ge 22, 3) := zD162p whX10_init_1 (p := 15) (v := 22) rfl rfl rfl
theorem dX10_init_52 : decode cX10_init 52 = .ok (.aload_n 0, 1) := zD42 whX10_init_1 (p := 18) rfl
theorem dX10_init_53 : decode cX10_init 53 = .ok (.getfield 26, 3) := zD180 whX10_init_1 (p := 19) rfl rfl
theorem dX10_init_56 : decode cX10_init 56 = .ok (.iload_n 1, 1) := zD27 whX10_init_1 (p := 22) rfl
theorem dX10_init_57 : decode cX10_init 57 = .ok (.new 16, 3) := zD187 whX10_init_1 (p := 23) rfl rfl
theorem dX10_init_60 : decode cX10_init 60 = .ok (.dup, 1) := zD89 whX10_init_1 (p := 26) rfl
theorem dX10_init_61 : decode cX10_init 61 = .ok (.invokespecial 18, 3) := zD183 whX10_init_1 (p := 27) rfl rfl
theorem dX10_init_64 : decode cX10_init 64 = .ok (.aastore, 1) := zD83 whX10_init_1 (p := 30) rfl
theorem dX10_init_65 : decode cX10_init 65 = .ok (.iinc 1 1, 3) := zD132p whX10_init_1 (p := 31) (v := 1) rfl rfl rfl
def wlX10_init_2 : List Nat := [167, 255, 235, 42, 5, 188, 4, 181, 0, 30, 42, 187, 0, 34, 89, 183, 0, 36, 181, 0, 37, 42, 187, 0, 41, 89, 183, 0, 43, 181, 0, 44]
theorem whX10_init_2 : WLy cX10_init 68 wlX10_init_2 := by decide +kernel
theorem dX10_init_68 : decode cX10_init 68 = .ok (.goto (-21), 3) := zD167n whX10_init_2 (p := 0) (v := 21) rfl rfl rfl
theorem dX10_init_71 : decode cX10_init 71 = .ok (.aload_n 0, 1) := zD42 whX10_init_2 (p := 3) rfl
theorem dX10_init_72 : decode cX10_init 72 = .ok (.iconst 2, 1) := zD5 whX10_init_2 (p := 4) rfl
theorem dX10_init_75 : decode cX10_init 75 = .ok (.putfield 30, 3) := zD181 whX10_init_2 (p := 7) rfl rfl
theorem dX10_init_78 : decode cX10_init 78 = .ok (.aload_n 0, 1) := zD42 whX10_init_2 (p := 10) rfl
theorem dX10_init_79 : decode cX10_init 79 = .ok (.new 34, 3) := zD187 whX10_init_2 (p := 11) rfl rfl
theorem dX10_init_82 : decode cX10_init 82 = .ok (.dup, 1) := zD89 whX10_init_2 (p := 14) rfl
theorem dX10_init_83 : decode cX10_init 83 = .ok (.invokespecial 36, 3) := zD183 whX10_init_2 (p := 15) rfl rfl
theorem dX10_init_86 : decode cX10_init 86 = .ok (.putfield 37, 3) := zD181 whX10_init_2 (p := 18) rfl rfl
theorem dX10_init_89 : decode cX10_init 89 = .ok (.aload_n 0, 1) := zD42 whX10_init_2 (p := 21) rfl
theorem dX10_init_90 : decode cX10_init 90 = .ok (.new 41, 3) := zD187 whX10_init_2 (p := 22) rfl rfl
theorem dX10_init_93 : decode cX10_init 93 = .ok (.dup, 1) := zD89 whX10_init_2 (p := 25) rfl
theorem dX10_init_94 : decode cX10_init 94 = .ok (.invokespecial 43, 3) := zD183 whX10_init_2 (p := 26) rfl rfl
theorem dX10_init_97 : decode cX10_init 97 = .ok (.putfield 44, 3) := zD181 whX10_init_2 (p := 29) rfl rfl
def wlX10_init_3 : List Nat := [42, 187, 0, 48, 89, 183, 0, 50, 181, 0, 51, 42, 187, 0, 55, 89, 183, 0, 57, 181, 0, 58, 42, 187, 0, 62, 89, 183, 0, 64, 181, 0, 65]
theorem whX10_init_3 : WLy cX10_init 100 wlX10_init_3 := by decide +kernel
theorem dX10_init_100 : decode cX10_init 100 = .ok (.aload_n 0, 1) := zD42 whX10_init_3 (p := 0) rfl
theorem dX10_init_101 : decode cX10_init 101 = .ok (.new 48, 3) := zD187 whX10_init_3 (p := 1) rfl rfl
theorem dX10_init_104 : decode cX10_init 104 = .ok (.dup, 1) := zD89 whX10_init_3 (p := 4) rfl
theorem dX10_init_105 : decode cX10_init 105 = .ok (.invokespecial 50, 3) := zD183 whX10_init_3 (p := 5) rfl rfl
theorem dX10_init_108 : decode cX10_init 108 = .ok (.putfield 51, 3) := zD181 whX10_init_3 (p := 8) rfl rfl
theorem dX10_init_111 : decode cX10_init 111 = .ok (.aload_n 0, 1) := zD42 whX10_init_3 (p := 11) rfl
theorem dX10_init_112 : decode cX10_init 112 = .ok (.new 55, 3) := zD187 whX10_init_3 (p := 12) rfl rfl
theorem dX10_init_115 : decode cX10_init 115 = .ok (.dup, 1) := zD89 whX10_init_3 (p := 15) rfl
theorem dX10_init_116 : decode cX10_init 116 = .ok (.invokespecial 57, 3) := zD183 whX10_init_3 (p := 16) rfl rfl
theorem dX10_init_119 : decode cX10_init 119 = .ok (.putfield 58, 3) := zD181 whX10_init_3 (p := 19) rfl rfl
theorem dX10_init_122 : decode cX10_init 122 = .ok (.aload_n 0, 1) := zD42 whX10_init_3 (p := 22) rfl
theorem dX10_init_123 : decode cX10_init 123 = .ok (.new 62, 3) := zD187 whX10_init_3 (p := 23) rfl rfl
theorem dX10_init_126 : decode cX10_init 126 = .ok (.dup, 1) := zD89 whX10_init_3 (p := 26) rfl
theorem dX10_init_127 : decode cX10_init 127 = .ok (.invokespecial 64, 3) := zD183 whX10_init_3 (p := 27) rfl rfl
theorem dX10_init_130 : decode cX10_init 130 = .ok (.putfield 65, 3) := zD181 whX10_init_3 (p := 30) rfl rfl
def wlX10_init_4 : List Nat := [42, 187, 0, 69, 89, 183, 0, 71, 181, 0, 72, 42, 187, 0, 76, 89, 183, 0, 78, 181, 0, 79, 177]
theorem whX10_init_4 : WLy cX10_init 133 wlX10_init_4 := by decide +kernel
theorem dX10_init_133 : decode cX10_init 133 = .ok (.aload_n 0, 1) := zD42 whX10_init_4 (p := 0) rfl
theorem dX10_init_134 : decode cX10_init 134 = .ok (.new 69, 3) := zD187 whX10_init_4 (p := 1) rfl rfl
theorem dX10_init_137 : decode cX10_init 137 = .ok (.dup, 1) := zD89 whX10_init_4 (p := 4) rfl
theorem dX10_init_138 : decode cX10_init 138 = .ok (.invokespecial 71, 3) := zD183 whX10_init_4 (p := 5) rfl rfl
theorem dX10_init_141 : decode cX10_init 141 = .ok (.putfield 72, 3) := zD181 whX10_init_4 (p := 8) rfl rfl
theorem dX10_init_144 : decode cX10_init 144 = .ok (.aload_n 0, 1) := zD42 whX10_init_4 (p := 11) rfl
theorem dX10_init_145 : decode cX10_init 145 = .ok (.new 76, 3) := zD187 whX10_init_4 (p := 12) rfl rfl
theorem dX10_init_148 : decode cX10_init 148 = .ok (.dup, 1) := zD89 whX10_init_4 (p := 15) rfl
theorem dX10_init_149 : decode cX10_init 149 = .ok (.invokespecial 78, 3) := zD183 whX10_init_4 (p := 16) rfl rfl
theorem dX10_init_152 : decode cX10_init 152 = .ok (.putfield 79, 3) := zD181 whX10_init_4 (p := 19) rfl rfl
theorem dX10_init_155 : decode cX10_init 155 = .ok (.return_, 1) := zD177 whX10_init_4 (p := 22) rfl
def wlX10_feed_0 : List Nat := [42, 180, 0, 10, 180, 0, 83, 31, 182, 0, 87, 153, 0, 16, 42, 180, 0, 10, 180, 0, 83, 180, 0, 93, 167, 0, 5, 16, 253, 172]
theorem whX10_feed_0 : WLy cX10_feed 0 wlX10_feed_0 := by decide +kernel
theorem dX10_feed_0 : decode cX10_feed 0 = .ok (.aload_n 0, 1) := zD42 whX10_feed_0 (p := 0) rfl
theorem dX10_feed_1 : decode cX10_feed 1 = .ok (.getfield 10, 3) := zD180 whX10_feed_0 (p := 1) rfl rfl
theorem dX10_feed_4 : decode cX10_feed 4 = .ok (.getfield 83, 3) := zD180 whX10_feed_0 (p := 4) rfl rfl
theorem dX10_feed_7 : decode cX10_feed 7 = .ok (.lload_n 1, 1) := zD31 whX10_feed_0 (p := 7) rfl
theorem dX10_feed_8 : decode cX10_feed 8 = .ok (.invokevirtual 87, 3) := zD182 whX10_feed_0 (p := 8) rfl rfl
theorem dX10_feed_11 : decode cX10_feed 11 = .ok (.ifCond .eq 16, 3) := zD153p whX10_feed_0 (p := 11) (v := 16) rfl rfl rfl
theorem dX10_feed_14 : decode cX10_feed 14 = .ok (.aload_n 0, 1) := zD42 whX10_feed_0 (p := 14) rfl
theorem dX10_feed_15 : decode cX10_feed 15 = .ok (.getfield 10, 3) := zD180 whX10_feed_0 (p := 15) rfl rfl
theorem dX10_feed_18 : decode cX10_feed 18 = .ok (.getfield 83, 3) := zD180 whX10_feed_0 (p := 18) rfl rfl
theorem dX10_feed_21 : decode cX10_feed 21 = .ok (.getfield 93, 3) := zD180 whX10_feed_0 (p := 21) rfl rfl
theorem dX10_feed_24 : decode cX10_feed 24 = .ok (.goto 5, 3) := zD167p whX10_feed_0 (p := 24) (v := 5) rfl rfl rfl
theorem dX10_feed_27 : decode cX10_feed 27 = .ok (.bipush (-3), 2) := zD16n whX10_feed_0 (p := 27) (v := 3) rfl rfl rfl
theorem dX10_feed_29 : decode cX10_feed 29 = .ok (.ireturn, 1) := zD172 whX10_feed_0 (p := 29) rfl
def wlX10_end_0 : List Nat := [27, 155, 0, 17, 27, 42, 180, 0, 10, 180, 0, 83, 180, 0, 93, 164, 0, 5, 2, 172, 42, 180, 0, 10, 180, 0, 83, 180, 0, 93, 61, 42]
theorem whX10_end_0 : WLy cX10_end 0 wlX10_end_0 := by decide +kernel
theorem dX10_end_0 : decode cX10_end 0 = .ok (.iload_n 1, 1) := zD27 whX10_end_0 (p := 0) rfl
theorem dX10_end_1 : decode cX10_end 1 = .ok (.ifCond .lt 17, 3) := zD155p whX10_end_0 (p := 1) (v := 17) rfl rfl rfl
theorem dX10_end_4 : decode cX10_end 4 = .ok (.iload_n 1, 1) := zD27 whX10_end_0 (p := 4) rfl
theorem dX10_end_5 : decode cX10_end 5 = .ok (.aload_n 0, 1) := zD42 whX10_end_0 (p := 5) rfl
theorem dX10_end_6 : decode cX10_end 6 = .ok (.getfield 10, 3) := zD180 whX10_end_0 (p := 6) rfl rfl
theorem dX10_end_9 : decode cX10_end 9 = .ok (.getfield 83, 3) := zD180 whX10_end_0 (p := 9) rfl rfl
theorem dX10_end_12 : decode cX10_end 12 = .ok (.getfield 93, 3) := zD180 whX10_end_0 (p := 12) rfl rfl
theorem dX10_end_15 : decode cX10_end 15 = .ok (.if_icmp .le 5, 3) := zD164p whX10_end_0 (p := 15) (v := 5) rfl rfl rfl
theorem dX10_end_18 : decode cX10_end 18 = .ok (.iconst (-1), 1) := zD2 whX10_end_0 (p := 18) rfl
theorem dX10_end_19 : decode cX10_end 19 = .ok (.ireturn, 1) := zD172 whX10_end_0 (p := 19) rfl
theorem dX10_end_20 : decode cX10_end 20 = .ok (.aload_n 0, 1) := zD42 whX10_end_0 (p := 20) rfl
theorem dX10_end_21 : decode cX10_end 21 = .ok (.getfield 10, 3) := zD180 whX10_end_0 (p := 21) rfl rfl
theorem dX10_end_24 : decode cX10_end 24 = .ok (.getfield 83, 3) := zD180 whX10_end_0 (p := 24) rfl rfl
theorem dX10_end_27 : decode cX10_end 27 = .ok (.getfield 93, 3) := zD180 whX10_end_0 (p := 27) rfl rfl
theorem dX10_end_30 : decode cX10_end 30 = .ok (.istore_n 2, 1) := zD61 whX10_end_0 (p := 30) rfl
theorem dX10_end_31 : decode cX10_end 31 = .ok (.aload_n 0, 1) := zD42 whX10_end_0 (p := 31) rfl
def wlX10_end_1 : List Nat := [180, 0, 10, 180, 0, 83, 27, 181, 0, 93, 28, 172]
theorem whX10_end_1 : WLy cX10_end 32 wlX10_end_1 := by decide +kernel
theorem dX10_end_32 : decode cX10_end 32 = .ok (.getfield 10, 3) := zD180 whX10_end_1 (p := 0) rfl rfl
theorem dX10_end_35 : decode cX10_end 35 = .ok (.getfield 83, 3) := zD180 whX10_end_1 (p := 3) rfl rfl
theorem dX10_end_38 : decode cX10_end 38 = .ok (.iload_n 1, 1) := zD27 whX10_end_1 (p := 6) rfl
theorem dX10_end_39 : decode cX10_end 39 = .ok (.putfield 93, 3) := zD181 whX10_end_1 (p := 7) rfl rfl
theorem dX10_end_42 : decode cX10_end 42 = .ok (.iload_n 2, 1) := zD28 whX10_end_1 (p := 10) rfl
theorem dX10_end_43 : decode cX10_end 43 = .ok (.ireturn, 1) := zD172 whX10_end_1 (p := 11) rfl
def wlX10_text_0 : List Nat := [42, 180, 0, 10, 182, 0, 97, 42, 180, 0, 10, 180, 0, 83, 3, 181, 0, 93, 42, 42, 180, 0, 10, 180, 0, 100, 181, 0, 103, 42, 180, 0, 103]
theorem whX10_text_0 : WLy cX10_text 0 wlX10_text_0 := by decide +kernel
theorem dX10_text_0 : decode cX10_text 0 = .ok (.aload_n 0, 1) := zD42 whX10_text_0 (p := 0) rfl
theorem dX10_text_1 : decode cX10_text 1 = .ok (.getfield 10, 3) := zD180 whX10_text_0 (p := 1) rfl rfl
theorem dX10_text_4 : decode cX10_text 4 = .ok (.invokevirtual 97, 3) := zD182 whX10_text_0 (p := 4) rfl rfl
theorem dX10_text_7 : decode cX10_text 7 = .ok (.aload_n 0, 1) := zD42 whX10_text_0 (p := 7) rfl
theorem dX10_text_8 : decode cX10_text 8 = .ok (.getfield 10, 3) := zD180 whX10_text_0 (p := 8) rfl rfl
theorem dX10_text_11 : decode cX10_text 11 = .ok (.getfield 83, 3) := zD180 whX10_text_0 (p := 11) rfl rfl
theorem dX10_text_14 : decode cX10_text 14 = .ok (.iconst 0, 1) := zD3 whX10_text_0 (p := 14) rfl
theorem dX10_text_15 : decode cX10_text 15 = .ok (.putfield 93, 3) := zD181 whX10_text_0 (p := 15) rfl rfl
theorem dX10_text_18 : decode cX10_text 18 = .ok (.aload_n 0, 1) := zD42 whX10_text_0 (p := 18) rfl
theorem dX10_text_19 : decode cX10_text 19 = .ok (.aload_n 0, 1) := zD42 whX10_text_0 (p := 19) rfl
theorem dX10_text_20 : decode cX10_text 20 = .ok (.getfield 10, 3) := zD180 whX10_text_0 (p := 20) rfl rfl
theorem dX10_text_23 : decode cX10_text 23 = .ok (.getfield 100, 3) := zD180 whX10_text_0 (p := 23) rfl rfl
theorem dX10_text_26 : decode cX10_text 26 = .ok (.putfield 103, 3) := zD181 whX10_text_0 (p := 26) rfl rfl
theorem dX10_text_29 : decode cX10_text 29 = .ok (.aload_n 0, 1) := zD42 whX10_text_0 (p := 29) rfl
theorem dX10_text_30 : decode cX10_text 30 = .ok (.getfield 103, 3) := zD180 whX10_text_0 (p := 30) rfl rfl
def wlX10_text_1 : List Nat := [153, 0, 14, 16, 246, 42, 180, 0, 10, 180, 0, 106, 100, 172, 42, 180, 0, 19, 42, 180, 0, 10, 180, 0, 109, 182, 0, 112, 42, 180, 0, 58]
theorem whX10_text_1 : WLy cX10_text 33 wlX10_text_1 := by decide +kernel
theorem dX10_text_33 : decode cX10_text 33 = .ok (.ifCond .eq 14, 3) := zD153p whX10_text_1 (p := 0) (v := 14) rfl rfl rfl
theorem dX10_text_36 : decode cX10_text 36 = .ok (.bipush (-10), 2) := zD16n whX10_text_1 (p := 3) (v := 10) rfl rfl rfl
theorem dX10_text_38 : decode cX10_text 38 = .ok (.aload_n 0, 1) := zD42 whX10_text_1 (p := 5) rfl
theorem dX10_text_39 : decode cX10_text 39 = .ok (.getfield 10, 3) := zD180 whX10_text_1 (p := 6) rfl rfl
theorem dX10_text_42 : decode cX10_text 42 = .ok (.getfield 106, 3) := zD180 whX10_text_1 (p := 9) rfl rfl
theorem dX10_text_45 : decode cX10_text 45 = .ok (.isub, 1) := zD100 whX10_text_1 (p := 12) rfl
theorem dX10_text_46 : decode cX10_text 46 = .ok (.ireturn, 1) := zD172 whX10_text_1 (p := 13) rfl
theorem dX10_text_47 : decode cX10_text 47 = .ok (.aload_n 0, 1) := zD42 whX10_text_1 (p := 14) rfl
theorem dX10_text_48 : decode cX10_text 48 = .ok (.getfield 19, 3) := zD180 whX10_text_1 (p := 15) rfl rfl
theorem dX10_text_51 : decode cX10_text 51 = .ok (.aload_n 0, 1) := zD42 whX10_text_1 (p := 18) rfl
theorem dX10_text_52 : decode cX10_text 52 = .ok (.getfield 10, 3) := zD180 whX10_text_1 (p := 19) rfl rfl
theorem dX10_text_55 : decode cX10_text 55 = .ok (.getfield 109, 3) := zD180 whX10_text_1 (p := 22) rfl rfl
theorem dX10_text_58 : decode cX10_text 58 = .ok (.invokevirtual 112, 3) := zD182 whX10_text_1 (p := 25) rfl rfl
theorem dX10_text_61 : decode cX10_text 61 = .ok (.aload_n 0, 1) := zD42 whX10_text_1 (p := 28) rfl
theorem dX10_text_62 : decode cX10_text 62 = .ok (.getfield 58, 3) := zD180 whX10_text_1 (p := 29) rfl rfl
def wlX10_text_2 : List Nat := [3, 181, 0, 116, 42, 180, 0, 65, 3, 181, 0, 119, 3, 60, 27, 5, 162, 0, 16, 42, 180, 0, 30, 27, 3, 84, 132, 1, 1, 167, 255, 241]
theorem whX10_text_2 : WLy cX10_text 65 wlX10_text_2 := by decide +kernel
theorem dX10_text_65 : decode cX10_text 65 = .ok (.iconst 0, 1) := zD3 whX10_text_2 (p := 0) rfl
theorem dX10_text_66 : decode cX10_text 66 = .ok (.putfield 116, 3) := zD181 whX10_text_2 (p := 1) rfl rfl
theorem dX10_text_69 : decode cX10_text 69 = .ok (.aload_n 0, 1) := zD42 whX10_text_2 (p := 4) rfl
theorem dX10_text_70 : decode cX10_text 70 = .ok (.getfield 65, 3) := zD180 whX10_text_2 (p := 5) rfl rfl
theorem dX10_text_73 : decode cX10_text 73 = .ok (.iconst 0, 1) := zD3 whX10_text_2 (p := 8) rfl
theorem dX10_text_74 : decode cX10_text 74 = .ok (.putfield 119, 3) := zD181 whX10_text_2 (p := 9) rfl rfl
theorem dX10_text_77 : decode cX10_text 77 = .ok (.iconst 0, 1) := zD3 whX10_text_2 (p := 12) rfl
theorem dX10_text_78 : decode cX10_text 78 = .ok (.istore_n 1, 1) := zD60 whX10_text_2 (p := 13) rfl
theorem dX10_text_79 : decode cX10_text 79 = .ok (.iload_n 1, 1) := zD27 whX10_text_2 (p := 14) rfl
theorem dX10_text_80 : decode cX10_text 80 = .ok (.iconst 2, 1) := zD5 whX10_text_2 (p := 15) rfl
theorem dX10_text_81 : decode cX10_text 81 = .ok (.if_icmp .ge 16, 3) := zD162p whX10_text_2 (p := 16) (v := 16) rfl rfl rfl
theorem dX10_text_84 : decode cX10_text 84 = .ok (.aload_n 0, 1) := zD42 whX10_text_2 (p := 19) rfl
theorem dX10_text_85 : decode cX10_text 85 = .ok (.getfield 30, 3) := zD180 whX10_text_2 (p := 20) rfl rfl
theorem dX10_text_88 : decode cX10_text 88 = .ok (.iload_n 1, 1) := zD27 whX10_text_2 (p := 23) rfl
theorem dX10_text_89 : decode cX10_text 89 = .ok (.iconst 0, 1) := zD3 whX10_text_2 (p := 24) rfl
theorem dX10_text_90 : decode cX10_text 90 = .ok (.bastore, 1) := zD84 whX10_text_2 (p := 25) rfl
theorem dX10_text_91 : decode cX10_text 91 = .ok (.iinc 1 1, 3) := zD132p whX10_text_2 (p := 26) (v := 1) rfl rfl rfl
theorem dX10_text_94 : decode cX10_text 94 = .ok (.goto (-15), 3) := zD167n whX10_text_2 (p := 29) (v := 15) rfl rfl rfl
def wlX10_text_3 : List Nat := [42, 180, 0, 10, 180, 0, 120, 172]
theorem whX10_text_3 : WLy cX10_text 97 wlX10_text_3 := by decide +kernel
theorem dX10_text_97 : decode cX10_text 97 = .ok (.aload_n 0, 1) := zD42 whX10_text_3 (p := 0) rfl
theorem dX10_text_98 : decode cX10_text 98 = .ok (.getfield 10, 3) := zD180 whX10_text_3 (p := 1) rfl rfl
theorem dX10_text_101 : decode cX10_text 101 = .ok (.getfield 120, 3) := zD180 whX10_text_3 (p := 4) rfl rfl
theorem dX10_text_104 : decode cX10_text 104 = .ok (.ireturn, 1) := zD172 whX10_text_3 (p := 7) rfl
def wlX10_fault_0 : List Nat := [42, 180, 0, 103, 172]
theorem whX10_fault_0 : WLy cX10_fault 0 wlX10_fault_0 := by decide +kernel
theorem dX10_fault_0 : decode cX10_fault 0 = .ok (.aload_n 0, 1) := zD42 whX10_fault_0 (p := 0) rfl
theorem dX10_fault_1 : decode cX10_fault 1 = .ok (.getfield 103, 3) := zD180 whX10_fault_0 (p := 1) rfl rfl
theorem dX10_fault_4 : decode cX10_fault 4 = .ok (.ireturn, 1) := zD172 whX10_fault_0 (p := 4) rfl
def wlX10_rule_0 : List Nat := [27, 170, 0, 0, 0, 0, 0, 51, 0, 0, 0, 0, 0, 0, 0, 2, 0, 0, 0, 27, 0, 0, 0, 35, 0, 0, 0, 43, 42, 180, 0, 19]
theorem whX10_rule_0 : WLy cX10_rule 0 wlX10_rule_0 := by decide +kernel
theorem dX10_rule_0 : decode cX10_rule 0 = .ok (.iload_n 1, 1) := zD27 whX10_rule_0 (p := 0) rfl
theorem dX10_rule_28 : decode cX10_rule 28 = .ok (.aload_n 0, 1) := zD42 whX10_rule_0 (p := 28) rfl
theorem dX10_rule_29 : decode cX10_rule 29 = .ok (.getfield 19, 3) := zD180 whX10_rule_0 (p := 29) rfl rfl
def wlX10_rule_1 : List Nat := [180, 0, 123, 172, 42, 180, 0, 19, 180, 0, 126, 172, 42, 180, 0, 19, 180, 0, 129, 172, 2, 172]
theorem whX10_rule_1 : WLy cX10_rule 32 wlX10_rule_1 := by decide +kernel
theorem dX10_rule_32 : decode cX10_rule 32 = .ok (.getfield 123, 3) := zD180 whX10_rule_1 (p := 0) rfl rfl
theorem dX10_rule_35 : decode cX10_rule 35 = .ok (.ireturn, 1) := zD172 whX10_rule_1 (p := 3) rfl
theorem dX10_rule_36 : decode cX10_rule 36 = .ok (.aload_n 0, 1) := zD42 whX10_rule_1 (p := 4) rfl
theorem dX10_rule_37 : decode cX10_rule 37 = .ok (.getfield 19, 3) := zD180 whX10_rule_1 (p := 5) rfl rfl
theorem dX10_rule_40 : decode cX10_rule 40 = .ok (.getfield 126, 3) := zD180 whX10_rule_1 (p := 8) rfl rfl
theorem dX10_rule_43 : decode cX10_rule 43 = .ok (.ireturn, 1) := zD172 whX10_rule_1 (p := 11) rfl
theorem dX10_rule_44 : decode cX10_rule 44 = .ok (.aload_n 0, 1) := zD42 whX10_rule_1 (p := 12) rfl
theorem dX10_rule_45 : decode cX10_rule 45 = .ok (.getfield 19, 3) := zD180 whX10_rule_1 (p := 13) rfl rfl
theorem dX10_rule_48 : decode cX10_rule 48 = .ok (.getfield 129, 3) := zD180 whX10_rule_1 (p := 16) rfl rfl
theorem dX10_rule_51 : decode cX10_rule 51 = .ok (.ireturn, 1) := zD172 whX10_rule_1 (p := 19) rfl
theorem dX10_rule_52 : decode cX10_rule 52 = .ok (.iconst (-1), 1) := zD2 whX10_rule_1 (p := 20) rfl
theorem dX10_rule_53 : decode cX10_rule 53 = .ok (.ireturn, 1) := zD172 whX10_rule_1 (p := 21) rfl
def wlX10_stretch_0 : List Nat := [42, 180, 0, 19, 27, 182, 0, 132, 154, 0, 5, 2, 172, 28]
theorem whX10_stretch_0 : WLy cX10_stretch 0 wlX10_stretch_0 := by decide +kernel
theorem dX10_stretch_0 : decode cX10_stretch 0 = .ok (.aload_n 0, 1) := zD42 whX10_stretch_0 (p := 0) rfl
theorem dX10_stretch_1 : decode cX10_stretch 1 = .ok (.getfield 19, 3) := zD180 whX10_stretch_0 (p := 1) rfl rfl
theorem dX10_stretch_4 : decode cX10_stretch 4 = .ok (.iload_n 1, 1) := zD27 whX10_stretch_0 (p := 4) rfl
theorem dX10_stretch_5 : decode cX10_stretch 5 = .ok (.invokevirtual 132, 3) := zD182 whX10_stretch_0 (p := 5) rfl rfl
theorem dX10_stretch_8 : decode cX10_stretch 8 = .ok (.ifCond .ne 5, 3) := zD154p whX10_stretch_0 (p := 8) (v := 5) rfl rfl rfl
theorem dX10_stretch_11 : decode cX10_stretch 11 = .ok (.iconst (-1), 1) := zD2 whX10_stretch_0 (p := 11) rfl
theorem dX10_stretch_12 : decode cX10_stretch 12 = .ok (.ireturn, 1) := zD172 whX10_stretch_0 (p := 12) rfl
theorem dX10_stretch_13 : decode cX10_stretch 13 = .ok (.iload_n 2, 1) := zD28 whX10_stretch_0 (p := 13) rfl
def wlX10_stretch_1 : List Nat := [42, 180, 0, 19, 180, 0, 136, 27, 46, 172, 42, 180, 0, 19, 180, 0, 140, 27, 46, 172, 42, 180, 0, 19, 180, 0, 143, 27, 46, 172, 2, 172]
theorem whX10_stretch_1 : WLy cX10_stretch 40 wlX10_stretch_1 := by decide +kernel
theorem dX10_stretch_40 : decode cX10_stretch 40 = .ok (.aload_n 0, 1) := zD42 whX10_stretch_1 (p := 0) rfl
theorem dX10_stretch_41 : decode cX10_stretch 41 = .ok (.getfield 19, 3) := zD180 whX10_stretch_1 (p := 1) rfl rfl
theorem dX10_stretch_44 : decode cX10_stretch 44 = .ok (.getfield 136, 3) := zD180 whX10_stretch_1 (p := 4) rfl rfl
theorem dX10_stretch_47 : decode cX10_stretch 47 = .ok (.iload_n 1, 1) := zD27 whX10_stretch_1 (p := 7) rfl
theorem dX10_stretch_48 : decode cX10_stretch 48 = .ok (.iaload, 1) := zD46 whX10_stretch_1 (p := 8) rfl
theorem dX10_stretch_49 : decode cX10_stretch 49 = .ok (.ireturn, 1) := zD172 whX10_stretch_1 (p := 9) rfl
theorem dX10_stretch_50 : decode cX10_stretch 50 = .ok (.aload_n 0, 1) := zD42 whX10_stretch_1 (p := 10) rfl
theorem dX10_stretch_51 : decode cX10_stretch 51 = .ok (.getfield 19, 3) := zD180 whX10_stretch_1 (p := 11) rfl rfl
theorem dX10_stretch_54 : decode cX10_stretch 54 = .ok (.getfield 140, 3) := zD180 whX10_stretch_1 (p := 14) rfl rfl
theorem dX10_stretch_57 : decode cX10_stretch 57 = .ok (.iload_n 1, 1) := zD27 whX10_stretch_1 (p := 17) rfl
theorem dX10_stretch_58 : decode cX10_stretch 58 = .ok (.iaload, 1) := zD46 whX10_stretch_1 (p := 18) rfl
theorem dX10_stretch_59 : decode cX10_stretch 59 = .ok (.ireturn, 1) := zD172 whX10_stretch_1 (p := 19) rfl
theorem dX10_stretch_60 : decode cX10_stretch 60 = .ok (.aload_n 0, 1) := zD42 whX10_stretch_1 (p := 20) rfl
theorem dX10_stretch_61 : decode cX10_stretch 61 = .ok (.getfield 19, 3) := zD180 whX10_stretch_1 (p := 21) rfl rfl
theorem dX10_stretch_64 : decode cX10_stretch 64 = .ok (.getfield 143, 3) := zD180 whX10_stretch_1 (p := 24) rfl rfl
theorem dX10_stretch_67 : decode cX10_stretch 67 = .ok (.iload_n 1, 1) := zD27 whX10_stretch_1 (p := 27) rfl
theorem dX10_stretch_68 : decode cX10_stretch 68 = .ok (.iaload, 1) := zD46 whX10_stretch_1 (p := 28) rfl
theorem dX10_stretch_69 : decode cX10_stretch 69 = .ok (.ireturn, 1) := zD172 whX10_stretch_1 (p := 29) rfl
theorem dX10_stretch_70 : decode cX10_stretch 70 = .ok (.iconst (-1), 1) := zD2 whX10_stretch_1 (p := 30) rfl
theorem dX10_stretch_71 : decode cX10_stretch 71 = .ok (.ireturn, 1) := zD172 whX10_stretch_1 (p := 31) rfl
def wlX10_bearer_0 : List Nat := [42, 180, 0, 19, 27, 182, 0, 146, 154, 0, 5, 2, 172, 28]
theorem whX10_bearer_0 : WLy cX10_bearer 0 wlX10_bearer_0 := by decide +kernel
theorem dX10_bearer_0 : decode cX10_bearer 0 = .ok (.aload_n 0, 1) := zD42 whX10_bearer_0 (p := 0) rfl
theorem dX10_bearer_1 : decode cX10_bearer 1 = .ok (.getfield 19, 3) := zD180 whX10_bearer_0 (p := 1) rfl rfl
theorem dX10_bearer_4 : decode cX10_bearer 4 = .ok (.iload_n 1, 1) := zD27 whX10_bearer_0 (p := 4) rfl
theorem dX10_bearer_5 : decode cX10_bearer 5 = .ok (.invokevirtual 146, 3) := zD182 whX10_bearer_0 (p := 5) rfl rfl
theorem dX10_bearer_8 : decode cX10_bearer 8 = .ok (.ifCond .ne 5, 3) := zD154p whX10_bearer_0 (p := 8) (v := 5) rfl rfl rfl
theorem dX10_bearer_11 : decode cX10_bearer 11 = .ok (.iconst (-1), 1) := zD2 whX10_bearer_0 (p := 11) rfl
theorem dX10_bearer_12 : decode cX10_bearer 12 = .ok (.ireturn, 1) := zD172 whX10_bearer_0 (p := 12) rfl
theorem dX10_bearer_13 : decode cX10_bearer 13 = .ok (.iload_n 2, 1) := zD28 whX10_bearer_0 (p := 13) rfl
def wlX10_bearer_1 : List Nat := [42, 180, 0, 19, 180, 0, 149, 27, 46, 172, 42, 180, 0, 19, 180, 0, 152, 27, 46, 172, 42, 180, 0, 19, 180, 0, 155, 27, 46, 172, 2, 172]
theorem whX10_bearer_1 : WLy cX10_bearer 40 wlX10_bearer_1 := by decide +kernel
theorem dX10_bearer_40 : decode cX10_bearer 40 = .ok (.aload_n 0, 1) := zD42 whX10_bearer_1 (p := 0) rfl
theorem dX10_bearer_41 : decode cX10_bearer 41 = .ok (.getfield 19, 3) := zD180 whX10_bearer_1 (p := 1) rfl rfl
theorem dX10_bearer_44 : decode cX10_bearer 44 = .ok (.getfield 149, 3) := zD180 whX10_bearer_1 (p := 4) rfl rfl
theorem dX10_bearer_47 : decode cX10_bearer 47 = .ok (.iload_n 1, 1) := zD27 whX10_bearer_1 (p := 7) rfl
theorem dX10_bearer_48 : decode cX10_bearer 48 = .ok (.iaload, 1) := zD46 whX10_bearer_1 (p := 8) rfl
theorem dX10_bearer_49 : decode cX10_bearer 49 = .ok (.ireturn, 1) := zD172 whX10_bearer_1 (p := 9) rfl
theorem dX10_bearer_50 : decode cX10_bearer 50 = .ok (.aload_n 0, 1) := zD42 whX10_bearer_1 (p := 10) rfl
theorem dX10_bearer_51 : decode cX10_bearer 51 = .ok (.getfield 19, 3) := zD180 whX10_bearer_1 (p := 11) rfl rfl
theorem dX10_bearer_54 : decode cX10_bearer 54 = .ok (.getfield 152, 3) := zD180 whX10_bearer_1 (p := 14) rfl rfl
theorem dX10_bearer_57 : decode cX10_bearer 57 = .ok (.iload_n 1, 1) := zD27 whX10_bearer_1 (p := 17) rfl
theorem dX10_bearer_58 : decode cX10_bearer 58 = .ok (.iaload, 1) := zD46 whX10_bearer_1 (p := 18) rfl
theorem dX10_bearer_59 : decode cX10_bearer 59 = .ok (.ireturn, 1) := zD172 whX10_bearer_1 (p := 19) rfl
theorem dX10_bearer_60 : decode cX10_bearer 60 = .ok (.aload_n 0, 1) := zD42 whX10_bearer_1 (p := 20) rfl
theorem dX10_bearer_61 : decode cX10_bearer 61 = .ok (.getfield 19, 3) := zD180 whX10_bearer_1 (p := 21) rfl rfl
theorem dX10_bearer_64 : decode cX10_bearer 64 = .ok (.getfield 155, 3) := zD180 whX10_bearer_1 (p := 24) rfl rfl
theorem dX10_bearer_67 : decode cX10_bearer 67 = .ok (.iload_n 1, 1) := zD27 whX10_bearer_1 (p := 27) rfl
theorem dX10_bearer_68 : decode cX10_bearer 68 = .ok (.iaload, 1) := zD46 whX10_bearer_1 (p := 28) rfl
theorem dX10_bearer_69 : decode cX10_bearer 69 = .ok (.ireturn, 1) := zD172 whX10_bearer_1 (p := 29) rfl
theorem dX10_bearer_70 : decode cX10_bearer 70 = .ok (.iconst (-1), 1) := zD2 whX10_bearer_1 (p := 30) rfl
theorem dX10_bearer_71 : decode cX10_bearer 71 = .ok (.ireturn, 1) := zD172 whX10_bearer_1 (p := 31) rfl
def wlX10_start_0 : List Nat := [27, 4, 161, 0, 9, 27, 16, 9, 164, 0, 5, 2, 172, 42, 180, 0, 19, 180, 0, 129, 61, 42, 180, 0, 19, 27, 181, 0, 129, 28, 172]
theorem whX10_start_0 : WLy cX10_start 0 wlX10_start_0 := by decide +kernel
theorem dX10_start_0 : decode cX10_start 0 = .ok (.iload_n 1, 1) := zD27 whX10_start_0 (p := 0) rfl
theorem dX10_start_1 : decode cX10_start 1 = .ok (.iconst 1, 1) := zD4 whX10_start_0 (p := 1) rfl
theorem dX10_start_2 : decode cX10_start 2 = .ok (.if_icmp .lt 9, 3) := zD161p whX10_start_0 (p := 2) (v := 9) rfl rfl rfl
theorem dX10_start_5 : decode cX10_start 5 = .ok (.iload_n 1, 1) := zD27 whX10_start_0 (p := 5) rfl
theorem dX10_start_6 : decode cX10_start 6 = .ok (.bipush 9, 2) := zD16p whX10_start_0 (p := 6) (v := 9) rfl rfl rfl
theorem dX10_start_8 : decode cX10_start 8 = .ok (.if_icmp .le 5, 3) := zD164p whX10_start_0 (p := 8) (v := 5) rfl rfl rfl
theorem dX10_start_11 : decode cX10_start 11 = .ok (.iconst (-1), 1) := zD2 whX10_start_0 (p := 11) rfl
theorem dX10_start_12 : decode cX10_start 12 = .ok (.ireturn, 1) := zD172 whX10_start_0 (p := 12) rfl
theorem dX10_start_13 : decode cX10_start 13 = .ok (.aload_n 0, 1) := zD42 whX10_start_0 (p := 13) rfl
theorem dX10_start_14 : decode cX10_start 14 = .ok (.getfield 19, 3) := zD180 whX10_start_0 (p := 14) rfl rfl
theorem dX10_start_17 : decode cX10_start 17 = .ok (.getfield 129, 3) := zD180 whX10_start_0 (p := 17) rfl rfl
theorem dX10_start_20 : decode cX10_start 20 = .ok (.istore_n 2, 1) := zD61 whX10_start_0 (p := 20) rfl
theorem dX10_start_21 : decode cX10_start 21 = .ok (.aload_n 0, 1) := zD42 whX10_start_0 (p := 21) rfl
theorem dX10_start_22 : decode cX10_start 22 = .ok (.getfield 19, 3) := zD180 whX10_start_0 (p := 22) rfl rfl
theorem dX10_start_25 : decode cX10_start 25 = .ok (.iload_n 1, 1) := zD27 whX10_start_0 (p := 25) rfl
theorem dX10_start_26 : decode cX10_start 26 = .ok (.putfield 129, 3) := zD181 whX10_start_0 (p := 26) rfl rfl
theorem dX10_start_29 : decode cX10_start 29 = .ok (.iload_n 2, 1) := zD28 whX10_start_0 (p := 29) rfl
theorem dX10_start_30 : decode cX10_start 30 = .ok (.ireturn, 1) := zD172 whX10_start_0 (p := 30) rfl
def wlX10_noise_0 : List Nat := [42, 180, 0, 19, 27, 182, 0, 132, 153, 0, 18, 42, 180, 0, 19, 180, 0, 136, 27, 28, 184, 0, 158, 167, 0, 4, 2, 172]
theorem whX10_noise_0 : WLy cX10_noise 0 wlX10_noise_0 := by decide +kernel
theorem dX10_noise_0 : decode cX10_noise 0 = .ok (.aload_n 0, 1) := zD42 whX10_noise_0 (p := 0) rfl
theorem dX10_noise_1 : decode cX10_noise 1 = .ok (.getfield 19, 3) := zD180 whX10_noise_0 (p := 1) rfl rfl
theorem dX10_noise_4 : decode cX10_noise 4 = .ok (.iload_n 1, 1) := zD27 whX10_noise_0 (p := 4) rfl
theorem dX10_noise_5 : decode cX10_noise 5 = .ok (.invokevirtual 132, 3) := zD182 whX10_noise_0 (p := 5) rfl rfl
theorem dX10_noise_8 : decode cX10_noise 8 = .ok (.ifCond .eq 18, 3) := zD153p whX10_noise_0 (p := 8) (v := 18) rfl rfl rfl
theorem dX10_noise_11 : decode cX10_noise 11 = .ok (.aload_n 0, 1) := zD42 whX10_noise_0 (p := 11) rfl
theorem dX10_noise_12 : decode cX10_noise 12 = .ok (.getfield 19, 3) := zD180 whX10_noise_0 (p := 12) rfl rfl
theorem dX10_noise_15 : decode cX10_noise 15 = .ok (.getfield 136, 3) := zD180 whX10_noise_0 (p := 15) rfl rfl
theorem dX10_noise_18 : decode cX10_noise 18 = .ok (.iload_n 1, 1) := zD27 whX10_noise_0 (p := 18) rfl
theorem dX10_noise_19 : decode cX10_noise 19 = .ok (.iload_n 2, 1) := zD28 whX10_noise_0 (p := 19) rfl
theorem dX10_noise_20 : decode cX10_noise 20 = .ok (.invokestatic 158, 3) := zD184 whX10_noise_0 (p := 20) rfl rfl
theorem dX10_noise_23 : decode cX10_noise 23 = .ok (.goto 4, 3) := zD167p whX10_noise_0 (p := 23) (v := 4) rfl rfl rfl
theorem dX10_noise_26 : decode cX10_noise 26 = .ok (.iconst (-1), 1) := zD2 whX10_noise_0 (p := 26) rfl
theorem dX10_noise_27 : decode cX10_noise 27 = .ok (.ireturn, 1) := zD172 whX10_noise_0 (p := 27) rfl
def wlX10_cold_0 : List Nat := [42, 180, 0, 19, 27, 182, 0, 132, 153, 0, 18, 42, 180, 0, 19, 180, 0, 140, 27, 28, 184, 0, 158, 167, 0, 4, 2, 172]
theorem whX10_cold_0 : WLy cX10_cold 0 wlX10_cold_0 := by decide +kernel
theorem dX10_cold_0 : decode cX10_cold 0 = .ok (.aload_n 0, 1) := zD42 whX10_cold_0 (p := 0) rfl
theorem dX10_cold_1 : decode cX10_cold 1 = .ok (.getfield 19, 3) := zD180 whX10_cold_0 (p := 1) rfl rfl
theorem dX10_cold_4 : decode cX10_cold 4 = .ok (.iload_n 1, 1) := zD27 whX10_cold_0 (p := 4) rfl
theorem dX10_cold_5 : decode cX10_cold 5 = .ok (.invokevirtual 132, 3) := zD182 whX10_cold_0 (p := 5) rfl rfl
theorem dX10_cold_8 : decode cX10_cold 8 = .ok (.ifCond .eq 18, 3) := zD153p whX10_cold_0 (p := 8) (v := 18) rfl rfl rfl
theorem dX10_cold_11 : decode cX10_cold 11 = .ok (.aload_n 0, 1) := zD42 whX10_cold_0 (p := 11) rfl
theorem dX10_cold_12 : decode cX10_cold 12 = .ok (.getfield 19, 3) := zD180 whX10_cold_0 (p := 12) rfl rfl
theorem dX10_cold_15 : decode cX10_cold 15 = .ok (.getfield 140, 3) := zD180 whX10_cold_0 (p := 15) rfl rfl
theorem dX10_cold_18 : decode cX10_cold 18 = .ok (.iload_n 1, 1) := zD27 whX10_cold_0 (p := 18) rfl
theorem dX10_cold_19 : decode cX10_cold 19 = .ok (.iload_n 2, 1) := zD28 whX10_cold_0 (p := 19) rfl
theorem dX10_cold_20 : decode cX10_cold 20 = .ok (.invokestatic 158, 3) := zD184 whX10_cold_0 (p := 20) rfl rfl
theorem dX10_cold_23 : decode cX10_cold 23 = .ok (.goto 4, 3) := zD167p whX10_cold_0 (p := 23) (v := 4) rfl rfl rfl
theorem dX10_cold_26 : decode cX10_cold 26 = .ok (.iconst (-1), 1) := zD2 whX10_cold_0 (p := 26) rfl
theorem dX10_cold_27 : decode cX10_cold 27 = .ok (.ireturn, 1) := zD172 whX10_cold_0 (p := 27) rfl
def wlX10_step_0 : List Nat := [42, 180, 0, 19, 27, 182, 0, 146, 153, 0, 18, 42, 180, 0, 19, 180, 0, 152, 27, 28, 184, 0, 158, 167, 0, 4, 2, 172]
theorem whX10_step_0 : WLy cX10_step 0 wlX10_step_0 := by decide +kernel
theorem dX10_step_0 : decode cX10_step 0 = .ok (.aload_n 0, 1) := zD42 whX10_step_0 (p := 0) rfl
theorem dX10_step_1 : decode cX10_step 1 = .ok (.getfield 19, 3) := zD180 whX10_step_0 (p := 1) rfl rfl
theorem dX10_step_4 : decode cX10_step 4 = .ok (.iload_n 1, 1) := zD27 whX10_step_0 (p := 4) rfl
theorem dX10_step_5 : decode cX10_step 5 = .ok (.invokevirtual 146, 3) := zD182 whX10_step_0 (p := 5) rfl rfl
theorem dX10_step_8 : decode cX10_step 8 = .ok (.ifCond .eq 18, 3) := zD153p whX10_step_0 (p := 8) (v := 18) rfl rfl rfl
theorem dX10_step_11 : decode cX10_step 11 = .ok (.aload_n 0, 1) := zD42 whX10_step_0 (p := 11) rfl
theorem dX10_step_12 : decode cX10_step 12 = .ok (.getfield 19, 3) := zD180 whX10_step_0 (p := 12) rfl rfl
theorem dX10_step_15 : decode cX10_step 15 = .ok (.getfield 152, 3) := zD180 whX10_step_0 (p := 15) rfl rfl
theorem dX10_step_18 : decode cX10_step 18 = .ok (.iload_n 1, 1) := zD27 whX10_step_0 (p := 18) rfl
theorem dX10_step_19 : decode cX10_step 19 = .ok (.iload_n 2, 1) := zD28 whX10_step_0 (p := 19) rfl
theorem dX10_step_20 : decode cX10_step 20 = .ok (.invokestatic 158, 3) := zD184 whX10_step_0 (p := 20) rfl rfl
theorem dX10_step_23 : decode cX10_step 23 = .ok (.goto 4, 3) := zD167p whX10_step_0 (p := 23) (v := 4) rfl rfl rfl
theorem dX10_step_26 : decode cX10_step 26 = .ok (.iconst (-1), 1) := zD2 whX10_step_0 (p := 26) rfl
theorem dX10_step_27 : decode cX10_step 27 = .ok (.ireturn, 1) := zD172 whX10_step_0 (p := 27) rfl
def wlX10_warm_0 : List Nat := [42, 180, 0, 19, 27, 182, 0, 146, 153, 0, 18, 42, 180, 0, 19, 180, 0, 155, 27, 28, 184, 0, 158, 167, 0, 4, 2, 172]
theorem whX10_warm_0 : WLy cX10_warm 0 wlX10_warm_0 := by decide +kernel
theorem dX10_warm_0 : decode cX10_warm 0 = .ok (.aload_n 0, 1) := zD42 whX10_warm_0 (p := 0) rfl
theorem dX10_warm_1 : decode cX10_warm 1 = .ok (.getfield 19, 3) := zD180 whX10_warm_0 (p := 1) rfl rfl
theorem dX10_warm_4 : decode cX10_warm 4 = .ok (.iload_n 1, 1) := zD27 whX10_warm_0 (p := 4) rfl
theorem dX10_warm_5 : decode cX10_warm 5 = .ok (.invokevirtual 146, 3) := zD182 whX10_warm_0 (p := 5) rfl rfl
theorem dX10_warm_8 : decode cX10_warm 8 = .ok (.ifCond .eq 18, 3) := zD153p whX10_warm_0 (p := 8) (v := 18) rfl rfl rfl
theorem dX10_warm_11 : decode cX10_warm 11 = .ok (.aload_n 0, 1) := zD42 whX10_warm_0 (p := 11) rfl
theorem dX10_warm_12 : decode cX10_warm 12 = .ok (.getfield 19, 3) := zD180 whX10_warm_0 (p := 12) rfl rfl
theorem dX10_warm_15 : decode cX10_warm 15 = .ok (.getfield 155, 3) := zD180 whX10_warm_0 (p := 15) rfl rfl
theorem dX10_warm_18 : decode cX10_warm 18 = .ok (.iload_n 1, 1) := zD27 whX10_warm_0 (p := 18) rfl
theorem dX10_warm_19 : decode cX10_warm 19 = .ok (.iload_n 2, 1) := zD28 whX10_warm_0 (p := 19) rfl
theorem dX10_warm_20 : decode cX10_warm 20 = .ok (.invokestatic 158, 3) := zD184 whX10_warm_0 (p := 20) rfl rfl
theorem dX10_warm_23 : decode cX10_warm 23 = .ok (.goto 4, 3) := zD167p whX10_warm_0 (p := 23) (v := 4) rfl rfl rfl
theorem dX10_warm_26 : decode cX10_warm 26 = .ok (.iconst (-1), 1) := zD2 whX10_warm_0 (p := 26) rfl
theorem dX10_warm_27 : decode cX10_warm 27 = .ok (.ireturn, 1) := zD172 whX10_warm_0 (p := 27) rfl
def wlX10_put_0 : List Nat := [42, 180, 0, 19, 27, 182, 0, 132, 153, 0, 14, 42, 180, 0, 19, 28, 182, 0, 146, 154, 0, 5, 2, 172, 42, 180, 0, 19, 180, 0, 143, 27]
theorem whX10_put_0 : WLy cX10_put 0 wlX10_put_0 := by decide +kernel
theorem dX10_put_0 : decode cX10_put 0 = .ok (.aload_n 0, 1) := zD42 whX10_put_0 (p := 0) rfl
theorem dX10_put_1 : decode cX10_put 1 = .ok (.getfield 19, 3) := zD180 whX10_put_0 (p := 1) rfl rfl
theorem dX10_put_4 : decode cX10_put 4 = .ok (.iload_n 1, 1) := zD27 whX10_put_0 (p := 4) rfl
theorem dX10_put_5 : decode cX10_put 5 = .ok (.invokevirtual 132, 3) := zD182 whX10_put_0 (p := 5) rfl rfl
theorem dX10_put_8 : decode cX10_put 8 = .ok (.ifCond .eq 14, 3) := zD153p whX10_put_0 (p := 8) (v := 14) rfl rfl rfl
theorem dX10_put_11 : decode cX10_put 11 = .ok (.aload_n 0, 1) := zD42 whX10_put_0 (p := 11) rfl
theorem dX10_put_12 : decode cX10_put 12 = .ok (.getfield 19, 3) := zD180 whX10_put_0 (p := 12) rfl rfl
theorem dX10_put_15 : decode cX10_put 15 = .ok (.iload_n 2, 1) := zD28 whX10_put_0 (p := 15) rfl
theorem dX10_put_16 : decode cX10_put 16 = .ok (.invokevirtual 146, 3) := zD182 whX10_put_0 (p := 16) rfl rfl
theorem dX10_put_19 : decode cX10_put 19 = .ok (.ifCond .ne 5, 3) := zD154p whX10_put_0 (p := 19) (v := 5) rfl rfl rfl
theorem dX10_put_22 : decode cX10_put 22 = .ok (.iconst (-1), 1) := zD2 whX10_put_0 (p := 22) rfl
theorem dX10_put_23 : decode cX10_put 23 = .ok (.ireturn, 1) := zD172 whX10_put_0 (p := 23) rfl
theorem dX10_put_24 : decode cX10_put 24 = .ok (.aload_n 0, 1) := zD42 whX10_put_0 (p := 24) rfl
theorem dX10_put_25 : decode cX10_put 25 = .ok (.getfield 19, 3) := zD180 whX10_put_0 (p := 25) rfl rfl
theorem dX10_put_28 : decode cX10_put 28 = .ok (.getfield 143, 3) := zD180 whX10_put_0 (p := 28) rfl rfl
theorem dX10_put_31 : decode cX10_put 31 = .ok (.iload_n 1, 1) := zD27 whX10_put_0 (p := 31) rfl
def wlX10_put_1 : List Nat := [46, 62, 42, 180, 0, 19, 180, 0, 143, 27, 28, 79, 29, 172]
theorem whX10_put_1 : WLy cX10_put 32 wlX10_put_1 := by decide +kernel
theorem dX10_put_32 : decode cX10_put 32 = .ok (.iaload, 1) := zD46 whX10_put_1 (p := 0) rfl
theorem dX10_put_33 : decode cX10_put 33 = .ok (.istore_n 3, 1) := zD62 whX10_put_1 (p := 1) rfl
theorem dX10_put_34 : decode cX10_put 34 = .ok (.aload_n 0, 1) := zD42 whX10_put_1 (p := 2) rfl
theorem dX10_put_35 : decode cX10_put 35 = .ok (.getfield 19, 3) := zD180 whX10_put_1 (p := 3) rfl rfl
theorem dX10_put_38 : decode cX10_put 38 = .ok (.getfield 143, 3) := zD180 whX10_put_1 (p := 6) rfl rfl
theorem dX10_put_41 : decode cX10_put 41 = .ok (.iload_n 1, 1) := zD27 whX10_put_1 (p := 9) rfl
theorem dX10_put_42 : decode cX10_put 42 = .ok (.iload_n 2, 1) := zD28 whX10_put_1 (p := 10) rfl
theorem dX10_put_43 : decode cX10_put 43 = .ok (.iastore, 1) := zD79 whX10_put_1 (p := 11) rfl
theorem dX10_put_44 : decode cX10_put 44 = .ok (.iload_n 3, 1) := zD29 whX10_put_1 (p := 12) rfl
theorem dX10_put_45 : decode cX10_put 45 = .ok (.ireturn, 1) := zD172 whX10_put_1 (p := 13) rfl
def wlX10_change_0 : List Nat := [28, 155, 0, 19, 28, 16, 9, 163, 0, 13, 27, 155, 0, 9, 27, 42, 190, 161, 0, 5, 2, 172, 42, 27, 46, 62, 42, 27, 28, 79, 29, 172]
theorem whX10_change_0 : WLy cX10_change 0 wlX10_change_0 := by decide +kernel
theorem dX10_change_0 : decode cX10_change 0 = .ok (.iload_n 2, 1) := zD28 whX10_change_0 (p := 0) rfl
theorem dX10_change_1 : decode cX10_change 1 = .ok (.ifCond .lt 19, 3) := zD155p whX10_change_0 (p := 1) (v := 19) rfl rfl rfl
theorem dX10_change_4 : decode cX10_change 4 = .ok (.iload_n 2, 1) := zD28 whX10_change_0 (p := 4) rfl
theorem dX10_change_5 : decode cX10_change 5 = .ok (.bipush 9, 2) := zD16p whX10_change_0 (p := 5) (v := 9) rfl rfl rfl
theorem dX10_change_7 : decode cX10_change 7 = .ok (.if_icmp .gt 13, 3) := zD163p whX10_change_0 (p := 7) (v := 13) rfl rfl rfl
theorem dX10_change_10 : decode cX10_change 10 = .ok (.iload_n 1, 1) := zD27 whX10_change_0 (p := 10) rfl
theorem dX10_change_11 : decode cX10_change 11 = .ok (.ifCond .lt 9, 3) := zD155p whX10_change_0 (p := 11) (v := 9) rfl rfl rfl
theorem dX10_change_14 : decode cX10_change 14 = .ok (.iload_n 1, 1) := zD27 whX10_change_0 (p := 14) rfl
theorem dX10_change_15 : decode cX10_change 15 = .ok (.aload_n 0, 1) := zD42 whX10_change_0 (p := 15) rfl
theorem dX10_change_16 : decode cX10_change 16 = .ok (.arraylength, 1) := zD190 whX10_change_0 (p := 16) rfl
theorem dX10_change_17 : decode cX10_change 17 = .ok (.if_icmp .lt 5, 3) := zD161p whX10_change_0 (p := 17) (v := 5) rfl rfl rfl
theorem dX10_change_20 : decode cX10_change 20 = .ok (.iconst (-1), 1) := zD2 whX10_change_0 (p := 20) rfl
theorem dX10_change_21 : decode cX10_change 21 = .ok (.ireturn, 1) := zD172 whX10_change_0 (p := 21) rfl
theorem dX10_change_22 : decode cX10_change 22 = .ok (.aload_n 0, 1) := zD42 whX10_change_0 (p := 22) rfl
theorem dX10_change_23 : decode cX10_change 23 = .ok (.iload_n 1, 1) := zD27 whX10_change_0 (p := 23) rfl
theorem dX10_change_24 : decode cX10_change 24 = .ok (.iaload, 1) := zD46 whX10_change_0 (p := 24) rfl
theorem dX10_change_25 : decode cX10_change 25 = .ok (.istore_n 3, 1) := zD62 whX10_change_0 (p := 25) rfl
theorem dX10_change_26 : decode cX10_change 26 = .ok (.aload_n 0, 1) := zD42 whX10_change_0 (p := 26) rfl
theorem dX10_change_27 : decode cX10_change 27 = .ok (.iload_n 1, 1) := zD27 whX10_change_0 (p := 27) rfl
theorem dX10_change_28 : decode cX10_change 28 = .ok (.iload_n 2, 1) := zD28 whX10_change_0 (p := 28) rfl
theorem dX10_change_29 : decode cX10_change 29 = .ok (.iastore, 1) := zD79 whX10_change_0 (p := 29) rfl
theorem dX10_change_30 : decode cX10_change 30 = .ok (.iload_n 3, 1) := zD29 whX10_change_0 (p := 30) rfl
theorem dX10_change_31 : decode cX10_change 31 = .ok (.ireturn, 1) := zD172 whX10_change_0 (p := 31) rfl
def wlX10_harm_0 : List Nat := [42, 180, 0, 19, 27, 28, 29, 182, 0, 162, 153, 0, 16, 42, 180, 0, 19, 27, 28, 29, 182, 0, 166, 167, 0, 4, 2, 172]
theorem whX10_harm_0 : WLy cX10_harm 0 wlX10_harm_0 := by decide +kernel
theorem dX10_harm_0 : decode cX10_harm 0 = .ok (.aload_n 0, 1) := zD42 whX10_harm_0 (p := 0) rfl
theorem dX10_harm_1 : decode cX10_harm 1 = .ok (.getfield 19, 3) := zD180 whX10_harm_0 (p := 1) rfl rfl
theorem dX10_harm_4 : decode cX10_harm 4 = .ok (.iload_n 1, 1) := zD27 whX10_harm_0 (p := 4) rfl
theorem dX10_harm_5 : decode cX10_harm 5 = .ok (.iload_n 2, 1) := zD28 whX10_harm_0 (p := 5) rfl
theorem dX10_harm_6 : decode cX10_harm 6 = .ok (.iload_n 3, 1) := zD29 whX10_harm_0 (p := 6) rfl
theorem dX10_harm_7 : decode cX10_harm 7 = .ok (.invokevirtual 162, 3) := zD182 whX10_harm_0 (p := 7) rfl rfl
theorem dX10_harm_10 : decode cX10_harm 10 = .ok (.ifCond .eq 16, 3) := zD153p whX10_harm_0 (p := 10) (v := 16) rfl rfl rfl
theorem dX10_harm_13 : decode cX10_harm 13 = .ok (.aload_n 0, 1) := zD42 whX10_harm_0 (p := 13) rfl
theorem dX10_harm_14 : decode cX10_harm 14 = .ok (.getfield 19, 3) := zD180 whX10_harm_0 (p := 14) rfl rfl
theorem dX10_harm_17 : decode cX10_harm 17 = .ok (.iload_n 1, 1) := zD27 whX10_harm_0 (p := 17) rfl
theorem dX10_harm_18 : decode cX10_harm 18 = .ok (.iload_n 2, 1) := zD28 whX10_harm_0 (p := 18) rfl
theorem dX10_harm_19 : decode cX10_harm 19 = .ok (.iload_n 3, 1) := zD29 whX10_harm_0 (p := 19) rfl
theorem dX10_harm_20 : decode cX10_harm 20 = .ok (.invokevirtual 166, 3) := zD182 whX10_harm_0 (p := 20) rfl rfl
theorem dX10_harm_23 : decode cX10_harm 23 = .ok (.goto 4, 3) := zD167p whX10_harm_0 (p := 23) (v := 4) rfl rfl rfl
theorem dX10_harm_26 : decode cX10_harm 26 = .ok (.iconst (-1), 1) := zD2 whX10_harm_0 (p := 26) rfl
theorem dX10_harm_27 : decode cX10_harm 27 = .ok (.ireturn, 1) := zD172 whX10_harm_0 (p := 27) rfl
def wlX10_wakes_0 : List Nat := [27, 184, 0, 170, 154, 0, 7, 20, 0, 173, 173, 42, 180, 0, 37, 42, 180, 0, 19, 42, 180, 0, 19, 180, 0, 123, 16, 252, 182, 0, 175, 42]
theorem whX10_wakes_0 : WLy cX10_wakes 0 wlX10_wakes_0 := by decide +kernel
theorem dX10_wakes_0 : decode cX10_wakes 0 = .ok (.iload_n 1, 1) := zD27 whX10_wakes_0 (p := 0) rfl
theorem dX10_wakes_1 : decode cX10_wakes 1 = .ok (.invokestatic 170, 3) := zD184 whX10_wakes_0 (p := 1) rfl rfl
theorem dX10_wakes_4 : decode cX10_wakes 4 = .ok (.ifCond .ne 7, 3) := zD154p whX10_wakes_0 (p := 4) (v := 7) rfl rfl rfl
theorem dX10_wakes_7 : decode cX10_wakes 7 = .ok (.ldc2_w 173, 3) := zD20 whX10_wakes_0 (p := 7) rfl rfl
theorem dX10_wakes_10 : decode cX10_wakes 10 = .ok (.lreturn, 1) := zD173 whX10_wakes_0 (p := 10) rfl
theorem dX10_wakes_11 : decode cX10_wakes 11 = .ok (.aload_n 0, 1) := zD42 whX10_wakes_0 (p := 11) rfl
theorem dX10_wakes_12 : decode cX10_wakes 12 = .ok (.getfield 37, 3) := zD180 whX10_wakes_0 (p := 12) rfl rfl
theorem dX10_wakes_15 : decode cX10_wakes 15 = .ok (.aload_n 0, 1) := zD42 whX10_wakes_0 (p := 15) rfl
theorem dX10_wakes_16 : decode cX10_wakes 16 = .ok (.getfield 19, 3) := zD180 whX10_wakes_0 (p := 16) rfl rfl
theorem dX10_wakes_19 : decode cX10_wakes 19 = .ok (.aload_n 0, 1) := zD42 whX10_wakes_0 (p := 19) rfl
theorem dX10_wakes_20 : decode cX10_wakes 20 = .ok (.getfield 19, 3) := zD180 whX10_wakes_0 (p := 20) rfl rfl
theorem dX10_wakes_23 : decode cX10_wakes 23 = .ok (.getfield 123, 3) := zD180 whX10_wakes_0 (p := 23) rfl rfl
theorem dX10_wakes_26 : decode cX10_wakes 26 = .ok (.bipush (-4), 2) := zD16n whX10_wakes_0 (p := 26) (v := 4) rfl rfl rfl
theorem dX10_wakes_28 : decode cX10_wakes 28 = .ok (.invokevirtual 175, 3) := zD182 whX10_wakes_0 (p := 28) rfl rfl
theorem dX10_wakes_31 : decode cX10_wakes 31 = .ok (.aload_n 0, 1) := zD42 whX10_wakes_0 (p := 31) rfl
def wlX10_wakes_1 : List Nat := [180, 0, 37, 180, 0, 179, 27, 184, 0, 183, 173]
theorem whX10_wakes_1 : WLy cX10_wakes 32 wlX10_wakes_1 := by decide +kernel
theorem dX10_wakes_32 : decode cX10_wakes 32 = .ok (.getfield 37, 3) := zD180 whX10_wakes_1 (p := 0) rfl rfl
theorem dX10_wakes_35 : decode cX10_wakes 35 = .ok (.getfield 179, 3) := zD180 whX10_wakes_1 (p := 3) rfl rfl
theorem dX10_wakes_38 : decode cX10_wakes 38 = .ok (.iload_n 1, 1) := zD27 whX10_wakes_1 (p := 6) rfl
theorem dX10_wakes_39 : decode cX10_wakes 39 = .ok (.invokestatic 183, 3) := zD184 whX10_wakes_1 (p := 7) rfl rfl
theorem dX10_wakes_42 : decode cX10_wakes 42 = .ok (.lreturn, 1) := zD173 whX10_wakes_1 (p := 10) rfl
def wlX10_awake_0 : List Nat := [42, 27, 3, 28, 182, 0, 187, 173]
theorem whX10_awake_0 : WLy cX10_awake 0 wlX10_awake_0 := by decide +kernel
theorem dX10_awake_0 : decode cX10_awake 0 = .ok (.aload_n 0, 1) := zD42 whX10_awake_0 (p := 0) rfl
theorem dX10_awake_1 : decode cX10_awake 1 = .ok (.iload_n 1, 1) := zD27 whX10_awake_0 (p := 1) rfl
theorem dX10_awake_2 : decode cX10_awake 2 = .ok (.iconst 0, 1) := zD3 whX10_awake_0 (p := 2) rfl
theorem dX10_awake_3 : decode cX10_awake 3 = .ok (.iload_n 2, 1) := zD28 whX10_awake_0 (p := 3) rfl
theorem dX10_awake_4 : decode cX10_awake 4 = .ok (.invokevirtual 187, 3) := zD182 whX10_awake_0 (p := 4) rfl rfl
theorem dX10_awake_7 : decode cX10_awake 7 = .ok (.lreturn, 1) := zD173 whX10_awake_0 (p := 7) rfl
def wlX10_depth_0 : List Nat := [42, 180, 0, 19, 27, 182, 0, 132, 153, 0, 17, 28, 184, 0, 191, 153, 0, 10, 29, 184, 0, 170, 154, 0, 7, 20, 0, 173, 173, 42, 180, 0, 37]
theorem whX10_depth_0 : WLy cX10_depth 0 wlX10_depth_0 := by decide +kernel
theorem dX10_depth_0 : decode cX10_depth 0 = .ok (.aload_n 0, 1) := zD42 whX10_depth_0 (p := 0) rfl
theorem dX10_depth_1 : decode cX10_depth 1 = .ok (.getfield 19, 3) := zD180 whX10_depth_0 (p := 1) rfl rfl
theorem dX10_depth_4 : decode cX10_depth 4 = .ok (.iload_n 1, 1) := zD27 whX10_depth_0 (p := 4) rfl
theorem dX10_depth_5 : decode cX10_depth 5 = .ok (.invokevirtual 132, 3) := zD182 whX10_depth_0 (p := 5) rfl rfl
theorem dX10_depth_8 : decode cX10_depth 8 = .ok (.ifCond .eq 17, 3) := zD153p whX10_depth_0 (p := 8) (v := 17) rfl rfl rfl
theorem dX10_depth_11 : decode cX10_depth 11 = .ok (.iload_n 2, 1) := zD28 whX10_depth_0 (p := 11) rfl
theorem dX10_depth_12 : decode cX10_depth 12 = .ok (.invokestatic 191, 3) := zD184 whX10_depth_0 (p := 12) rfl rfl
theorem dX10_depth_15 : decode cX10_depth 15 = .ok (.ifCond .eq 10, 3) := zD153p whX10_depth_0 (p := 15) (v := 10) rfl rfl rfl
theorem dX10_depth_18 : decode cX10_depth 18 = .ok (.iload_n 3, 1) := zD29 whX10_depth_0 (p := 18) rfl
theorem dX10_depth_19 : decode cX10_depth 19 = .ok (.invokestatic 170, 3) := zD184 whX10_depth_0 (p := 19) rfl rfl
theorem dX10_depth_22 : decode cX10_depth 22 = .ok (.ifCond .ne 7, 3) := zD154p whX10_depth_0 (p := 22) (v := 7) rfl rfl rfl
theorem dX10_depth_25 : decode cX10_depth 25 = .ok (.ldc2_w 173, 3) := zD20 whX10_depth_0 (p := 25) rfl rfl
theorem dX10_depth_28 : decode cX10_depth 28 = .ok (.lreturn, 1) := zD173 whX10_depth_0 (p := 28) rfl
theorem dX10_depth_29 : decode cX10_depth 29 = .ok (.aload_n 0, 1) := zD42 whX10_depth_0 (p := 29) rfl
theorem dX10_depth_30 : decode cX10_depth 30 = .ok (.getfield 37, 3) := zD180 whX10_depth_0 (p := 30) rfl rfl
def wlX10_depth_1 : List Nat := [42, 180, 0, 19, 27, 4, 96, 16, 252, 182, 0, 175, 88, 42, 180, 0, 37, 180, 0, 194, 28, 47, 42, 180, 0, 37, 180, 0, 179, 29, 184, 0, 183]
theorem whX10_depth_1 : WLy cX10_depth 33 wlX10_depth_1 := by decide +kernel
theorem dX10_depth_33 : decode cX10_depth 33 = .ok (.aload_n 0, 1) := zD42 whX10_depth_1 (p := 0) rfl
theorem dX10_depth_34 : decode cX10_depth 34 = .ok (.getfield 19, 3) := zD180 whX10_depth_1 (p := 1) rfl rfl
theorem dX10_depth_37 : decode cX10_depth 37 = .ok (.iload_n 1, 1) := zD27 whX10_depth_1 (p := 4) rfl
theorem dX10_depth_38 : decode cX10_depth 38 = .ok (.iconst 1, 1) := zD4 whX10_depth_1 (p := 5) rfl
theorem dX10_depth_39 : decode cX10_depth 39 = .ok (.iadd, 1) := zD96 whX10_depth_1 (p := 6) rfl
theorem dX10_depth_40 : decode cX10_depth 40 = .ok (.bipush (-4), 2) := zD16n whX10_depth_1 (p := 7) (v := 4) rfl rfl rfl
theorem dX10_depth_42 : decode cX10_depth 42 = .ok (.invokevirtual 175, 3) := zD182 whX10_depth_1 (p := 9) rfl rfl
theorem dX10_depth_45 : decode cX10_depth 45 = .ok (.pop2, 1) := zD88 whX10_depth_1 (p := 12) rfl
theorem dX10_depth_46 : decode cX10_depth 46 = .ok (.aload_n 0, 1) := zD42 whX10_depth_1 (p := 13) rfl
theorem dX10_depth_47 : decode cX10_depth 47 = .ok (.getfield 37, 3) := zD180 whX10_depth_1 (p := 14) rfl rfl
theorem dX10_depth_50 : decode cX10_depth 50 = .ok (.getfield 194, 3) := zD180 whX10_depth_1 (p := 17) rfl rfl
theorem dX10_depth_53 : decode cX10_depth 53 = .ok (.iload_n 2, 1) := zD28 whX10_depth_1 (p := 20) rfl
theorem dX10_depth_54 : decode cX10_depth 54 = .ok (.laload, 1) := zD47 whX10_depth_1 (p := 21) rfl
theorem dX10_depth_55 : decode cX10_depth 55 = .ok (.aload_n 0, 1) := zD42 whX10_depth_1 (p := 22) rfl
theorem dX10_depth_56 : decode cX10_depth 56 = .ok (.getfield 37, 3) := zD180 whX10_depth_1 (p := 23) rfl rfl
theorem dX10_depth_59 : decode cX10_depth 59 = .ok (.getfield 179, 3) := zD180 whX10_depth_1 (p := 26) rfl rfl
theorem dX10_depth_62 : decode cX10_depth 62 = .ok (.iload_n 3, 1) := zD29 whX10_depth_1 (p := 29) rfl
theorem dX10_depth_63 : decode cX10_depth 63 = .ok (.invokestatic 183, 3) := zD184 whX10_depth_1 (p := 30) rfl rfl
def wlX10_depth_2 : List Nat := [173]
theorem whX10_depth_2 : WLy cX10_depth 66 wlX10_depth_2 := by decide +kernel
theorem dX10_depth_66 : decode cX10_depth 66 = .ok (.lreturn, 1) := zD173 whX10_depth_2 (p := 0) rfl
def wlX10_best_0 : List Nat := [27, 184, 0, 170, 154, 0, 7, 20, 0, 173, 173, 42, 180, 0, 44, 42, 180, 0, 19, 16, 252, 182, 0, 198, 42, 180, 0, 44, 42, 180, 0, 19]
theorem whX10_best_0 : WLy cX10_best 0 wlX10_best_0 := by decide +kernel
theorem dX10_best_0 : decode cX10_best 0 = .ok (.iload_n 1, 1) := zD27 whX10_best_0 (p := 0) rfl
theorem dX10_best_1 : decode cX10_best 1 = .ok (.invokestatic 170, 3) := zD184 whX10_best_0 (p := 1) rfl rfl
theorem dX10_best_4 : decode cX10_best 4 = .ok (.ifCond .ne 7, 3) := zD154p whX10_best_0 (p := 4) (v := 7) rfl rfl rfl
theorem dX10_best_7 : decode cX10_best 7 = .ok (.ldc2_w 173, 3) := zD20 whX10_best_0 (p := 7) rfl rfl
theorem dX10_best_10 : decode cX10_best 10 = .ok (.lreturn, 1) := zD173 whX10_best_0 (p := 10) rfl
theorem dX10_best_11 : decode cX10_best 11 = .ok (.aload_n 0, 1) := zD42 whX10_best_0 (p := 11) rfl
theorem dX10_best_12 : decode cX10_best 12 = .ok (.getfield 44, 3) := zD180 whX10_best_0 (p := 12) rfl rfl
theorem dX10_best_15 : decode cX10_best 15 = .ok (.aload_n 0, 1) := zD42 whX10_best_0 (p := 15) rfl
theorem dX10_best_16 : decode cX10_best 16 = .ok (.getfield 19, 3) := zD180 whX10_best_0 (p := 16) rfl rfl
theorem dX10_best_19 : decode cX10_best 19 = .ok (.bipush (-4), 2) := zD16n whX10_best_0 (p := 19) (v := 4) rfl rfl rfl
theorem dX10_best_21 : decode cX10_best 21 = .ok (.invokevirtual 198, 3) := zD182 whX10_best_0 (p := 21) rfl rfl
theorem dX10_best_24 : decode cX10_best 24 = .ok (.aload_n 0, 1) := zD42 whX10_best_0 (p := 24) rfl
theorem dX10_best_25 : decode cX10_best 25 = .ok (.getfield 44, 3) := zD180 whX10_best_0 (p := 25) rfl rfl
theorem dX10_best_28 : decode cX10_best 28 = .ok (.aload_n 0, 1) := zD42 whX10_best_0 (p := 28) rfl
theorem dX10_best_29 : decode cX10_best 29 = .ok (.getfield 19, 3) := zD180 whX10_best_0 (p := 29) rfl rfl
def wlX10_best_1 : List Nat := [182, 0, 202, 42, 180, 0, 44, 180, 0, 206, 27, 184, 0, 183, 173]
theorem whX10_best_1 : WLy cX10_best 32 wlX10_best_1 := by decide +kernel
theorem dX10_best_32 : decode cX10_best 32 = .ok (.invokevirtual 202, 3) := zD182 whX10_best_1 (p := 0) rfl rfl
theorem dX10_best_35 : decode cX10_best 35 = .ok (.aload_n 0, 1) := zD42 whX10_best_1 (p := 3) rfl
theorem dX10_best_36 : decode cX10_best 36 = .ok (.getfield 44, 3) := zD180 whX10_best_1 (p := 4) rfl rfl
theorem dX10_best_39 : decode cX10_best 39 = .ok (.getfield 206, 3) := zD180 whX10_best_1 (p := 7) rfl rfl
theorem dX10_best_42 : decode cX10_best 42 = .ok (.iload_n 1, 1) := zD27 whX10_best_1 (p := 10) rfl
theorem dX10_best_43 : decode cX10_best 43 = .ok (.invokestatic 183, 3) := zD184 whX10_best_1 (p := 11) rfl rfl
theorem dX10_best_46 : decode cX10_best 46 = .ok (.lreturn, 1) := zD173 whX10_best_1 (p := 14) rfl
def wlX10_next_0 : List Nat := [28, 16, 252, 160, 0, 11, 27, 154, 0, 7, 4, 167, 0, 4, 3, 54, 4, 42, 180, 0, 19, 27, 182, 0, 132, 153, 0, 30, 21, 4, 154, 0, 14]
theorem whX10_next_0 : WLy cX10_next 0 wlX10_next_0 := by decide +kernel
theorem dX10_next_0 : decode cX10_next 0 = .ok (.iload_n 2, 1) := zD28 whX10_next_0 (p := 0) rfl
theorem dX10_next_1 : decode cX10_next 1 = .ok (.bipush (-4), 2) := zD16n whX10_next_0 (p := 1) (v := 4) rfl rfl rfl
theorem dX10_next_3 : decode cX10_next 3 = .ok (.if_icmp .ne 11, 3) := zD160p whX10_next_0 (p := 3) (v := 11) rfl rfl rfl
theorem dX10_next_6 : decode cX10_next 6 = .ok (.iload_n 1, 1) := zD27 whX10_next_0 (p := 6) rfl
theorem dX10_next_7 : decode cX10_next 7 = .ok (.ifCond .ne 7, 3) := zD154p whX10_next_0 (p := 7) (v := 7) rfl rfl rfl
theorem dX10_next_10 : decode cX10_next 10 = .ok (.iconst 1, 1) := zD4 whX10_next_0 (p := 10) rfl
theorem dX10_next_11 : decode cX10_next 11 = .ok (.goto 4, 3) := zD167p whX10_next_0 (p := 11) (v := 4) rfl rfl rfl
theorem dX10_next_14 : decode cX10_next 14 = .ok (.iconst 0, 1) := zD3 whX10_next_0 (p := 14) rfl
theorem dX10_next_15 : decode cX10_next 15 = .ok (.istore 4, 2) := zD54 whX10_next_0 (p := 15) rfl
theorem dX10_next_17 : decode cX10_next 17 = .ok (.aload_n 0, 1) := zD42 whX10_next_0 (p := 17) rfl
theorem dX10_next_18 : decode cX10_next 18 = .ok (.getfield 19, 3) := zD180 whX10_next_0 (p := 18) rfl rfl
theorem dX10_next_21 : decode cX10_next 21 = .ok (.iload_n 1, 1) := zD27 whX10_next_0 (p := 21) rfl
theorem dX10_next_22 : decode cX10_next 22 = .ok (.invokevirtual 132, 3) := zD182 whX10_next_0 (p := 22) rfl rfl
theorem dX10_next_25 : decode cX10_next 25 = .ok (.ifCond .eq 30, 3) := zD153p whX10_next_0 (p := 25) (v := 30) rfl rfl rfl
theorem dX10_next_28 : decode cX10_next 28 = .ok (.iload 4, 2) := zD21 whX10_next_0 (p := 28) rfl
theorem dX10_next_30 : decode cX10_next 30 = .ok (.ifCond .ne 14, 3) := zD154p whX10_next_0 (p := 30) (v := 14) rfl rfl rfl
def wlX10_next_1 : List Nat := [42, 180, 0, 19, 28, 182, 0, 146, 153, 0, 14, 29, 4, 161, 0, 9, 29, 16, 9, 164, 0, 5, 2, 172, 42, 180, 0, 44, 42, 180, 0, 19]
theorem whX10_next_1 : WLy cX10_next 33 wlX10_next_1 := by decide +kernel
theorem dX10_next_33 : decode cX10_next 33 = .ok (.aload_n 0, 1) := zD42 whX10_next_1 (p := 0) rfl
theorem dX10_next_34 : decode cX10_next 34 = .ok (.getfield 19, 3) := zD180 whX10_next_1 (p := 1) rfl rfl
theorem dX10_next_37 : decode cX10_next 37 = .ok (.iload_n 2, 1) := zD28 whX10_next_1 (p := 4) rfl
theorem dX10_next_38 : decode cX10_next 38 = .ok (.invokevirtual 146, 3) := zD182 whX10_next_1 (p := 5) rfl rfl
theorem dX10_next_41 : decode cX10_next 41 = .ok (.ifCond .eq 14, 3) := zD153p whX10_next_1 (p := 8) (v := 14) rfl rfl rfl
theorem dX10_next_44 : decode cX10_next 44 = .ok (.iload_n 3, 1) := zD29 whX10_next_1 (p := 11) rfl
theorem dX10_next_45 : decode cX10_next 45 = .ok (.iconst 1, 1) := zD4 whX10_next_1 (p := 12) rfl
theorem dX10_next_46 : decode cX10_next 46 = .ok (.if_icmp .lt 9, 3) := zD161p whX10_next_1 (p := 13) (v := 9) rfl rfl rfl
theorem dX10_next_49 : decode cX10_next 49 = .ok (.iload_n 3, 1) := zD29 whX10_next_1 (p := 16) rfl
theorem dX10_next_50 : decode cX10_next 50 = .ok (.bipush 9, 2) := zD16p whX10_next_1 (p := 17) (v := 9) rfl rfl rfl
theorem dX10_next_52 : decode cX10_next 52 = .ok (.if_icmp .le 5, 3) := zD164p whX10_next_1 (p := 19) (v := 5) rfl rfl rfl
theorem dX10_next_55 : decode cX10_next 55 = .ok (.iconst (-1), 1) := zD2 whX10_next_1 (p := 22) rfl
theorem dX10_next_56 : decode cX10_next 56 = .ok (.ireturn, 1) := zD172 whX10_next_1 (p := 23) rfl
theorem dX10_next_57 : decode cX10_next 57 = .ok (.aload_n 0, 1) := zD42 whX10_next_1 (p := 24) rfl
theorem dX10_next_58 : decode cX10_next 58 = .ok (.getfield 44, 3) := zD180 whX10_next_1 (p := 25) rfl rfl
theorem dX10_next_61 : decode cX10_next 61 = .ok (.aload_n 0, 1) := zD42 whX10_next_1 (p := 28) rfl
theorem dX10_next_62 : decode cX10_next 62 = .ok (.getfield 19, 3) := zD180 whX10_next_1 (p := 29) rfl rfl
def wlX10_next_2 : List Nat := [16, 252, 182, 0, 198, 42, 180, 0, 44, 180, 0, 207, 27, 50, 28, 29, 184, 0, 211, 46, 172]
theorem whX10_next_2 : WLy cX10_next 65 wlX10_next_2 := by decide +kernel
theorem dX10_next_65 : decode cX10_next 65 = .ok (.bipush (-4), 2) := zD16n whX10_next_2 (p := 0) (v := 4) rfl rfl rfl
theorem dX10_next_67 : decode cX10_next 67 = .ok (.invokevirtual 198, 3) := zD182 whX10_next_2 (p := 2) rfl rfl
theorem dX10_next_70 : decode cX10_next 70 = .ok (.aload_n 0, 1) := zD42 whX10_next_2 (p := 5) rfl
theorem dX10_next_71 : decode cX10_next 71 = .ok (.getfield 44, 3) := zD180 whX10_next_2 (p := 6) rfl rfl
theorem dX10_next_74 : decode cX10_next 74 = .ok (.getfield 207, 3) := zD180 whX10_next_2 (p := 9) rfl rfl
theorem dX10_next_77 : decode cX10_next 77 = .ok (.iload_n 1, 1) := zD27 whX10_next_2 (p := 12) rfl
theorem dX10_next_78 : decode cX10_next 78 = .ok (.aaload, 1) := zD50 whX10_next_2 (p := 13) rfl
theorem dX10_next_79 : decode cX10_next 79 = .ok (.iload_n 2, 1) := zD28 whX10_next_2 (p := 14) rfl
theorem dX10_next_80 : decode cX10_next 80 = .ok (.iload_n 3, 1) := zD29 whX10_next_2 (p := 15) rfl
theorem dX10_next_81 : decode cX10_next 81 = .ok (.invokestatic 211, 3) := zD184 whX10_next_2 (p := 16) rfl rfl
theorem dX10_next_84 : decode cX10_next 84 = .ok (.iaload, 1) := zD46 whX10_next_2 (p := 19) rfl
theorem dX10_next_85 : decode cX10_next 85 = .ok (.ireturn, 1) := zD172 whX10_next_2 (p := 20) rfl
def wlX10_without_0 : List Nat := [42, 180, 0, 19, 27, 182, 0, 146, 153, 0, 10, 28, 184, 0, 170, 154, 0, 7, 20, 0, 173, 173, 42, 180, 0, 19, 180, 0, 126, 5, 162, 0, 7]
theorem whX10_without_0 : WLy cX10_without 0 wlX10_without_0 := by decide +kernel
theorem dX10_without_0 : decode cX10_without 0 = .ok (.aload_n 0, 1) := zD42 whX10_without_0 (p := 0) rfl
theorem dX10_without_1 : decode cX10_without 1 = .ok (.getfield 19, 3) := zD180 whX10_without_0 (p := 1) rfl rfl
theorem dX10_without_4 : decode cX10_without 4 = .ok (.iload_n 1, 1) := zD27 whX10_without_0 (p := 4) rfl
theorem dX10_without_5 : decode cX10_without 5 = .ok (.invokevirtual 146, 3) := zD182 whX10_without_0 (p := 5) rfl rfl
theorem dX10_without_8 : decode cX10_without 8 = .ok (.ifCond .eq 10, 3) := zD153p whX10_without_0 (p := 8) (v := 10) rfl rfl rfl
theorem dX10_without_11 : decode cX10_without 11 = .ok (.iload_n 2, 1) := zD28 whX10_without_0 (p := 11) rfl
theorem dX10_without_12 : decode cX10_without 12 = .ok (.invokestatic 170, 3) := zD184 whX10_without_0 (p := 12) rfl rfl
theorem dX10_without_15 : decode cX10_without 15 = .ok (.ifCond .ne 7, 3) := zD154p whX10_without_0 (p := 15) (v := 7) rfl rfl rfl
theorem dX10_without_18 : decode cX10_without 18 = .ok (.ldc2_w 173, 3) := zD20 whX10_without_0 (p := 18) rfl rfl
theorem dX10_without_21 : decode cX10_without 21 = .ok (.lreturn, 1) := zD173 whX10_without_0 (p := 21) rfl
theorem dX10_without_22 : decode cX10_without 22 = .ok (.aload_n 0, 1) := zD42 whX10_without_0 (p := 22) rfl
theorem dX10_without_23 : decode cX10_without 23 = .ok (.getfield 19, 3) := zD180 whX10_without_0 (p := 23) rfl rfl
theorem dX10_without_26 : decode cX10_without 26 = .ok (.getfield 126, 3) := zD180 whX10_without_0 (p := 26) rfl rfl
theorem dX10_without_29 : decode cX10_without 29 = .ok (.iconst 2, 1) := zD5 whX10_without_0 (p := 29) rfl
theorem dX10_without_30 : decode cX10_without 30 = .ok (.if_icmp .ge 7, 3) := zD162p whX10_without_0 (p := 30) (v := 7) rfl rfl rfl
def wlX10_without_1 : List Nat := [20, 0, 215, 173, 42, 180, 0, 44, 42, 180, 0, 19, 27, 182, 0, 198, 42, 180, 0, 44, 42, 180, 0, 19, 182, 0, 202, 42, 180, 0, 44, 180, 0, 206]
theorem whX10_without_1 : WLy cX10_without 33 wlX10_without_1 := by decide +kernel
theorem dX10_without_33 : decode cX10_without 33 = .ok (.ldc2_w 215, 3) := zD20 whX10_without_1 (p := 0) rfl rfl
theorem dX10_without_36 : decode cX10_without 36 = .ok (.lreturn, 1) := zD173 whX10_without_1 (p := 3) rfl
theorem dX10_without_37 : decode cX10_without 37 = .ok (.aload_n 0, 1) := zD42 whX10_without_1 (p := 4) rfl
theorem dX10_without_38 : decode cX10_without 38 = .ok (.getfield 44, 3) := zD180 whX10_without_1 (p := 5) rfl rfl
theorem dX10_without_41 : decode cX10_without 41 = .ok (.aload_n 0, 1) := zD42 whX10_without_1 (p := 8) rfl
theorem dX10_without_42 : decode cX10_without 42 = .ok (.getfield 19, 3) := zD180 whX10_without_1 (p := 9) rfl rfl
theorem dX10_without_45 : decode cX10_without 45 = .ok (.iload_n 1, 1) := zD27 whX10_without_1 (p := 12) rfl
theorem dX10_without_46 : decode cX10_without 46 = .ok (.invokevirtual 198, 3) := zD182 whX10_without_1 (p := 13) rfl rfl
theorem dX10_without_49 : decode cX10_without 49 = .ok (.aload_n 0, 1) := zD42 whX10_without_1 (p := 16) rfl
theorem dX10_without_50 : decode cX10_without 50 = .ok (.getfield 44, 3) := zD180 whX10_without_1 (p := 17) rfl rfl
theorem dX10_without_53 : decode cX10_without 53 = .ok (.aload_n 0, 1) := zD42 whX10_without_1 (p := 20) rfl
theorem dX10_without_54 : decode cX10_without 54 = .ok (.getfield 19, 3) := zD180 whX10_without_1 (p := 21) rfl rfl
theorem dX10_without_57 : decode cX10_without 57 = .ok (.invokevirtual 202, 3) := zD182 whX10_without_1 (p := 24) rfl rfl
theorem dX10_without_60 : decode cX10_without 60 = .ok (.aload_n 0, 1) := zD42 whX10_without_1 (p := 27) rfl
theorem dX10_without_61 : decode cX10_without 61 = .ok (.getfield 44, 3) := zD180 whX10_without_1 (p := 28) rfl rfl
theorem dX10_without_64 : decode cX10_without 64 = .ok (.getfield 206, 3) := zD180 whX10_without_1 (p := 31) rfl rfl
def wlX10_without_2 : List Nat := [28, 184, 0, 183, 173]
theorem whX10_without_2 : WLy cX10_without 67 wlX10_without_2 := by decide +kernel
theorem dX10_without_67 : decode cX10_without 67 = .ok (.iload_n 2, 1) := zD28 whX10_without_2 (p := 0) rfl
theorem dX10_without_68 : decode cX10_without 68 = .ok (.invokestatic 183, 3) := zD184 whX10_without_2 (p := 1) rfl rfl
theorem dX10_without_71 : decode cX10_without 71 = .ok (.lreturn, 1) := zD173 whX10_without_2 (p := 4) rfl
def wlX10_quiet_0 : List Nat := [27, 155, 0, 15, 27, 7, 163, 0, 10, 28, 184, 0, 217, 154, 0, 7, 20, 0, 173, 173, 42, 180, 0, 23, 42, 180, 0, 19, 182, 0, 112, 42]
theorem whX10_quiet_0 : WLy cX10_quiet 0 wlX10_quiet_0 := by decide +kernel
theorem dX10_quiet_0 : decode cX10_quiet 0 = .ok (.iload_n 1, 1) := zD27 whX10_quiet_0 (p := 0) rfl
theorem dX10_quiet_1 : decode cX10_quiet 1 = .ok (.ifCond .lt 15, 3) := zD155p whX10_quiet_0 (p := 1) (v := 15) rfl rfl rfl
theorem dX10_quiet_4 : decode cX10_quiet 4 = .ok (.iload_n 1, 1) := zD27 whX10_quiet_0 (p := 4) rfl
theorem dX10_quiet_5 : decode cX10_quiet 5 = .ok (.iconst 4, 1) := zD7 whX10_quiet_0 (p := 5) rfl
theorem dX10_quiet_6 : decode cX10_quiet 6 = .ok (.if_icmp .gt 10, 3) := zD163p whX10_quiet_0 (p := 6) (v := 10) rfl rfl rfl
theorem dX10_quiet_9 : decode cX10_quiet 9 = .ok (.iload_n 2, 1) := zD28 whX10_quiet_0 (p := 9) rfl
theorem dX10_quiet_10 : decode cX10_quiet 10 = .ok (.invokestatic 217, 3) := zD184 whX10_quiet_0 (p := 10) rfl rfl
theorem dX10_quiet_13 : decode cX10_quiet 13 = .ok (.ifCond .ne 7, 3) := zD154p whX10_quiet_0 (p := 13) (v := 7) rfl rfl rfl
theorem dX10_quiet_16 : decode cX10_quiet 16 = .ok (.ldc2_w 173, 3) := zD20 whX10_quiet_0 (p := 16) rfl rfl
theorem dX10_quiet_19 : decode cX10_quiet 19 = .ok (.lreturn, 1) := zD173 whX10_quiet_0 (p := 19) rfl
theorem dX10_quiet_20 : decode cX10_quiet 20 = .ok (.aload_n 0, 1) := zD42 whX10_quiet_0 (p := 20) rfl
theorem dX10_quiet_21 : decode cX10_quiet 21 = .ok (.getfield 23, 3) := zD180 whX10_quiet_0 (p := 21) rfl rfl
theorem dX10_quiet_24 : decode cX10_quiet 24 = .ok (.aload_n 0, 1) := zD42 whX10_quiet_0 (p := 24) rfl
theorem dX10_quiet_25 : decode cX10_quiet 25 = .ok (.getfield 19, 3) := zD180 whX10_quiet_0 (p := 25) rfl rfl
theorem dX10_quiet_28 : decode cX10_quiet 28 = .ok (.invokevirtual 112, 3) := zD182 whX10_quiet_0 (p := 28) rfl rfl
theorem dX10_quiet_31 : decode cX10_quiet 31 = .ok (.aload_n 0, 1) := zD42 whX10_quiet_0 (p := 31) rfl
def wlX10_quiet_1 : List Nat := [180, 0, 37, 42, 180, 0, 19, 42, 180, 0, 19, 180, 0, 123, 16, 252, 182, 0, 175, 66, 3, 54, 5, 4, 54, 6, 21, 6, 4, 42, 180, 0, 19]
theorem whX10_quiet_1 : WLy cX10_quiet 32 wlX10_quiet_1 := by decide +kernel
theorem dX10_quiet_32 : decode cX10_quiet 32 = .ok (.getfield 37, 3) := zD180 whX10_quiet_1 (p := 0) rfl rfl
theorem dX10_quiet_35 : decode cX10_quiet 35 = .ok (.aload_n 0, 1) := zD42 whX10_quiet_1 (p := 3) rfl
theorem dX10_quiet_36 : decode cX10_quiet 36 = .ok (.getfield 19, 3) := zD180 whX10_quiet_1 (p := 4) rfl rfl
theorem dX10_quiet_39 : decode cX10_quiet 39 = .ok (.aload_n 0, 1) := zD42 whX10_quiet_1 (p := 7) rfl
theorem dX10_quiet_40 : decode cX10_quiet 40 = .ok (.getfield 19, 3) := zD180 whX10_quiet_1 (p := 8) rfl rfl
theorem dX10_quiet_43 : decode cX10_quiet 43 = .ok (.getfield 123, 3) := zD180 whX10_quiet_1 (p := 11) rfl rfl
theorem dX10_quiet_46 : decode cX10_quiet 46 = .ok (.bipush (-4), 2) := zD16n whX10_quiet_1 (p := 14) (v := 4) rfl rfl rfl
theorem dX10_quiet_48 : decode cX10_quiet 48 = .ok (.invokevirtual 175, 3) := zD182 whX10_quiet_1 (p := 16) rfl rfl
theorem dX10_quiet_51 : decode cX10_quiet 51 = .ok (.lstore_n 3, 1) := zD66 whX10_quiet_1 (p := 19) rfl
theorem dX10_quiet_52 : decode cX10_quiet 52 = .ok (.iconst 0, 1) := zD3 whX10_quiet_1 (p := 20) rfl
theorem dX10_quiet_53 : decode cX10_quiet 53 = .ok (.istore 5, 2) := zD54 whX10_quiet_1 (p := 21) rfl
theorem dX10_quiet_55 : decode cX10_quiet 55 = .ok (.iconst 1, 1) := zD4 whX10_quiet_1 (p := 23) rfl
theorem dX10_quiet_56 : decode cX10_quiet 56 = .ok (.istore 6, 2) := zD54 whX10_quiet_1 (p := 24) rfl
theorem dX10_quiet_58 : decode cX10_quiet 58 = .ok (.iload 6, 2) := zD21 whX10_quiet_1 (p := 26) rfl
theorem dX10_quiet_60 : decode cX10_quiet 60 = .ok (.iconst 1, 1) := zD4 whX10_quiet_1 (p := 28) rfl
theorem dX10_quiet_61 : decode cX10_quiet 61 = .ok (.aload_n 0, 1) := zD42 whX10_quiet_1 (p := 29) rfl
theorem dX10_quiet_62 : decode cX10_quiet 62 = .ok (.getfield 19, 3) := zD180 whX10_quiet_1 (p := 30) rfl rfl
def wlX10_quiet_2 : List Nat := [180, 0, 123, 120, 162, 0, 84, 21, 6, 184, 0, 220, 54, 7, 21, 7, 27, 164, 0, 6, 167, 0, 62, 42, 21, 6, 182, 0, 226, 42, 180, 0, 37]
theorem whX10_quiet_2 : WLy cX10_quiet 65 wlX10_quiet_2 := by decide +kernel
theorem dX10_quiet_65 : decode cX10_quiet 65 = .ok (.getfield 123, 3) := zD180 whX10_quiet_2 (p := 0) rfl rfl
theorem dX10_quiet_68 : decode cX10_quiet 68 = .ok (.ishl, 1) := zD120 whX10_quiet_2 (p := 3) rfl
theorem dX10_quiet_69 : decode cX10_quiet 69 = .ok (.if_icmp .ge 84, 3) := zD162p whX10_quiet_2 (p := 4) (v := 84) rfl rfl rfl
theorem dX10_quiet_72 : decode cX10_quiet 72 = .ok (.iload 6, 2) := zD21 whX10_quiet_2 (p := 7) rfl
theorem dX10_quiet_74 : decode cX10_quiet 74 = .ok (.invokestatic 220, 3) := zD184 whX10_quiet_2 (p := 9) rfl rfl
theorem dX10_quiet_77 : decode cX10_quiet 77 = .ok (.istore 7, 2) := zD54 whX10_quiet_2 (p := 12) rfl
theorem dX10_quiet_79 : decode cX10_quiet 79 = .ok (.iload 7, 2) := zD21 whX10_quiet_2 (p := 14) rfl
theorem dX10_quiet_81 : decode cX10_quiet 81 = .ok (.iload_n 1, 1) := zD27 whX10_quiet_2 (p := 16) rfl
theorem dX10_quiet_82 : decode cX10_quiet 82 = .ok (.if_icmp .le 6, 3) := zD164p whX10_quiet_2 (p := 17) (v := 6) rfl rfl rfl
theorem dX10_quiet_85 : decode cX10_quiet 85 = .ok (.goto 62, 3) := zD167p whX10_quiet_2 (p := 20) (v := 62) rfl rfl rfl
theorem dX10_quiet_88 : decode cX10_quiet 88 = .ok (.aload_n 0, 1) := zD42 whX10_quiet_2 (p := 23) rfl
theorem dX10_quiet_89 : decode cX10_quiet 89 = .ok (.iload 6, 2) := zD21 whX10_quiet_2 (p := 24) rfl
theorem dX10_quiet_91 : decode cX10_quiet 91 = .ok (.invokevirtual 226, 3) := zD182 whX10_quiet_2 (p := 26) rfl rfl
theorem dX10_quiet_94 : decode cX10_quiet 94 = .ok (.aload_n 0, 1) := zD42 whX10_quiet_2 (p := 29) rfl
theorem dX10_quiet_95 : decode cX10_quiet 95 = .ok (.getfield 37, 3) := zD180 whX10_quiet_2 (p := 30) rfl rfl
def wlX10_quiet_3 : List Nat := [42, 180, 0, 23, 42, 180, 0, 23, 180, 0, 123, 16, 252, 182, 0, 175, 55, 8, 22, 8, 33, 148, 155, 0, 20, 22, 8, 33, 148, 154, 0, 20]
theorem whX10_quiet_3 : WLy cX10_quiet 98 wlX10_quiet_3 := by decide +kernel
theorem dX10_quiet_98 : decode cX10_quiet 98 = .ok (.aload_n 0, 1) := zD42 whX10_quiet_3 (p := 0) rfl
theorem dX10_quiet_99 : decode cX10_quiet 99 = .ok (.getfield 23, 3) := zD180 whX10_quiet_3 (p := 1) rfl rfl
theorem dX10_quiet_102 : decode cX10_quiet 102 = .ok (.aload_n 0, 1) := zD42 whX10_quiet_3 (p := 4) rfl
theorem dX10_quiet_103 : decode cX10_quiet 103 = .ok (.getfield 23, 3) := zD180 whX10_quiet_3 (p := 5) rfl rfl
theorem dX10_quiet_106 : decode cX10_quiet 106 = .ok (.getfield 123, 3) := zD180 whX10_quiet_3 (p := 8) rfl rfl
theorem dX10_quiet_109 : decode cX10_quiet 109 = .ok (.bipush (-4), 2) := zD16n whX10_quiet_3 (p := 11) (v := 4) rfl rfl rfl
theorem dX10_quiet_111 : decode cX10_quiet 111 = .ok (.invokevirtual 175, 3) := zD182 whX10_quiet_3 (p := 13) rfl rfl
theorem dX10_quiet_114 : decode cX10_quiet 114 = .ok (.lstore 8, 2) := zD55 whX10_quiet_3 (p := 16) rfl
theorem dX10_quiet_116 : decode cX10_quiet 116 = .ok (.lload 8, 2) := zD22 whX10_quiet_3 (p := 18) rfl
theorem dX10_quiet_118 : decode cX10_quiet 118 = .ok (.lload_n 3, 1) := zD33 whX10_quiet_3 (p := 20) rfl
theorem dX10_quiet_119 : decode cX10_quiet 119 = .ok (.lcmp, 1) := zD148 whX10_quiet_3 (p := 21) rfl
theorem dX10_quiet_120 : decode cX10_quiet 120 = .ok (.ifCond .lt 20, 3) := zD155p whX10_quiet_3 (p := 22) (v := 20) rfl rfl rfl
theorem dX10_quiet_123 : decode cX10_quiet 123 = .ok (.lload 8, 2) := zD22 whX10_quiet_3 (p := 25) rfl
theorem dX10_quiet_125 : decode cX10_quiet 125 = .ok (.lload_n 3, 1) := zD33 whX10_quiet_3 (p := 27) rfl
theorem dX10_quiet_126 : decode cX10_quiet 126 = .ok (.lcmp, 1) := zD148 whX10_quiet_3 (p := 28) rfl
theorem dX10_quiet_127 : decode cX10_quiet 127 = .ok (.ifCond .ne 20, 3) := zD154p whX10_quiet_3 (p := 29) (v := 20) rfl rfl rfl
def wlX10_quiet_4 : List Nat := [21, 7, 21, 5, 184, 0, 220, 162, 0, 10, 22, 8, 66, 21, 6, 54, 5, 132, 6, 1, 167, 255, 164, 28, 5, 160, 0, 9, 21, 5, 133, 167, 0, 15]
theorem whX10_quiet_4 : WLy cX10_quiet 130 wlX10_quiet_4 := by decide +kernel
theorem dX10_quiet_130 : decode cX10_quiet 130 = .ok (.iload 7, 2) := zD21 whX10_quiet_4 (p := 0) rfl
theorem dX10_quiet_132 : decode cX10_quiet 132 = .ok (.iload 5, 2) := zD21 whX10_quiet_4 (p := 2) rfl
theorem dX10_quiet_134 : decode cX10_quiet 134 = .ok (.invokestatic 220, 3) := zD184 whX10_quiet_4 (p := 4) rfl rfl
theorem dX10_quiet_137 : decode cX10_quiet 137 = .ok (.if_icmp .ge 10, 3) := zD162p whX10_quiet_4 (p := 7) (v := 10) rfl rfl rfl
theorem dX10_quiet_140 : decode cX10_quiet 140 = .ok (.lload 8, 2) := zD22 whX10_quiet_4 (p := 10) rfl
theorem dX10_quiet_142 : decode cX10_quiet 142 = .ok (.lstore_n 3, 1) := zD66 whX10_quiet_4 (p := 12) rfl
theorem dX10_quiet_143 : decode cX10_quiet 143 = .ok (.iload 6, 2) := zD21 whX10_quiet_4 (p := 13) rfl
theorem dX10_quiet_145 : decode cX10_quiet 145 = .ok (.istore 5, 2) := zD54 whX10_quiet_4 (p := 15) rfl
theorem dX10_quiet_147 : decode cX10_quiet 147 = .ok (.iinc 6 1, 3) := zD132p whX10_quiet_4 (p := 17) (v := 1) rfl rfl rfl
theorem dX10_quiet_150 : decode cX10_quiet 150 = .ok (.goto (-92), 3) := zD167n whX10_quiet_4 (p := 20) (v := 92) rfl rfl rfl
theorem dX10_quiet_153 : decode cX10_quiet 153 = .ok (.iload_n 2, 1) := zD28 whX10_quiet_4 (p := 23) rfl
theorem dX10_quiet_154 : decode cX10_quiet 154 = .ok (.iconst 2, 1) := zD5 whX10_quiet_4 (p := 24) rfl
theorem dX10_quiet_155 : decode cX10_quiet 155 = .ok (.if_icmp .ne 9, 3) := zD160p whX10_quiet_4 (p := 25) (v := 9) rfl rfl rfl
theorem dX10_quiet_158 : decode cX10_quiet 158 = .ok (.iload 5, 2) := zD21 whX10_quiet_4 (p := 28) rfl
theorem dX10_quiet_160 : decode cX10_quiet 160 = .ok (.i2l, 1) := zD133 whX10_quiet_4 (p := 30) rfl
theorem dX10_quiet_161 : decode cX10_quiet 161 = .ok (.goto 15, 3) := zD167p whX10_quiet_4 (p := 31) (v := 15) rfl rfl rfl
def wlX10_quiet_5 : List Nat := [33, 42, 180, 0, 37, 180, 0, 179, 28, 184, 0, 183, 173]
theorem whX10_quiet_5 : WLy cX10_quiet 164 wlX10_quiet_5 := by decide +kernel
theorem dX10_quiet_164 : decode cX10_quiet 164 = .ok (.lload_n 3, 1) := zD33 whX10_quiet_5 (p := 0) rfl
theorem dX10_quiet_165 : decode cX10_quiet 165 = .ok (.aload_n 0, 1) := zD42 whX10_quiet_5 (p := 1) rfl
theorem dX10_quiet_166 : decode cX10_quiet 166 = .ok (.getfield 37, 3) := zD180 whX10_quiet_5 (p := 2) rfl rfl
theorem dX10_quiet_169 : decode cX10_quiet 169 = .ok (.getfield 179, 3) := zD180 whX10_quiet_5 (p := 5) rfl rfl
theorem dX10_quiet_172 : decode cX10_quiet 172 = .ok (.iload_n 2, 1) := zD28 whX10_quiet_5 (p := 8) rfl
theorem dX10_quiet_173 : decode cX10_quiet 173 = .ok (.invokestatic 183, 3) := zD184 whX10_quiet_5 (p := 9) rfl rfl
theorem dX10_quiet_176 : decode cX10_quiet 176 = .ok (.lreturn, 1) := zD173 whX10_quiet_5 (p := 12) rfl
def wlX10_stopNoises_0 : List Nat := [3, 61, 28, 42, 180, 0, 19, 180, 0, 123, 162, 0, 40, 42, 180, 0, 23, 180, 0, 136, 28, 27, 28, 122, 4, 126, 4, 160, 0, 7, 3, 167, 0, 12]
theorem whX10_stopNoises_0 : WLy cX10_stopNoises 0 wlX10_stopNoises_0 := by decide +kernel
theorem dX10_stopNoises_0 : decode cX10_stopNoises 0 = .ok (.iconst 0, 1) := zD3 whX10_stopNoises_0 (p := 0) rfl
theorem dX10_stopNoises_1 : decode cX10_stopNoises 1 = .ok (.istore_n 2, 1) := zD61 whX10_stopNoises_0 (p := 1) rfl
theorem dX10_stopNoises_2 : decode cX10_stopNoises 2 = .ok (.iload_n 2, 1) := zD28 whX10_stopNoises_0 (p := 2) rfl
theorem dX10_stopNoises_3 : decode cX10_stopNoises 3 = .ok (.aload_n 0, 1) := zD42 whX10_stopNoises_0 (p := 3) rfl
theorem dX10_stopNoises_4 : decode cX10_stopNoises 4 = .ok (.getfield 19, 3) := zD180 whX10_stopNoises_0 (p := 4) rfl rfl
theorem dX10_stopNoises_7 : decode cX10_stopNoises 7 = .ok (.getfield 123, 3) := zD180 whX10_stopNoises_0 (p := 7) rfl rfl
theorem dX10_stopNoises_10 : decode cX10_stopNoises 10 = .ok (.if_icmp .ge 40, 3) := zD162p whX10_stopNoises_0 (p := 10) (v := 40) rfl rfl rfl
theorem dX10_stopNoises_13 : decode cX10_stopNoises 13 = .ok (.aload_n 0, 1) := zD42 whX10_stopNoises_0 (p := 13) rfl
theorem dX10_stopNoises_14 : decode cX10_stopNoises 14 = .ok (.getfield 23, 3) := zD180 whX10_stopNoises_0 (p := 14) rfl rfl
theorem dX10_stopNoises_17 : decode cX10_stopNoises 17 = .ok (.getfield 136, 3) := zD180 whX10_stopNoises_0 (p := 17) rfl rfl
theorem dX10_stopNoises_20 : decode cX10_stopNoises 20 = .ok (.iload_n 2, 1) := zD28 whX10_stopNoises_0 (p := 20) rfl
theorem dX10_stopNoises_21 : decode cX10_stopNoises 21 = .ok (.iload_n 1, 1) := zD27 whX10_stopNoises_0 (p := 21) rfl
theorem dX10_stopNoises_22 : decode cX10_stopNoises 22 = .ok (.iload_n 2, 1) := zD28 whX10_stopNoises_0 (p := 22) rfl
theorem dX10_stopNoises_23 : decode cX10_stopNoises 23 = .ok (.ishr, 1) := zD122 whX10_stopNoises_0 (p := 23) rfl
theorem dX10_stopNoises_24 : decode cX10_stopNoises 24 = .ok (.iconst 1, 1) := zD4 whX10_stopNoises_0 (p := 24) rfl
theorem dX10_stopNoises_25 : decode cX10_stopNoises 25 = .ok (.iand, 1) := zD126 whX10_stopNoises_0 (p := 25) rfl
theorem dX10_stopNoises_26 : decode cX10_stopNoises 26 = .ok (.iconst 1, 1) := zD4 whX10_stopNoises_0 (p := 26) rfl
theorem dX10_stopNoises_27 : decode cX10_stopNoises 27 = .ok (.if_icmp .ne 7, 3) := zD160p whX10_stopNoises_0 (p := 27) (v := 7) rfl rfl rfl
theorem dX10_stopNoises_30 : decode cX10_stopNoises 30 = .ok (.iconst 0, 1) := zD3 whX10_stopNoises_0 (p := 30) rfl
theorem dX10_stopNoises_31 : decode cX10_stopNoises 31 = .ok (.goto 12, 3) := zD167p whX10_stopNoises_0 (p := 31) (v := 12) rfl rfl rfl
def wlX10_stopNoises_1 : List Nat := [42, 180, 0, 19, 180, 0, 136, 28, 46, 79, 132, 2, 1, 167, 255, 211, 177]
theorem whX10_stopNoises_1 : WLy cX10_stopNoises 34 wlX10_stopNoises_1 := by decide +kernel
theorem dX10_stopNoises_34 : decode cX10_stopNoises 34 = .ok (.aload_n 0, 1) := zD42 whX10_stopNoises_1 (p := 0) rfl
theorem dX10_stopNoises_35 : decode cX10_stopNoises 35 = .ok (.getfield 19, 3) := zD180 whX10_stopNoises_1 (p := 1) rfl rfl
theorem dX10_stopNoises_38 : decode cX10_stopNoises 38 = .ok (.getfield 136, 3) := zD180 whX10_stopNoises_1 (p := 4) rfl rfl
theorem dX10_stopNoises_41 : decode cX10_stopNoises 41 = .ok (.iload_n 2, 1) := zD28 whX10_stopNoises_1 (p := 7) rfl
theorem dX10_stopNoises_42 : decode cX10_stopNoises 42 = .ok (.iaload, 1) := zD46 whX10_stopNoises_1 (p := 8) rfl
theorem dX10_stopNoises_43 : decode cX10_stopNoises 43 = .ok (.iastore, 1) := zD79 whX10_stopNoises_1 (p := 9) rfl
theorem dX10_stopNoises_44 : decode cX10_stopNoises 44 = .ok (.iinc 2 1, 3) := zD132p whX10_stopNoises_1 (p := 10) (v := 1) rfl rfl rfl
theorem dX10_stopNoises_47 : decode cX10_stopNoises 47 = .ok (.goto (-45), 3) := zD167n whX10_stopNoises_1 (p := 13) (v := 45) rfl rfl rfl
theorem dX10_stopNoises_50 : decode cX10_stopNoises 50 = .ok (.return_, 1) := zD177 whX10_stopNoises_1 (p := 16) rfl
def wlX10_drop_0 : List Nat := [27, 184, 0, 217, 154, 0, 7, 20, 0, 173, 173, 42, 180, 0, 19, 180, 0, 123, 154, 0, 7, 20, 0, 215, 173, 42, 180, 0, 37, 42, 180, 0, 19]
theorem whX10_drop_0 : WLy cX10_drop 0 wlX10_drop_0 := by decide +kernel
theorem dX10_drop_0 : decode cX10_drop 0 = .ok (.iload_n 1, 1) := zD27 whX10_drop_0 (p := 0) rfl
theorem dX10_drop_1 : decode cX10_drop 1 = .ok (.invokestatic 217, 3) := zD184 whX10_drop_0 (p := 1) rfl rfl
theorem dX10_drop_4 : decode cX10_drop 4 = .ok (.ifCond .ne 7, 3) := zD154p whX10_drop_0 (p := 4) (v := 7) rfl rfl rfl
theorem dX10_drop_7 : decode cX10_drop 7 = .ok (.ldc2_w 173, 3) := zD20 whX10_drop_0 (p := 7) rfl rfl
theorem dX10_drop_10 : decode cX10_drop 10 = .ok (.lreturn, 1) := zD173 whX10_drop_0 (p := 10) rfl
theorem dX10_drop_11 : decode cX10_drop 11 = .ok (.aload_n 0, 1) := zD42 whX10_drop_0 (p := 11) rfl
theorem dX10_drop_12 : decode cX10_drop 12 = .ok (.getfield 19, 3) := zD180 whX10_drop_0 (p := 12) rfl rfl
theorem dX10_drop_15 : decode cX10_drop 15 = .ok (.getfield 123, 3) := zD180 whX10_drop_0 (p := 15) rfl rfl
theorem dX10_drop_18 : decode cX10_drop 18 = .ok (.ifCond .ne 7, 3) := zD154p whX10_drop_0 (p := 18) (v := 7) rfl rfl rfl
theorem dX10_drop_21 : decode cX10_drop 21 = .ok (.ldc2_w 215, 3) := zD20 whX10_drop_0 (p := 21) rfl rfl
theorem dX10_drop_24 : decode cX10_drop 24 = .ok (.lreturn, 1) := zD173 whX10_drop_0 (p := 24) rfl
theorem dX10_drop_25 : decode cX10_drop 25 = .ok (.aload_n 0, 1) := zD42 whX10_drop_0 (p := 25) rfl
theorem dX10_drop_26 : decode cX10_drop 26 = .ok (.getfield 37, 3) := zD180 whX10_drop_0 (p := 26) rfl rfl
theorem dX10_drop_29 : decode cX10_drop 29 = .ok (.aload_n 0, 1) := zD42 whX10_drop_0 (p := 29) rfl
theorem dX10_drop_30 : decode cX10_drop 30 = .ok (.getfield 19, 3) := zD180 whX10_drop_0 (p := 30) rfl rfl
def wlX10_drop_1 : List Nat := [42, 180, 0, 19, 180, 0, 123, 3, 182, 0, 175, 65, 3, 54, 4, 4, 54, 5, 21, 5, 42, 180, 0, 19, 180, 0, 123, 162, 0, 45, 42, 180, 0, 37]
theorem whX10_drop_1 : WLy cX10_drop 33 wlX10_drop_1 := by decide +kernel
theorem dX10_drop_33 : decode cX10_drop 33 = .ok (.aload_n 0, 1) := zD42 whX10_drop_1 (p := 0) rfl
theorem dX10_drop_34 : decode cX10_drop 34 = .ok (.getfield 19, 3) := zD180 whX10_drop_1 (p := 1) rfl rfl
theorem dX10_drop_37 : decode cX10_drop 37 = .ok (.getfield 123, 3) := zD180 whX10_drop_1 (p := 4) rfl rfl
theorem dX10_drop_40 : decode cX10_drop 40 = .ok (.iconst 0, 1) := zD3 whX10_drop_1 (p := 7) rfl
theorem dX10_drop_41 : decode cX10_drop 41 = .ok (.invokevirtual 175, 3) := zD182 whX10_drop_1 (p := 8) rfl rfl
theorem dX10_drop_44 : decode cX10_drop 44 = .ok (.lstore_n 2, 1) := zD65 whX10_drop_1 (p := 11) rfl
theorem dX10_drop_45 : decode cX10_drop 45 = .ok (.iconst 0, 1) := zD3 whX10_drop_1 (p := 12) rfl
theorem dX10_drop_46 : decode cX10_drop 46 = .ok (.istore 4, 2) := zD54 whX10_drop_1 (p := 13) rfl
theorem dX10_drop_48 : decode cX10_drop 48 = .ok (.iconst 1, 1) := zD4 whX10_drop_1 (p := 15) rfl
theorem dX10_drop_49 : decode cX10_drop 49 = .ok (.istore 5, 2) := zD54 whX10_drop_1 (p := 16) rfl
theorem dX10_drop_51 : decode cX10_drop 51 = .ok (.iload 5, 2) := zD21 whX10_drop_1 (p := 18) rfl
theorem dX10_drop_53 : decode cX10_drop 53 = .ok (.aload_n 0, 1) := zD42 whX10_drop_1 (p := 20) rfl
theorem dX10_drop_54 : decode cX10_drop 54 = .ok (.getfield 19, 3) := zD180 whX10_drop_1 (p := 21) rfl rfl
theorem dX10_drop_57 : decode cX10_drop 57 = .ok (.getfield 123, 3) := zD180 whX10_drop_1 (p := 24) rfl rfl
theorem dX10_drop_60 : decode cX10_drop 60 = .ok (.if_icmp .ge 45, 3) := zD162p whX10_drop_1 (p := 27) (v := 45) rfl rfl rfl
theorem dX10_drop_63 : decode cX10_drop 63 = .ok (.aload_n 0, 1) := zD42 whX10_drop_1 (p := 30) rfl
theorem dX10_drop_64 : decode cX10_drop 64 = .ok (.getfield 37, 3) := zD180 whX10_drop_1 (p := 31) rfl rfl
def wlX10_drop_2 : List Nat := [42, 180, 0, 19, 42, 180, 0, 19, 180, 0, 123, 21, 5, 182, 0, 175, 55, 6, 22, 6, 32, 148, 156, 0, 10, 22, 6, 65, 21, 5, 54, 4]
theorem whX10_drop_2 : WLy cX10_drop 67 wlX10_drop_2 := by decide +kernel
theorem dX10_drop_67 : decode cX10_drop 67 = .ok (.aload_n 0, 1) := zD42 whX10_drop_2 (p := 0) rfl
theorem dX10_drop_68 : decode cX10_drop 68 = .ok (.getfield 19, 3) := zD180 whX10_drop_2 (p := 1) rfl rfl
theorem dX10_drop_71 : decode cX10_drop 71 = .ok (.aload_n 0, 1) := zD42 whX10_drop_2 (p := 4) rfl
theorem dX10_drop_72 : decode cX10_drop 72 = .ok (.getfield 19, 3) := zD180 whX10_drop_2 (p := 5) rfl rfl
theorem dX10_drop_75 : decode cX10_drop 75 = .ok (.getfield 123, 3) := zD180 whX10_drop_2 (p := 8) rfl rfl
theorem dX10_drop_78 : decode cX10_drop 78 = .ok (.iload 5, 2) := zD21 whX10_drop_2 (p := 11) rfl
theorem dX10_drop_80 : decode cX10_drop 80 = .ok (.invokevirtual 175, 3) := zD182 whX10_drop_2 (p := 13) rfl rfl
theorem dX10_drop_83 : decode cX10_drop 83 = .ok (.lstore 6, 2) := zD55 whX10_drop_2 (p := 16) rfl
theorem dX10_drop_85 : decode cX10_drop 85 = .ok (.lload 6, 2) := zD22 whX10_drop_2 (p := 18) rfl
theorem dX10_drop_87 : decode cX10_drop 87 = .ok (.lload_n 2, 1) := zD32 whX10_drop_2 (p := 20) rfl
theorem dX10_drop_88 : decode cX10_drop 88 = .ok (.lcmp, 1) := zD148 whX10_drop_2 (p := 21) rfl
theorem dX10_drop_89 : decode cX10_drop 89 = .ok (.ifCond .ge 10, 3) := zD156p whX10_drop_2 (p := 22) (v := 10) rfl rfl rfl
theorem dX10_drop_92 : decode cX10_drop 92 = .ok (.lload 6, 2) := zD22 whX10_drop_2 (p := 25) rfl
theorem dX10_drop_94 : decode cX10_drop 94 = .ok (.lstore_n 2, 1) := zD65 whX10_drop_2 (p := 27) rfl
theorem dX10_drop_95 : decode cX10_drop 95 = .ok (.iload 5, 2) := zD21 whX10_drop_2 (p := 28) rfl
theorem dX10_drop_97 : decode cX10_drop 97 = .ok (.istore 4, 2) := zD54 whX10_drop_2 (p := 30) rfl
def wlX10_drop_3 : List Nat := [132, 5, 1, 167, 255, 205, 27, 5, 160, 0, 9, 21, 4, 133, 167, 0, 15, 32, 42, 180, 0, 37, 180, 0, 179, 27, 184, 0, 183, 173]
theorem whX10_drop_3 : WLy cX10_drop 99 wlX10_drop_3 := by decide +kernel
theorem dX10_drop_99 : decode cX10_drop 99 = .ok (.iinc 5 1, 3) := zD132p whX10_drop_3 (p := 0) (v := 1) rfl rfl rfl
theorem dX10_drop_102 : decode cX10_drop 102 = .ok (.goto (-51), 3) := zD167n whX10_drop_3 (p := 3) (v := 51) rfl rfl rfl
theorem dX10_drop_105 : decode cX10_drop 105 = .ok (.iload_n 1, 1) := zD27 whX10_drop_3 (p := 6) rfl
theorem dX10_drop_106 : decode cX10_drop 106 = .ok (.iconst 2, 1) := zD5 whX10_drop_3 (p := 7) rfl
theorem dX10_drop_107 : decode cX10_drop 107 = .ok (.if_icmp .ne 9, 3) := zD160p whX10_drop_3 (p := 8) (v := 9) rfl rfl rfl
theorem dX10_drop_110 : decode cX10_drop 110 = .ok (.iload 4, 2) := zD21 whX10_drop_3 (p := 11) rfl
theorem dX10_drop_112 : decode cX10_drop 112 = .ok (.i2l, 1) := zD133 whX10_drop_3 (p := 13) rfl
theorem dX10_drop_113 : decode cX10_drop 113 = .ok (.goto 15, 3) := zD167p whX10_drop_3 (p := 14) (v := 15) rfl rfl rfl
theorem dX10_drop_116 : decode cX10_drop 116 = .ok (.lload_n 2, 1) := zD32 whX10_drop_3 (p := 17) rfl
theorem dX10_drop_117 : decode cX10_drop 117 = .ok (.aload_n 0, 1) := zD42 whX10_drop_3 (p := 18) rfl
theorem dX10_drop_118 : decode cX10_drop 118 = .ok (.getfield 37, 3) := zD180 whX10_drop_3 (p := 19) rfl rfl
theorem dX10_drop_121 : decode cX10_drop 121 = .ok (.getfield 179, 3) := zD180 whX10_drop_3 (p := 22) rfl rfl
theorem dX10_drop_124 : decode cX10_drop 124 = .ok (.iload_n 1, 1) := zD27 whX10_drop_3 (p := 25) rfl
theorem dX10_drop_125 : decode cX10_drop 125 = .ok (.invokestatic 183, 3) := zD184 whX10_drop_3 (p := 26) rfl rfl
theorem dX10_drop_128 : decode cX10_drop 128 = .ok (.lreturn, 1) := zD173 whX10_drop_3 (p := 29) rfl
def wlX10_swap_0 : List Nat := [27, 184, 0, 217, 154, 0, 7, 20, 0, 173, 173, 42, 180, 0, 23, 42, 180, 0, 19, 182, 0, 112, 42, 180, 0, 37, 42, 180, 0, 19, 42, 180, 0, 19]
theorem whX10_swap_0 : WLy cX10_swap 0 wlX10_swap_0 := by decide +kernel
theorem dX10_swap_0 : decode cX10_swap 0 = .ok (.iload_n 1, 1) := zD27 whX10_swap_0 (p := 0) rfl
theorem dX10_swap_1 : decode cX10_swap 1 = .ok (.invokestatic 217, 3) := zD184 whX10_swap_0 (p := 1) rfl rfl
theorem dX10_swap_4 : decode cX10_swap 4 = .ok (.ifCond .ne 7, 3) := zD154p whX10_swap_0 (p := 4) (v := 7) rfl rfl rfl
theorem dX10_swap_7 : decode cX10_swap 7 = .ok (.ldc2_w 173, 3) := zD20 whX10_swap_0 (p := 7) rfl rfl
theorem dX10_swap_10 : decode cX10_swap 10 = .ok (.lreturn, 1) := zD173 whX10_swap_0 (p := 10) rfl
theorem dX10_swap_11 : decode cX10_swap 11 = .ok (.aload_n 0, 1) := zD42 whX10_swap_0 (p := 11) rfl
theorem dX10_swap_12 : decode cX10_swap 12 = .ok (.getfield 23, 3) := zD180 whX10_swap_0 (p := 12) rfl rfl
theorem dX10_swap_15 : decode cX10_swap 15 = .ok (.aload_n 0, 1) := zD42 whX10_swap_0 (p := 15) rfl
theorem dX10_swap_16 : decode cX10_swap 16 = .ok (.getfield 19, 3) := zD180 whX10_swap_0 (p := 16) rfl rfl
theorem dX10_swap_19 : decode cX10_swap 19 = .ok (.invokevirtual 112, 3) := zD182 whX10_swap_0 (p := 19) rfl rfl
theorem dX10_swap_22 : decode cX10_swap 22 = .ok (.aload_n 0, 1) := zD42 whX10_swap_0 (p := 22) rfl
theorem dX10_swap_23 : decode cX10_swap 23 = .ok (.getfield 37, 3) := zD180 whX10_swap_0 (p := 23) rfl rfl
theorem dX10_swap_26 : decode cX10_swap 26 = .ok (.aload_n 0, 1) := zD42 whX10_swap_0 (p := 26) rfl
theorem dX10_swap_27 : decode cX10_swap 27 = .ok (.getfield 19, 3) := zD180 whX10_swap_0 (p := 27) rfl rfl
theorem dX10_swap_30 : decode cX10_swap 30 = .ok (.aload_n 0, 1) := zD42 whX10_swap_0 (p := 30) rfl
theorem dX10_swap_31 : decode cX10_swap 31 = .ok (.getfield 19, 3) := zD180 whX10_swap_0 (p := 31) rfl rfl
def wlX10_swap_1 : List Nat := [180, 0, 123, 16, 252, 182, 0, 175, 65, 16, 252, 54, 4, 3, 54, 5, 21, 5, 42, 180, 0, 19, 180, 0, 123, 162, 0, 97, 21, 5, 4, 96]
theorem whX10_swap_1 : WLy cX10_swap 34 wlX10_swap_1 := by decide +kernel
theorem dX10_swap_34 : decode cX10_swap 34 = .ok (.getfield 123, 3) := zD180 whX10_swap_1 (p := 0) rfl rfl
theorem dX10_swap_37 : decode cX10_swap 37 = .ok (.bipush (-4), 2) := zD16n whX10_swap_1 (p := 3) (v := 4) rfl rfl rfl
theorem dX10_swap_39 : decode cX10_swap 39 = .ok (.invokevirtual 175, 3) := zD182 whX10_swap_1 (p := 5) rfl rfl
theorem dX10_swap_42 : decode cX10_swap 42 = .ok (.lstore_n 2, 1) := zD65 whX10_swap_1 (p := 8) rfl
theorem dX10_swap_43 : decode cX10_swap 43 = .ok (.bipush (-4), 2) := zD16n whX10_swap_1 (p := 9) (v := 4) rfl rfl rfl
theorem dX10_swap_45 : decode cX10_swap 45 = .ok (.istore 4, 2) := zD54 whX10_swap_1 (p := 11) rfl
theorem dX10_swap_47 : decode cX10_swap 47 = .ok (.iconst 0, 1) := zD3 whX10_swap_1 (p := 13) rfl
theorem dX10_swap_48 : decode cX10_swap 48 = .ok (.istore 5, 2) := zD54 whX10_swap_1 (p := 14) rfl
theorem dX10_swap_50 : decode cX10_swap 50 = .ok (.iload 5, 2) := zD21 whX10_swap_1 (p := 16) rfl
theorem dX10_swap_52 : decode cX10_swap 52 = .ok (.aload_n 0, 1) := zD42 whX10_swap_1 (p := 18) rfl
theorem dX10_swap_53 : decode cX10_swap 53 = .ok (.getfield 19, 3) := zD180 whX10_swap_1 (p := 19) rfl rfl
theorem dX10_swap_56 : decode cX10_swap 56 = .ok (.getfield 123, 3) := zD180 whX10_swap_1 (p := 22) rfl rfl
theorem dX10_swap_59 : decode cX10_swap 59 = .ok (.if_icmp .ge 97, 3) := zD162p whX10_swap_1 (p := 25) (v := 97) rfl rfl rfl
theorem dX10_swap_62 : decode cX10_swap 62 = .ok (.iload 5, 2) := zD21 whX10_swap_1 (p := 28) rfl
theorem dX10_swap_64 : decode cX10_swap 64 = .ok (.iconst 1, 1) := zD4 whX10_swap_1 (p := 30) rfl
theorem dX10_swap_65 : decode cX10_swap 65 = .ok (.iadd, 1) := zD96 whX10_swap_1 (p := 31) rfl
def wlX10_swap_2 : List Nat := [54, 6, 21, 6, 42, 180, 0, 19, 180, 0, 123, 162, 0, 73, 42, 180, 0, 23, 21, 5, 21, 6, 182, 0, 230, 42, 180, 0, 37, 42, 180, 0, 23]
theorem whX10_swap_2 : WLy cX10_swap 66 wlX10_swap_2 := by decide +kernel
theorem dX10_swap_66 : decode cX10_swap 66 = .ok (.istore 6, 2) := zD54 whX10_swap_2 (p := 0) rfl
theorem dX10_swap_68 : decode cX10_swap 68 = .ok (.iload 6, 2) := zD21 whX10_swap_2 (p := 2) rfl
theorem dX10_swap_70 : decode cX10_swap 70 = .ok (.aload_n 0, 1) := zD42 whX10_swap_2 (p := 4) rfl
theorem dX10_swap_71 : decode cX10_swap 71 = .ok (.getfield 19, 3) := zD180 whX10_swap_2 (p := 5) rfl rfl
theorem dX10_swap_74 : decode cX10_swap 74 = .ok (.getfield 123, 3) := zD180 whX10_swap_2 (p := 8) rfl rfl
theorem dX10_swap_77 : decode cX10_swap 77 = .ok (.if_icmp .ge 73, 3) := zD162p whX10_swap_2 (p := 11) (v := 73) rfl rfl rfl
theorem dX10_swap_80 : decode cX10_swap 80 = .ok (.aload_n 0, 1) := zD42 whX10_swap_2 (p := 14) rfl
theorem dX10_swap_81 : decode cX10_swap 81 = .ok (.getfield 23, 3) := zD180 whX10_swap_2 (p := 15) rfl rfl
theorem dX10_swap_84 : decode cX10_swap 84 = .ok (.iload 5, 2) := zD21 whX10_swap_2 (p := 18) rfl
theorem dX10_swap_86 : decode cX10_swap 86 = .ok (.iload 6, 2) := zD21 whX10_swap_2 (p := 20) rfl
theorem dX10_swap_88 : decode cX10_swap 88 = .ok (.invokevirtual 230, 3) := zD182 whX10_swap_2 (p := 22) rfl rfl
theorem dX10_swap_91 : decode cX10_swap 91 = .ok (.aload_n 0, 1) := zD42 whX10_swap_2 (p := 25) rfl
theorem dX10_swap_92 : decode cX10_swap 92 = .ok (.getfield 37, 3) := zD180 whX10_swap_2 (p := 26) rfl rfl
theorem dX10_swap_95 : decode cX10_swap 95 = .ok (.aload_n 0, 1) := zD42 whX10_swap_2 (p := 29) rfl
theorem dX10_swap_96 : decode cX10_swap 96 = .ok (.getfield 23, 3) := zD180 whX10_swap_2 (p := 30) rfl rfl
def wlX10_swap_3 : List Nat := [42, 180, 0, 23, 180, 0, 123, 16, 252, 182, 0, 175, 55, 7, 42, 180, 0, 23, 21, 5, 21, 6, 182, 0, 230, 22, 7, 32, 148, 156, 0, 16]
theorem whX10_swap_3 : WLy cX10_swap 99 wlX10_swap_3 := by decide +kernel
theorem dX10_swap_99 : decode cX10_swap 99 = .ok (.aload_n 0, 1) := zD42 whX10_swap_3 (p := 0) rfl
theorem dX10_swap_100 : decode cX10_swap 100 = .ok (.getfield 23, 3) := zD180 whX10_swap_3 (p := 1) rfl rfl
theorem dX10_swap_103 : decode cX10_swap 103 = .ok (.getfield 123, 3) := zD180 whX10_swap_3 (p := 4) rfl rfl
theorem dX10_swap_106 : decode cX10_swap 106 = .ok (.bipush (-4), 2) := zD16n whX10_swap_3 (p := 7) (v := 4) rfl rfl rfl
theorem dX10_swap_108 : decode cX10_swap 108 = .ok (.invokevirtual 175, 3) := zD182 whX10_swap_3 (p := 9) rfl rfl
theorem dX10_swap_111 : decode cX10_swap 111 = .ok (.lstore 7, 2) := zD55 whX10_swap_3 (p := 12) rfl
theorem dX10_swap_113 : decode cX10_swap 113 = .ok (.aload_n 0, 1) := zD42 whX10_swap_3 (p := 14) rfl
theorem dX10_swap_114 : decode cX10_swap 114 = .ok (.getfield 23, 3) := zD180 whX10_swap_3 (p := 15) rfl rfl
theorem dX10_swap_117 : decode cX10_swap 117 = .ok (.iload 5, 2) := zD21 whX10_swap_3 (p := 18) rfl
theorem dX10_swap_119 : decode cX10_swap 119 = .ok (.iload 6, 2) := zD21 whX10_swap_3 (p := 20) rfl
theorem dX10_swap_121 : decode cX10_swap 121 = .ok (.invokevirtual 230, 3) := zD182 whX10_swap_3 (p := 22) rfl rfl
theorem dX10_swap_124 : decode cX10_swap 124 = .ok (.lload 7, 2) := zD22 whX10_swap_3 (p := 25) rfl
theorem dX10_swap_126 : decode cX10_swap 126 = .ok (.lload_n 2, 1) := zD32 whX10_swap_3 (p := 27) rfl
theorem dX10_swap_127 : decode cX10_swap 127 = .ok (.lcmp, 1) := zD148 whX10_swap_3 (p := 28) rfl
theorem dX10_swap_128 : decode cX10_swap 128 = .ok (.ifCond .ge 16, 3) := zD156p whX10_swap_3 (p := 29) (v := 16) rfl rfl rfl
def wlX10_swap_4 : List Nat := [22, 7, 65, 16, 10, 21, 5, 104, 21, 6, 96, 54, 4, 132, 6, 1, 167, 255, 177, 132, 5, 1, 167, 255, 153, 21, 4, 16, 252, 159, 0, 8]
theorem whX10_swap_4 : WLy cX10_swap 131 wlX10_swap_4 := by decide +kernel
theorem dX10_swap_131 : decode cX10_swap 131 = .ok (.lload 7, 2) := zD22 whX10_swap_4 (p := 0) rfl
theorem dX10_swap_133 : decode cX10_swap 133 = .ok (.lstore_n 2, 1) := zD65 whX10_swap_4 (p := 2) rfl
theorem dX10_swap_134 : decode cX10_swap 134 = .ok (.bipush 10, 2) := zD16p whX10_swap_4 (p := 3) (v := 10) rfl rfl rfl
theorem dX10_swap_136 : decode cX10_swap 136 = .ok (.iload 5, 2) := zD21 whX10_swap_4 (p := 5) rfl
theorem dX10_swap_138 : decode cX10_swap 138 = .ok (.imul, 1) := zD104 whX10_swap_4 (p := 7) rfl
theorem dX10_swap_139 : decode cX10_swap 139 = .ok (.iload 6, 2) := zD21 whX10_swap_4 (p := 8) rfl
theorem dX10_swap_141 : decode cX10_swap 141 = .ok (.iadd, 1) := zD96 whX10_swap_4 (p := 10) rfl
theorem dX10_swap_142 : decode cX10_swap 142 = .ok (.istore 4, 2) := zD54 whX10_swap_4 (p := 11) rfl
theorem dX10_swap_144 : decode cX10_swap 144 = .ok (.iinc 6 1, 3) := zD132p whX10_swap_4 (p := 13) (v := 1) rfl rfl rfl
theorem dX10_swap_147 : decode cX10_swap 147 = .ok (.goto (-79), 3) := zD167n whX10_swap_4 (p := 16) (v := 79) rfl rfl rfl
theorem dX10_swap_150 : decode cX10_swap 150 = .ok (.iinc 5 1, 3) := zD132p whX10_swap_4 (p := 19) (v := 1) rfl rfl rfl
theorem dX10_swap_153 : decode cX10_swap 153 = .ok (.goto (-103), 3) := zD167n whX10_swap_4 (p := 22) (v := 103) rfl rfl rfl
theorem dX10_swap_156 : decode cX10_swap 156 = .ok (.iload 4, 2) := zD21 whX10_swap_4 (p := 25) rfl
theorem dX10_swap_158 : decode cX10_swap 158 = .ok (.bipush (-4), 2) := zD16n whX10_swap_4 (p := 27) (v := 4) rfl rfl rfl
theorem dX10_swap_160 : decode cX10_swap 160 = .ok (.if_icmp .eq 8, 3) := zD159p whX10_swap_4 (p := 29) (v := 8) rfl rfl rfl
def wlX10_swap_5 : List Nat := [27, 5, 160, 0, 7, 21, 4, 133, 173, 32, 42, 180, 0, 37, 180, 0, 179, 27, 184, 0, 183, 173]
theorem whX10_swap_5 : WLy cX10_swap 163 wlX10_swap_5 := by decide +kernel
theorem dX10_swap_163 : decode cX10_swap 163 = .ok (.iload_n 1, 1) := zD27 whX10_swap_5 (p := 0) rfl
theorem dX10_swap_164 : decode cX10_swap 164 = .ok (.iconst 2, 1) := zD5 whX10_swap_5 (p := 1) rfl
theorem dX10_swap_165 : decode cX10_swap 165 = .ok (.if_icmp .ne 7, 3) := zD160p whX10_swap_5 (p := 2) (v := 7) rfl rfl rfl
theorem dX10_swap_168 : decode cX10_swap 168 = .ok (.iload 4, 2) := zD21 whX10_swap_5 (p := 5) rfl
theorem dX10_swap_170 : decode cX10_swap 170 = .ok (.i2l, 1) := zD133 whX10_swap_5 (p := 7) rfl
theorem dX10_swap_171 : decode cX10_swap 171 = .ok (.lreturn, 1) := zD173 whX10_swap_5 (p := 8) rfl
theorem dX10_swap_172 : decode cX10_swap 172 = .ok (.lload_n 2, 1) := zD32 whX10_swap_5 (p := 9) rfl
theorem dX10_swap_173 : decode cX10_swap 173 = .ok (.aload_n 0, 1) := zD42 whX10_swap_5 (p := 10) rfl
theorem dX10_swap_174 : decode cX10_swap 174 = .ok (.getfield 37, 3) := zD180 whX10_swap_5 (p := 11) rfl rfl
theorem dX10_swap_177 : decode cX10_swap 177 = .ok (.getfield 179, 3) := zD180 whX10_swap_5 (p := 14) rfl rfl
theorem dX10_swap_180 : decode cX10_swap 180 = .ok (.iload_n 1, 1) := zD27 whX10_swap_5 (p := 17) rfl
theorem dX10_swap_181 : decode cX10_swap 181 = .ok (.invokestatic 183, 3) := zD184 whX10_swap_5 (p := 18) rfl rfl
theorem dX10_swap_184 : decode cX10_swap 184 = .ok (.lreturn, 1) := zD173 whX10_swap_5 (p := 21) rfl
def wlX10_carry_0 : List Nat := [28, 184, 0, 217, 154, 0, 5, 2, 172, 42, 180, 0, 51, 42, 180, 0, 19, 27, 182, 0, 234, 28]
theorem whX10_carry_0 : WLy cX10_carry 0 wlX10_carry_0 := by decide +kernel
theorem dX10_carry_0 : decode cX10_carry 0 = .ok (.iload_n 2, 1) := zD28 whX10_carry_0 (p := 0) rfl
theorem dX10_carry_1 : decode cX10_carry 1 = .ok (.invokestatic 217, 3) := zD184 whX10_carry_0 (p := 1) rfl rfl
theorem dX10_carry_4 : decode cX10_carry 4 = .ok (.ifCond .ne 5, 3) := zD154p whX10_carry_0 (p := 4) (v := 5) rfl rfl rfl
theorem dX10_carry_7 : decode cX10_carry 7 = .ok (.iconst (-1), 1) := zD2 whX10_carry_0 (p := 7) rfl
theorem dX10_carry_8 : decode cX10_carry 8 = .ok (.ireturn, 1) := zD172 whX10_carry_0 (p := 8) rfl
theorem dX10_carry_9 : decode cX10_carry 9 = .ok (.aload_n 0, 1) := zD42 whX10_carry_0 (p := 9) rfl
theorem dX10_carry_10 : decode cX10_carry 10 = .ok (.getfield 51, 3) := zD180 whX10_carry_0 (p := 10) rfl rfl
theorem dX10_carry_13 : decode cX10_carry 13 = .ok (.aload_n 0, 1) := zD42 whX10_carry_0 (p := 13) rfl
theorem dX10_carry_14 : decode cX10_carry 14 = .ok (.getfield 19, 3) := zD180 whX10_carry_0 (p := 14) rfl rfl
theorem dX10_carry_17 : decode cX10_carry 17 = .ok (.iload_n 1, 1) := zD27 whX10_carry_0 (p := 17) rfl
theorem dX10_carry_18 : decode cX10_carry 18 = .ok (.invokevirtual 234, 3) := zD182 whX10_carry_0 (p := 18) rfl rfl
theorem dX10_carry_21 : decode cX10_carry 21 = .ok (.iload_n 2, 1) := zD28 whX10_carry_0 (p := 21) rfl
def wlX10_carry_1 : List Nat := [42, 180, 0, 51, 180, 0, 237, 172, 42, 180, 0, 51, 180, 0, 240, 172, 42, 180, 0, 51, 180, 0, 243, 172]
theorem whX10_carry_1 : WLy cX10_carry 48 wlX10_carry_1 := by decide +kernel
theorem dX10_carry_48 : decode cX10_carry 48 = .ok (.aload_n 0, 1) := zD42 whX10_carry_1 (p := 0) rfl
theorem dX10_carry_49 : decode cX10_carry 49 = .ok (.getfield 51, 3) := zD180 whX10_carry_1 (p := 1) rfl rfl
theorem dX10_carry_52 : decode cX10_carry 52 = .ok (.getfield 237, 3) := zD180 whX10_carry_1 (p := 4) rfl rfl
theorem dX10_carry_55 : decode cX10_carry 55 = .ok (.ireturn, 1) := zD172 whX10_carry_1 (p := 7) rfl
theorem dX10_carry_56 : decode cX10_carry 56 = .ok (.aload_n 0, 1) := zD42 whX10_carry_1 (p := 8) rfl
theorem dX10_carry_57 : decode cX10_carry 57 = .ok (.getfield 51, 3) := zD180 whX10_carry_1 (p := 9) rfl rfl
theorem dX10_carry_60 : decode cX10_carry 60 = .ok (.getfield 240, 3) := zD180 whX10_carry_1 (p := 12) rfl rfl
theorem dX10_carry_63 : decode cX10_carry 63 = .ok (.ireturn, 1) := zD172 whX10_carry_1 (p := 15) rfl
theorem dX10_carry_64 : decode cX10_carry 64 = .ok (.aload_n 0, 1) := zD42 whX10_carry_1 (p := 16) rfl
theorem dX10_carry_65 : decode cX10_carry 65 = .ok (.getfield 51, 3) := zD180 whX10_carry_1 (p := 17) rfl rfl
theorem dX10_carry_68 : decode cX10_carry 68 = .ok (.getfield 243, 3) := zD180 whX10_carry_1 (p := 20) rfl rfl
theorem dX10_carry_71 : decode cX10_carry 71 = .ok (.ireturn, 1) := zD172 whX10_carry_1 (p := 23) rfl
def wlX10_learn_0 : List Nat := [42, 180, 0, 19, 27, 28, 29, 182, 0, 162, 153, 0, 15, 21, 4, 155, 0, 10, 21, 4, 16, 20, 164, 0, 5, 2, 172, 42, 180, 0, 58, 27]
theorem whX10_learn_0 : WLy cX10_learn 0 wlX10_learn_0 := by decide +kernel
theorem dX10_learn_0 : decode cX10_learn 0 = .ok (.aload_n 0, 1) := zD42 whX10_learn_0 (p := 0) rfl
theorem dX10_learn_1 : decode cX10_learn 1 = .ok (.getfield 19, 3) := zD180 whX10_learn_0 (p := 1) rfl rfl
theorem dX10_learn_4 : decode cX10_learn 4 = .ok (.iload_n 1, 1) := zD27 whX10_learn_0 (p := 4) rfl
theorem dX10_learn_5 : decode cX10_learn 5 = .ok (.iload_n 2, 1) := zD28 whX10_learn_0 (p := 5) rfl
theorem dX10_learn_6 : decode cX10_learn 6 = .ok (.iload_n 3, 1) := zD29 whX10_learn_0 (p := 6) rfl
theorem dX10_learn_7 : decode cX10_learn 7 = .ok (.invokevirtual 162, 3) := zD182 whX10_learn_0 (p := 7) rfl rfl
theorem dX10_learn_10 : decode cX10_learn 10 = .ok (.ifCond .eq 15, 3) := zD153p whX10_learn_0 (p := 10) (v := 15) rfl rfl rfl
theorem dX10_learn_13 : decode cX10_learn 13 = .ok (.iload 4, 2) := zD21 whX10_learn_0 (p := 13) rfl
theorem dX10_learn_15 : decode cX10_learn 15 = .ok (.ifCond .lt 10, 3) := zD155p whX10_learn_0 (p := 15) (v := 10) rfl rfl rfl
theorem dX10_learn_18 : decode cX10_learn 18 = .ok (.iload 4, 2) := zD21 whX10_learn_0 (p := 18) rfl
theorem dX10_learn_20 : decode cX10_learn 20 = .ok (.bipush 20, 2) := zD16p whX10_learn_0 (p := 20) (v := 20) rfl rfl rfl
theorem dX10_learn_22 : decode cX10_learn 22 = .ok (.if_icmp .le 5, 3) := zD164p whX10_learn_0 (p := 22) (v := 5) rfl rfl rfl
theorem dX10_learn_25 : decode cX10_learn 25 = .ok (.iconst (-1), 1) := zD2 whX10_learn_0 (p := 25) rfl
theorem dX10_learn_26 : decode cX10_learn 26 = .ok (.ireturn, 1) := zD172 whX10_learn_0 (p := 26) rfl
theorem dX10_learn_27 : decode cX10_learn 27 = .ok (.aload_n 0, 1) := zD42 whX10_learn_0 (p := 27) rfl
theorem dX10_learn_28 : decode cX10_learn 28 = .ok (.getfield 58, 3) := zD180 whX10_learn_0 (p := 28) rfl rfl
theorem dX10_learn_31 : decode cX10_learn 31 = .ok (.iload_n 1, 1) := zD27 whX10_learn_0 (p := 31) rfl
def wlX10_learn_1 : List Nat := [28, 29, 21, 4, 182, 0, 246, 153, 0, 13, 42, 180, 0, 58, 180, 0, 116, 167, 0, 5, 16, 253, 172]
theorem whX10_learn_1 : WLy cX10_learn 32 wlX10_learn_1 := by decide +kernel
theorem dX10_learn_32 : decode cX10_learn 32 = .ok (.iload_n 2, 1) := zD28 whX10_learn_1 (p := 0) rfl
theorem dX10_learn_33 : decode cX10_learn 33 = .ok (.iload_n 3, 1) := zD29 whX10_learn_1 (p := 1) rfl
theorem dX10_learn_34 : decode cX10_learn 34 = .ok (.iload 4, 2) := zD21 whX10_learn_1 (p := 2) rfl
theorem dX10_learn_36 : decode cX10_learn 36 = .ok (.invokevirtual 246, 3) := zD182 whX10_learn_1 (p := 4) rfl rfl
theorem dX10_learn_39 : decode cX10_learn 39 = .ok (.ifCond .eq 13, 3) := zD153p whX10_learn_1 (p := 7) (v := 13) rfl rfl rfl
theorem dX10_learn_42 : decode cX10_learn 42 = .ok (.aload_n 0, 1) := zD42 whX10_learn_1 (p := 10) rfl
theorem dX10_learn_43 : decode cX10_learn 43 = .ok (.getfield 58, 3) := zD180 whX10_learn_1 (p := 11) rfl rfl
theorem dX10_learn_46 : decode cX10_learn 46 = .ok (.getfield 116, 3) := zD180 whX10_learn_1 (p := 14) rfl rfl
theorem dX10_learn_49 : decode cX10_learn 49 = .ok (.goto 5, 3) := zD167p whX10_learn_1 (p := 17) (v := 5) rfl rfl rfl
theorem dX10_learn_52 : decode cX10_learn 52 = .ok (.bipush (-3), 2) := zD16n whX10_learn_1 (p := 20) (v := 3) rfl rfl rfl
theorem dX10_learn_54 : decode cX10_learn 54 = .ok (.ireturn, 1) := zD172 whX10_learn_1 (p := 22) rfl
def wlX10_forget_0 : List Nat := [27, 155, 0, 14, 27, 42, 180, 0, 58, 180, 0, 116, 164, 0, 5, 2, 172, 42, 180, 0, 58, 180, 0, 116, 61, 42, 180, 0, 58, 27, 181, 0, 116]
theorem whX10_forget_0 : WLy cX10_forget 0 wlX10_forget_0 := by decide +kernel
theorem dX10_forget_0 : decode cX10_forget 0 = .ok (.iload_n 1, 1) := zD27 whX10_forget_0 (p := 0) rfl
theorem dX10_forget_1 : decode cX10_forget 1 = .ok (.ifCond .lt 14, 3) := zD155p whX10_forget_0 (p := 1) (v := 14) rfl rfl rfl
theorem dX10_forget_4 : decode cX10_forget 4 = .ok (.iload_n 1, 1) := zD27 whX10_forget_0 (p := 4) rfl
theorem dX10_forget_5 : decode cX10_forget 5 = .ok (.aload_n 0, 1) := zD42 whX10_forget_0 (p := 5) rfl
theorem dX10_forget_6 : decode cX10_forget 6 = .ok (.getfield 58, 3) := zD180 whX10_forget_0 (p := 6) rfl rfl
theorem dX10_forget_9 : decode cX10_forget 9 = .ok (.getfield 116, 3) := zD180 whX10_forget_0 (p := 9) rfl rfl
theorem dX10_forget_12 : decode cX10_forget 12 = .ok (.if_icmp .le 5, 3) := zD164p whX10_forget_0 (p := 12) (v := 5) rfl rfl rfl
theorem dX10_forget_15 : decode cX10_forget 15 = .ok (.iconst (-1), 1) := zD2 whX10_forget_0 (p := 15) rfl
theorem dX10_forget_16 : decode cX10_forget 16 = .ok (.ireturn, 1) := zD172 whX10_forget_0 (p := 16) rfl
theorem dX10_forget_17 : decode cX10_forget 17 = .ok (.aload_n 0, 1) := zD42 whX10_forget_0 (p := 17) rfl
theorem dX10_forget_18 : decode cX10_forget 18 = .ok (.getfield 58, 3) := zD180 whX10_forget_0 (p := 18) rfl rfl
theorem dX10_forget_21 : decode cX10_forget 21 = .ok (.getfield 116, 3) := zD180 whX10_forget_0 (p := 21) rfl rfl
theorem dX10_forget_24 : decode cX10_forget 24 = .ok (.istore_n 2, 1) := zD61 whX10_forget_0 (p := 24) rfl
theorem dX10_forget_25 : decode cX10_forget 25 = .ok (.aload_n 0, 1) := zD42 whX10_forget_0 (p := 25) rfl
theorem dX10_forget_26 : decode cX10_forget 26 = .ok (.getfield 58, 3) := zD180 whX10_forget_0 (p := 26) rfl rfl
theorem dX10_forget_29 : decode cX10_forget 29 = .ok (.iload_n 1, 1) := zD27 whX10_forget_0 (p := 29) rfl
theorem dX10_forget_30 : decode cX10_forget 30 = .ok (.putfield 116, 3) := zD181 whX10_forget_0 (p := 30) rfl rfl
def wlX10_forget_1 : List Nat := [28, 172]
theorem whX10_forget_1 : WLy cX10_forget 33 wlX10_forget_1 := by decide +kernel
theorem dX10_forget_33 : decode cX10_forget 33 = .ok (.iload_n 2, 1) := zD28 whX10_forget_1 (p := 0) rfl
theorem dX10_forget_34 : decode cX10_forget 34 = .ok (.ireturn, 1) := zD172 whX10_forget_1 (p := 1) rfl
def wlX10_steps_0 : List Nat := [42, 180, 0, 19, 27, 182, 0, 146, 153, 0, 10, 28, 184, 0, 217, 154, 0, 5, 2, 172, 42, 180, 0, 23, 42, 180, 0, 19, 182, 0, 112, 3]
theorem whX10_steps_0 : WLy cX10_steps 0 wlX10_steps_0 := by decide +kernel
theorem dX10_steps_0 : decode cX10_steps 0 = .ok (.aload_n 0, 1) := zD42 whX10_steps_0 (p := 0) rfl
theorem dX10_steps_1 : decode cX10_steps 1 = .ok (.getfield 19, 3) := zD180 whX10_steps_0 (p := 1) rfl rfl
theorem dX10_steps_4 : decode cX10_steps 4 = .ok (.iload_n 1, 1) := zD27 whX10_steps_0 (p := 4) rfl
theorem dX10_steps_5 : decode cX10_steps 5 = .ok (.invokevirtual 146, 3) := zD182 whX10_steps_0 (p := 5) rfl rfl
theorem dX10_steps_8 : decode cX10_steps 8 = .ok (.ifCond .eq 10, 3) := zD153p whX10_steps_0 (p := 8) (v := 10) rfl rfl rfl
theorem dX10_steps_11 : decode cX10_steps 11 = .ok (.iload_n 2, 1) := zD28 whX10_steps_0 (p := 11) rfl
theorem dX10_steps_12 : decode cX10_steps 12 = .ok (.invokestatic 217, 3) := zD184 whX10_steps_0 (p := 12) rfl rfl
theorem dX10_steps_15 : decode cX10_steps 15 = .ok (.ifCond .ne 5, 3) := zD154p whX10_steps_0 (p := 15) (v := 5) rfl rfl rfl
theorem dX10_steps_18 : decode cX10_steps 18 = .ok (.iconst (-1), 1) := zD2 whX10_steps_0 (p := 18) rfl
theorem dX10_steps_19 : decode cX10_steps 19 = .ok (.ireturn, 1) := zD172 whX10_steps_0 (p := 19) rfl
theorem dX10_steps_20 : decode cX10_steps 20 = .ok (.aload_n 0, 1) := zD42 whX10_steps_0 (p := 20) rfl
theorem dX10_steps_21 : decode cX10_steps 21 = .ok (.getfield 23, 3) := zD180 whX10_steps_0 (p := 21) rfl rfl
theorem dX10_steps_24 : decode cX10_steps 24 = .ok (.aload_n 0, 1) := zD42 whX10_steps_0 (p := 24) rfl
theorem dX10_steps_25 : decode cX10_steps 25 = .ok (.getfield 19, 3) := zD180 whX10_steps_0 (p := 25) rfl rfl
theorem dX10_steps_28 : decode cX10_steps 28 = .ok (.invokevirtual 112, 3) := zD182 whX10_steps_0 (p := 28) rfl rfl
theorem dX10_steps_31 : decode cX10_steps 31 = .ok (.iconst 0, 1) := zD3 whX10_steps_0 (p := 31) rfl
def wlX10_steps_1 : List Nat := [62, 16, 252, 54, 4, 16, 252, 54, 5, 3, 54, 6, 21, 6, 16, 9, 163, 0, 57, 42, 180, 0, 23, 180, 0, 152, 27, 21, 6, 79, 42, 180, 0, 58]
theorem whX10_steps_1 : WLy cX10_steps 32 wlX10_steps_1 := by decide +kernel
theorem dX10_steps_32 : decode cX10_steps 32 = .ok (.istore_n 3, 1) := zD62 whX10_steps_1 (p := 0) rfl
theorem dX10_steps_33 : decode cX10_steps 33 = .ok (.bipush (-4), 2) := zD16n whX10_steps_1 (p := 1) (v := 4) rfl rfl rfl
theorem dX10_steps_35 : decode cX10_steps 35 = .ok (.istore 4, 2) := zD54 whX10_steps_1 (p := 3) rfl
theorem dX10_steps_37 : decode cX10_steps 37 = .ok (.bipush (-4), 2) := zD16n whX10_steps_1 (p := 5) (v := 4) rfl rfl rfl
theorem dX10_steps_39 : decode cX10_steps 39 = .ok (.istore 5, 2) := zD54 whX10_steps_1 (p := 7) rfl
theorem dX10_steps_41 : decode cX10_steps 41 = .ok (.iconst 0, 1) := zD3 whX10_steps_1 (p := 9) rfl
theorem dX10_steps_42 : decode cX10_steps 42 = .ok (.istore 6, 2) := zD54 whX10_steps_1 (p := 10) rfl
theorem dX10_steps_44 : decode cX10_steps 44 = .ok (.iload 6, 2) := zD21 whX10_steps_1 (p := 12) rfl
theorem dX10_steps_46 : decode cX10_steps 46 = .ok (.bipush 9, 2) := zD16p whX10_steps_1 (p := 14) (v := 9) rfl rfl rfl
theorem dX10_steps_48 : decode cX10_steps 48 = .ok (.if_icmp .gt 57, 3) := zD163p whX10_steps_1 (p := 16) (v := 57) rfl rfl rfl
theorem dX10_steps_51 : decode cX10_steps 51 = .ok (.aload_n 0, 1) := zD42 whX10_steps_1 (p := 19) rfl
theorem dX10_steps_52 : decode cX10_steps 52 = .ok (.getfield 23, 3) := zD180 whX10_steps_1 (p := 20) rfl rfl
theorem dX10_steps_55 : decode cX10_steps 55 = .ok (.getfield 152, 3) := zD180 whX10_steps_1 (p := 23) rfl rfl
theorem dX10_steps_58 : decode cX10_steps 58 = .ok (.iload_n 1, 1) := zD27 whX10_steps_1 (p := 26) rfl
theorem dX10_steps_59 : decode cX10_steps 59 = .ok (.iload 6, 2) := zD21 whX10_steps_1 (p := 27) rfl
theorem dX10_steps_61 : decode cX10_steps 61 = .ok (.iastore, 1) := zD79 whX10_steps_1 (p := 29) rfl
theorem dX10_steps_62 : decode cX10_steps 62 = .ok (.aload_n 0, 1) := zD42 whX10_steps_1 (p := 30) rfl
theorem dX10_steps_63 : decode cX10_steps 63 = .ok (.getfield 58, 3) := zD180 whX10_steps_1 (p := 31) rfl rfl
def wlX10_steps_2 : List Nat := [42, 180, 0, 23, 182, 0, 250, 153, 0, 26, 132, 3, 1, 21, 4, 16, 252, 160, 0, 8, 21, 6, 167, 0, 5, 21, 4, 54, 4, 21, 6, 54, 5]
theorem whX10_steps_2 : WLy cX10_steps 66 wlX10_steps_2 := by decide +kernel
theorem dX10_steps_66 : decode cX10_steps 66 = .ok (.aload_n 0, 1) := zD42 whX10_steps_2 (p := 0) rfl
theorem dX10_steps_67 : decode cX10_steps 67 = .ok (.getfield 23, 3) := zD180 whX10_steps_2 (p := 1) rfl rfl
theorem dX10_steps_70 : decode cX10_steps 70 = .ok (.invokevirtual 250, 3) := zD182 whX10_steps_2 (p := 4) rfl rfl
theorem dX10_steps_73 : decode cX10_steps 73 = .ok (.ifCond .eq 26, 3) := zD153p whX10_steps_2 (p := 7) (v := 26) rfl rfl rfl
theorem dX10_steps_76 : decode cX10_steps 76 = .ok (.iinc 3 1, 3) := zD132p whX10_steps_2 (p := 10) (v := 1) rfl rfl rfl
theorem dX10_steps_79 : decode cX10_steps 79 = .ok (.iload 4, 2) := zD21 whX10_steps_2 (p := 13) rfl
theorem dX10_steps_81 : decode cX10_steps 81 = .ok (.bipush (-4), 2) := zD16n whX10_steps_2 (p := 15) (v := 4) rfl rfl rfl
theorem dX10_steps_83 : decode cX10_steps 83 = .ok (.if_icmp .ne 8, 3) := zD160p whX10_steps_2 (p := 17) (v := 8) rfl rfl rfl
theorem dX10_steps_86 : decode cX10_steps 86 = .ok (.iload 6, 2) := zD21 whX10_steps_2 (p := 20) rfl
theorem dX10_steps_88 : decode cX10_steps 88 = .ok (.goto 5, 3) := zD167p whX10_steps_2 (p := 22) (v := 5) rfl rfl rfl
theorem dX10_steps_91 : decode cX10_steps 91 = .ok (.iload 4, 2) := zD21 whX10_steps_2 (p := 25) rfl
theorem dX10_steps_93 : decode cX10_steps 93 = .ok (.istore 4, 2) := zD54 whX10_steps_2 (p := 27) rfl
theorem dX10_steps_95 : decode cX10_steps 95 = .ok (.iload 6, 2) := zD21 whX10_steps_2 (p := 29) rfl
theorem dX10_steps_97 : decode cX10_steps 97 = .ok (.istore 5, 2) := zD54 whX10_steps_2 (p := 31) rfl
def wlX10_steps_3 : List Nat := [132, 6, 1, 167, 255, 198, 28, 154, 0, 5, 29, 172, 28, 4, 160, 0, 8, 21, 4, 167, 0, 5, 21, 5, 172]
theorem whX10_steps_3 : WLy cX10_steps 99 wlX10_steps_3 := by decide +kernel
theorem dX10_steps_99 : decode cX10_steps 99 = .ok (.iinc 6 1, 3) := zD132p whX10_steps_3 (p := 0) (v := 1) rfl rfl rfl
theorem dX10_steps_102 : decode cX10_steps 102 = .ok (.goto (-58), 3) := zD167n whX10_steps_3 (p := 3) (v := 58) rfl rfl rfl
theorem dX10_steps_105 : decode cX10_steps 105 = .ok (.iload_n 2, 1) := zD28 whX10_steps_3 (p := 6) rfl
theorem dX10_steps_106 : decode cX10_steps 106 = .ok (.ifCond .ne 5, 3) := zD154p whX10_steps_3 (p := 7) (v := 5) rfl rfl rfl
theorem dX10_steps_109 : decode cX10_steps 109 = .ok (.iload_n 3, 1) := zD29 whX10_steps_3 (p := 10) rfl
theorem dX10_steps_110 : decode cX10_steps 110 = .ok (.ireturn, 1) := zD172 whX10_steps_3 (p := 11) rfl
theorem dX10_steps_111 : decode cX10_steps 111 = .ok (.iload_n 2, 1) := zD28 whX10_steps_3 (p := 12) rfl
theorem dX10_steps_112 : decode cX10_steps 112 = .ok (.iconst 1, 1) := zD4 whX10_steps_3 (p := 13) rfl
theorem dX10_steps_113 : decode cX10_steps 113 = .ok (.if_icmp .ne 8, 3) := zD160p whX10_steps_3 (p := 14) (v := 8) rfl rfl rfl
theorem dX10_steps_116 : decode cX10_steps 116 = .ok (.iload 4, 2) := zD21 whX10_steps_3 (p := 17) rfl
theorem dX10_steps_118 : decode cX10_steps 118 = .ok (.goto 5, 3) := zD167p whX10_steps_3 (p := 19) (v := 5) rfl rfl rfl
theorem dX10_steps_121 : decode cX10_steps 121 = .ok (.iload 5, 2) := zD21 whX10_steps_3 (p := 22) rfl
theorem dX10_steps_123 : decode cX10_steps 123 = .ok (.ireturn, 1) := zD172 whX10_steps_3 (p := 24) rfl
def wlX10_mark_0 : List Nat := [42, 180, 0, 19, 27, 182, 0, 132, 153, 0, 10, 28, 184, 0, 191, 154, 0, 5, 2, 172, 42, 180, 0, 65, 27, 28, 182, 0, 254, 153, 0, 13]
theorem whX10_mark_0 : WLy cX10_mark 0 wlX10_mark_0 := by decide +kernel
theorem dX10_mark_0 : decode cX10_mark 0 = .ok (.aload_n 0, 1) := zD42 whX10_mark_0 (p := 0) rfl
theorem dX10_mark_1 : decode cX10_mark 1 = .ok (.getfield 19, 3) := zD180 whX10_mark_0 (p := 1) rfl rfl
theorem dX10_mark_4 : decode cX10_mark 4 = .ok (.iload_n 1, 1) := zD27 whX10_mark_0 (p := 4) rfl
theorem dX10_mark_5 : decode cX10_mark 5 = .ok (.invokevirtual 132, 3) := zD182 whX10_mark_0 (p := 5) rfl rfl
theorem dX10_mark_8 : decode cX10_mark 8 = .ok (.ifCond .eq 10, 3) := zD153p whX10_mark_0 (p := 8) (v := 10) rfl rfl rfl
theorem dX10_mark_11 : decode cX10_mark 11 = .ok (.iload_n 2, 1) := zD28 whX10_mark_0 (p := 11) rfl
theorem dX10_mark_12 : decode cX10_mark 12 = .ok (.invokestatic 191, 3) := zD184 whX10_mark_0 (p := 12) rfl rfl
theorem dX10_mark_15 : decode cX10_mark 15 = .ok (.ifCond .ne 5, 3) := zD154p whX10_mark_0 (p := 15) (v := 5) rfl rfl rfl
theorem dX10_mark_18 : decode cX10_mark 18 = .ok (.iconst (-1), 1) := zD2 whX10_mark_0 (p := 18) rfl
theorem dX10_mark_19 : decode cX10_mark 19 = .ok (.ireturn, 1) := zD172 whX10_mark_0 (p := 19) rfl
theorem dX10_mark_20 : decode cX10_mark 20 = .ok (.aload_n 0, 1) := zD42 whX10_mark_0 (p := 20) rfl
theorem dX10_mark_21 : decode cX10_mark 21 = .ok (.getfield 65, 3) := zD180 whX10_mark_0 (p := 21) rfl rfl
theorem dX10_mark_24 : decode cX10_mark 24 = .ok (.iload_n 1, 1) := zD27 whX10_mark_0 (p := 24) rfl
theorem dX10_mark_25 : decode cX10_mark 25 = .ok (.iload_n 2, 1) := zD28 whX10_mark_0 (p := 25) rfl
theorem dX10_mark_26 : decode cX10_mark 26 = .ok (.invokevirtual 254, 3) := zD182 whX10_mark_0 (p := 26) rfl rfl
theorem dX10_mark_29 : decode cX10_mark 29 = .ok (.ifCond .eq 13, 3) := zD153p whX10_mark_0 (p := 29) (v := 13) rfl rfl rfl
def wlX10_mark_1 : List Nat := [42, 180, 0, 65, 180, 0, 119, 167, 0, 5, 16, 253, 172]
theorem whX10_mark_1 : WLy cX10_mark 32 wlX10_mark_1 := by decide +kernel
theorem dX10_mark_32 : decode cX10_mark 32 = .ok (.aload_n 0, 1) := zD42 whX10_mark_1 (p := 0) rfl
theorem dX10_mark_33 : decode cX10_mark 33 = .ok (.getfield 65, 3) := zD180 whX10_mark_1 (p := 1) rfl rfl
theorem dX10_mark_36 : decode cX10_mark 36 = .ok (.getfield 119, 3) := zD180 whX10_mark_1 (p := 4) rfl rfl
theorem dX10_mark_39 : decode cX10_mark 39 = .ok (.goto 5, 3) := zD167p whX10_mark_1 (p := 7) (v := 5) rfl rfl rfl
theorem dX10_mark_42 : decode cX10_mark 42 = .ok (.bipush (-3), 2) := zD16n whX10_mark_1 (p := 10) (v := 3) rfl rfl rfl
theorem dX10_mark_44 : decode cX10_mark 44 = .ok (.ireturn, 1) := zD172 whX10_mark_1 (p := 12) rfl
def wlX10_wipe_0 : List Nat := [27, 155, 0, 14, 27, 42, 180, 0, 65, 180, 0, 119, 164, 0, 5, 2, 172, 42, 180, 0, 65, 180, 0, 119, 61, 42, 180, 0, 65, 27, 181, 0, 119]
theorem whX10_wipe_0 : WLy cX10_wipe 0 wlX10_wipe_0 := by decide +kernel
theorem dX10_wipe_0 : decode cX10_wipe 0 = .ok (.iload_n 1, 1) := zD27 whX10_wipe_0 (p := 0) rfl
theorem dX10_wipe_1 : decode cX10_wipe 1 = .ok (.ifCond .lt 14, 3) := zD155p whX10_wipe_0 (p := 1) (v := 14) rfl rfl rfl
theorem dX10_wipe_4 : decode cX10_wipe 4 = .ok (.iload_n 1, 1) := zD27 whX10_wipe_0 (p := 4) rfl
theorem dX10_wipe_5 : decode cX10_wipe 5 = .ok (.aload_n 0, 1) := zD42 whX10_wipe_0 (p := 5) rfl
theorem dX10_wipe_6 : decode cX10_wipe 6 = .ok (.getfield 65, 3) := zD180 whX10_wipe_0 (p := 6) rfl rfl
theorem dX10_wipe_9 : decode cX10_wipe 9 = .ok (.getfield 119, 3) := zD180 whX10_wipe_0 (p := 9) rfl rfl
theorem dX10_wipe_12 : decode cX10_wipe 12 = .ok (.if_icmp .le 5, 3) := zD164p whX10_wipe_0 (p := 12) (v := 5) rfl rfl rfl
theorem dX10_wipe_15 : decode cX10_wipe 15 = .ok (.iconst (-1), 1) := zD2 whX10_wipe_0 (p := 15) rfl
theorem dX10_wipe_16 : decode cX10_wipe 16 = .ok (.ireturn, 1) := zD172 whX10_wipe_0 (p := 16) rfl
theorem dX10_wipe_17 : decode cX10_wipe 17 = .ok (.aload_n 0, 1) := zD42 whX10_wipe_0 (p := 17) rfl
theorem dX10_wipe_18 : decode cX10_wipe 18 = .ok (.getfield 65, 3) := zD180 whX10_wipe_0 (p := 18) rfl rfl
theorem dX10_wipe_21 : decode cX10_wipe 21 = .ok (.getfield 119, 3) := zD180 whX10_wipe_0 (p := 21) rfl rfl
theorem dX10_wipe_24 : decode cX10_wipe 24 = .ok (.istore_n 2, 1) := zD61 whX10_wipe_0 (p := 24) rfl
theorem dX10_wipe_25 : decode cX10_wipe 25 = .ok (.aload_n 0, 1) := zD42 whX10_wipe_0 (p := 25) rfl
theorem dX10_wipe_26 : decode cX10_wipe 26 = .ok (.getfield 65, 3) := zD180 whX10_wipe_0 (p := 26) rfl rfl
theorem dX10_wipe_29 : decode cX10_wipe 29 = .ok (.iload_n 1, 1) := zD27 whX10_wipe_0 (p := 29) rfl
theorem dX10_wipe_30 : decode cX10_wipe 30 = .ok (.putfield 119, 3) := zD181 whX10_wipe_0 (p := 30) rfl rfl
def wlX10_wipe_1 : List Nat := [28, 172]
theorem whX10_wipe_1 : WLy cX10_wipe 33 wlX10_wipe_1 := by decide +kernel
theorem dX10_wipe_33 : decode cX10_wipe 33 = .ok (.iload_n 2, 1) := zD28 whX10_wipe_1 (p := 0) rfl
theorem dX10_wipe_34 : decode cX10_wipe 34 = .ok (.ireturn, 1) := zD172 whX10_wipe_1 (p := 1) rfl
def wlX10_paths_0 : List Nat := [42, 180, 0, 72, 42, 180, 0, 19, 42, 180, 0, 65, 182, 1, 1, 42, 180, 0, 72, 180, 1, 5, 172]
theorem whX10_paths_0 : WLy cX10_paths 0 wlX10_paths_0 := by decide +kernel
theorem dX10_paths_0 : decode cX10_paths 0 = .ok (.aload_n 0, 1) := zD42 whX10_paths_0 (p := 0) rfl
theorem dX10_paths_1 : decode cX10_paths 1 = .ok (.getfield 72, 3) := zD180 whX10_paths_0 (p := 1) rfl rfl
theorem dX10_paths_4 : decode cX10_paths 4 = .ok (.aload_n 0, 1) := zD42 whX10_paths_0 (p := 4) rfl
theorem dX10_paths_5 : decode cX10_paths 5 = .ok (.getfield 19, 3) := zD180 whX10_paths_0 (p := 5) rfl rfl
theorem dX10_paths_8 : decode cX10_paths 8 = .ok (.aload_n 0, 1) := zD42 whX10_paths_0 (p := 8) rfl
theorem dX10_paths_9 : decode cX10_paths 9 = .ok (.getfield 65, 3) := zD180 whX10_paths_0 (p := 9) rfl rfl
theorem dX10_paths_12 : decode cX10_paths 12 = .ok (.invokevirtual 257, 3) := zD182 whX10_paths_0 (p := 12) rfl rfl
theorem dX10_paths_15 : decode cX10_paths 15 = .ok (.aload_n 0, 1) := zD42 whX10_paths_0 (p := 15) rfl
theorem dX10_paths_16 : decode cX10_paths 16 = .ok (.getfield 72, 3) := zD180 whX10_paths_0 (p := 16) rfl rfl
theorem dX10_paths_19 : decode cX10_paths 19 = .ok (.getfield 261, 3) := zD180 whX10_paths_0 (p := 19) rfl rfl
theorem dX10_paths_22 : decode cX10_paths 22 = .ok (.ireturn, 1) := zD172 whX10_paths_0 (p := 22) rfl
def wlX10_eye_0 : List Nat := [27, 184, 0, 191, 154, 0, 5, 2, 172, 42, 180, 0, 72, 42, 180, 0, 19, 42, 180, 0, 65, 182, 1, 1, 3, 61, 3, 62, 29, 42, 180, 0, 19]
theorem whX10_eye_0 : WLy cX10_eye 0 wlX10_eye_0 := by decide +kernel
theorem dX10_eye_0 : decode cX10_eye 0 = .ok (.iload_n 1, 1) := zD27 whX10_eye_0 (p := 0) rfl
theorem dX10_eye_1 : decode cX10_eye 1 = .ok (.invokestatic 191, 3) := zD184 whX10_eye_0 (p := 1) rfl rfl
theorem dX10_eye_4 : decode cX10_eye 4 = .ok (.ifCond .ne 5, 3) := zD154p whX10_eye_0 (p := 4) (v := 5) rfl rfl rfl
theorem dX10_eye_7 : decode cX10_eye 7 = .ok (.iconst (-1), 1) := zD2 whX10_eye_0 (p := 7) rfl
theorem dX10_eye_8 : decode cX10_eye 8 = .ok (.ireturn, 1) := zD172 whX10_eye_0 (p := 8) rfl
theorem dX10_eye_9 : decode cX10_eye 9 = .ok (.aload_n 0, 1) := zD42 whX10_eye_0 (p := 9) rfl
theorem dX10_eye_10 : decode cX10_eye 10 = .ok (.getfield 72, 3) := zD180 whX10_eye_0 (p := 10) rfl rfl
theorem dX10_eye_13 : decode cX10_eye 13 = .ok (.aload_n 0, 1) := zD42 whX10_eye_0 (p := 13) rfl
theorem dX10_eye_14 : decode cX10_eye 14 = .ok (.getfield 19, 3) := zD180 whX10_eye_0 (p := 14) rfl rfl
theorem dX10_eye_17 : decode cX10_eye 17 = .ok (.aload_n 0, 1) := zD42 whX10_eye_0 (p := 17) rfl
theorem dX10_eye_18 : decode cX10_eye 18 = .ok (.getfield 65, 3) := zD180 whX10_eye_0 (p := 18) rfl rfl
theorem dX10_eye_21 : decode cX10_eye 21 = .ok (.invokevirtual 257, 3) := zD182 whX10_eye_0 (p := 21) rfl rfl
theorem dX10_eye_24 : decode cX10_eye 24 = .ok (.iconst 0, 1) := zD3 whX10_eye_0 (p := 24) rfl
theorem dX10_eye_25 : decode cX10_eye 25 = .ok (.istore_n 2, 1) := zD61 whX10_eye_0 (p := 25) rfl
theorem dX10_eye_26 : decode cX10_eye 26 = .ok (.iconst 0, 1) := zD3 whX10_eye_0 (p := 26) rfl
theorem dX10_eye_27 : decode cX10_eye 27 = .ok (.istore_n 3, 1) := zD62 whX10_eye_0 (p := 27) rfl
theorem dX10_eye_28 : decode cX10_eye 28 = .ok (.iload_n 3, 1) := zD29 whX10_eye_0 (p := 28) rfl
theorem dX10_eye_29 : decode cX10_eye 29 = .ok (.aload_n 0, 1) := zD42 whX10_eye_0 (p := 29) rfl
theorem dX10_eye_30 : decode cX10_eye 30 = .ok (.getfield 19, 3) := zD180 whX10_eye_0 (p := 30) rfl rfl
def wlX10_eye_1 : List Nat := [180, 0, 123, 162, 0, 27, 42, 180, 0, 72, 29, 27, 182, 1, 8, 153, 0, 9, 28, 4, 29, 120, 128, 61, 132, 3, 1, 167, 255, 224, 28, 172]
theorem whX10_eye_1 : WLy cX10_eye 33 wlX10_eye_1 := by decide +kernel
theorem dX10_eye_33 : decode cX10_eye 33 = .ok (.getfield 123, 3) := zD180 whX10_eye_1 (p := 0) rfl rfl
theorem dX10_eye_36 : decode cX10_eye 36 = .ok (.if_icmp .ge 27, 3) := zD162p whX10_eye_1 (p := 3) (v := 27) rfl rfl rfl
theorem dX10_eye_39 : decode cX10_eye 39 = .ok (.aload_n 0, 1) := zD42 whX10_eye_1 (p := 6) rfl
theorem dX10_eye_40 : decode cX10_eye 40 = .ok (.getfield 72, 3) := zD180 whX10_eye_1 (p := 7) rfl rfl
theorem dX10_eye_43 : decode cX10_eye 43 = .ok (.iload_n 3, 1) := zD29 whX10_eye_1 (p := 10) rfl
theorem dX10_eye_44 : decode cX10_eye 44 = .ok (.iload_n 1, 1) := zD27 whX10_eye_1 (p := 11) rfl
theorem dX10_eye_45 : decode cX10_eye 45 = .ok (.invokevirtual 264, 3) := zD182 whX10_eye_1 (p := 12) rfl rfl
theorem dX10_eye_48 : decode cX10_eye 48 = .ok (.ifCond .eq 9, 3) := zD153p whX10_eye_1 (p := 15) (v := 9) rfl rfl rfl
theorem dX10_eye_51 : decode cX10_eye 51 = .ok (.iload_n 2, 1) := zD28 whX10_eye_1 (p := 18) rfl
theorem dX10_eye_52 : decode cX10_eye 52 = .ok (.iconst 1, 1) := zD4 whX10_eye_1 (p := 19) rfl
theorem dX10_eye_53 : decode cX10_eye 53 = .ok (.iload_n 3, 1) := zD29 whX10_eye_1 (p := 20) rfl
theorem dX10_eye_54 : decode cX10_eye 54 = .ok (.ishl, 1) := zD120 whX10_eye_1 (p := 21) rfl
theorem dX10_eye_55 : decode cX10_eye 55 = .ok (.ior, 1) := zD128 whX10_eye_1 (p := 22) rfl
theorem dX10_eye_56 : decode cX10_eye 56 = .ok (.istore_n 2, 1) := zD61 whX10_eye_1 (p := 23) rfl
theorem dX10_eye_57 : decode cX10_eye 57 = .ok (.iinc 3 1, 3) := zD132p whX10_eye_1 (p := 24) (v := 1) rfl rfl rfl
theorem dX10_eye_60 : decode cX10_eye 60 = .ok (.goto (-32), 3) := zD167n whX10_eye_1 (p := 27) (v := 32) rfl rfl rfl
theorem dX10_eye_63 : decode cX10_eye 63 = .ok (.iload_n 2, 1) := zD28 whX10_eye_1 (p := 30) rfl
theorem dX10_eye_64 : decode cX10_eye 64 = .ok (.ireturn, 1) := zD172 whX10_eye_1 (p := 31) rfl
def wlX10_sure_0 : List Nat := [27, 184, 0, 170, 154, 0, 5, 2, 172, 42, 180, 0, 72, 42, 180, 0, 19, 42, 180, 0, 65, 182, 1, 1, 42, 180, 0, 72, 180, 1, 5, 154, 0, 6]
theorem whX10_sure_0 : WLy cX10_sure 0 wlX10_sure_0 := by decide +kernel
theorem dX10_sure_0 : decode cX10_sure 0 = .ok (.iload_n 1, 1) := zD27 whX10_sure_0 (p := 0) rfl
theorem dX10_sure_1 : decode cX10_sure 1 = .ok (.invokestatic 170, 3) := zD184 whX10_sure_0 (p := 1) rfl rfl
theorem dX10_sure_4 : decode cX10_sure 4 = .ok (.ifCond .ne 5, 3) := zD154p whX10_sure_0 (p := 4) (v := 5) rfl rfl rfl
theorem dX10_sure_7 : decode cX10_sure 7 = .ok (.iconst (-1), 1) := zD2 whX10_sure_0 (p := 7) rfl
theorem dX10_sure_8 : decode cX10_sure 8 = .ok (.ireturn, 1) := zD172 whX10_sure_0 (p := 8) rfl
theorem dX10_sure_9 : decode cX10_sure 9 = .ok (.aload_n 0, 1) := zD42 whX10_sure_0 (p := 9) rfl
theorem dX10_sure_10 : decode cX10_sure 10 = .ok (.getfield 72, 3) := zD180 whX10_sure_0 (p := 10) rfl rfl
theorem dX10_sure_13 : decode cX10_sure 13 = .ok (.aload_n 0, 1) := zD42 whX10_sure_0 (p := 13) rfl
theorem dX10_sure_14 : decode cX10_sure 14 = .ok (.getfield 19, 3) := zD180 whX10_sure_0 (p := 14) rfl rfl
theorem dX10_sure_17 : decode cX10_sure 17 = .ok (.aload_n 0, 1) := zD42 whX10_sure_0 (p := 17) rfl
theorem dX10_sure_18 : decode cX10_sure 18 = .ok (.getfield 65, 3) := zD180 whX10_sure_0 (p := 18) rfl rfl
theorem dX10_sure_21 : decode cX10_sure 21 = .ok (.invokevirtual 257, 3) := zD182 whX10_sure_0 (p := 21) rfl rfl
theorem dX10_sure_24 : decode cX10_sure 24 = .ok (.aload_n 0, 1) := zD42 whX10_sure_0 (p := 24) rfl
theorem dX10_sure_25 : decode cX10_sure 25 = .ok (.getfield 72, 3) := zD180 whX10_sure_0 (p := 25) rfl rfl
theorem dX10_sure_28 : decode cX10_sure 28 = .ok (.getfield 261, 3) := zD180 whX10_sure_0 (p := 28) rfl rfl
theorem dX10_sure_31 : decode cX10_sure 31 = .ok (.ifCond .ne 6, 3) := zD154p whX10_sure_0 (p := 31) (v := 6) rfl rfl rfl
def wlX10_sure_1 : List Nat := [16, 252, 172, 3, 61, 3, 62, 29, 42, 180, 0, 19, 180, 0, 123, 162, 0, 60, 27, 154, 0, 18, 42, 180, 0, 72, 42, 180, 0, 19, 29, 182, 1, 11]
theorem whX10_sure_1 : WLy cX10_sure 34 wlX10_sure_1 := by decide +kernel
theorem dX10_sure_34 : decode cX10_sure 34 = .ok (.bipush (-4), 2) := zD16n whX10_sure_1 (p := 0) (v := 4) rfl rfl rfl
theorem dX10_sure_36 : decode cX10_sure 36 = .ok (.ireturn, 1) := zD172 whX10_sure_1 (p := 2) rfl
theorem dX10_sure_37 : decode cX10_sure 37 = .ok (.iconst 0, 1) := zD3 whX10_sure_1 (p := 3) rfl
theorem dX10_sure_38 : decode cX10_sure 38 = .ok (.istore_n 2, 1) := zD61 whX10_sure_1 (p := 4) rfl
theorem dX10_sure_39 : decode cX10_sure 39 = .ok (.iconst 0, 1) := zD3 whX10_sure_1 (p := 5) rfl
theorem dX10_sure_40 : decode cX10_sure 40 = .ok (.istore_n 3, 1) := zD62 whX10_sure_1 (p := 6) rfl
theorem dX10_sure_41 : decode cX10_sure 41 = .ok (.iload_n 3, 1) := zD29 whX10_sure_1 (p := 7) rfl
theorem dX10_sure_42 : decode cX10_sure 42 = .ok (.aload_n 0, 1) := zD42 whX10_sure_1 (p := 8) rfl
theorem dX10_sure_43 : decode cX10_sure 43 = .ok (.getfield 19, 3) := zD180 whX10_sure_1 (p := 9) rfl rfl
theorem dX10_sure_46 : decode cX10_sure 46 = .ok (.getfield 123, 3) := zD180 whX10_sure_1 (p := 12) rfl rfl
theorem dX10_sure_49 : decode cX10_sure 49 = .ok (.if_icmp .ge 60, 3) := zD162p whX10_sure_1 (p := 15) (v := 60) rfl rfl rfl
theorem dX10_sure_52 : decode cX10_sure 52 = .ok (.iload_n 1, 1) := zD27 whX10_sure_1 (p := 18) rfl
theorem dX10_sure_53 : decode cX10_sure 53 = .ok (.ifCond .ne 18, 3) := zD154p whX10_sure_1 (p := 19) (v := 18) rfl rfl rfl
theorem dX10_sure_56 : decode cX10_sure 56 = .ok (.aload_n 0, 1) := zD42 whX10_sure_1 (p := 22) rfl
theorem dX10_sure_57 : decode cX10_sure 57 = .ok (.getfield 72, 3) := zD180 whX10_sure_1 (p := 23) rfl rfl
theorem dX10_sure_60 : decode cX10_sure 60 = .ok (.aload_n 0, 1) := zD42 whX10_sure_1 (p := 26) rfl
theorem dX10_sure_61 : decode cX10_sure 61 = .ok (.getfield 19, 3) := zD180 whX10_sure_1 (p := 27) rfl rfl
theorem dX10_sure_64 : decode cX10_sure 64 = .ok (.iload_n 3, 1) := zD29 whX10_sure_1 (p := 30) rfl
theorem dX10_sure_65 : decode cX10_sure 65 = .ok (.invokevirtual 267, 3) := zD182 whX10_sure_1 (p := 31) rfl rfl
def wlX10_sure_2 : List Nat := [167, 0, 15, 42, 180, 0, 72, 42, 180, 0, 19, 29, 182, 1, 15, 54, 4, 21, 4, 42, 180, 0, 72, 180, 1, 5, 160, 0, 9, 28, 4, 29]
theorem whX10_sure_2 : WLy cX10_sure 68 wlX10_sure_2 := by decide +kernel
theorem dX10_sure_68 : decode cX10_sure 68 = .ok (.goto 15, 3) := zD167p whX10_sure_2 (p := 0) (v := 15) rfl rfl rfl
theorem dX10_sure_71 : decode cX10_sure 71 = .ok (.aload_n 0, 1) := zD42 whX10_sure_2 (p := 3) rfl
theorem dX10_sure_72 : decode cX10_sure 72 = .ok (.getfield 72, 3) := zD180 whX10_sure_2 (p := 4) rfl rfl
theorem dX10_sure_75 : decode cX10_sure 75 = .ok (.aload_n 0, 1) := zD42 whX10_sure_2 (p := 7) rfl
theorem dX10_sure_76 : decode cX10_sure 76 = .ok (.getfield 19, 3) := zD180 whX10_sure_2 (p := 8) rfl rfl
theorem dX10_sure_79 : decode cX10_sure 79 = .ok (.iload_n 3, 1) := zD29 whX10_sure_2 (p := 11) rfl
theorem dX10_sure_80 : decode cX10_sure 80 = .ok (.invokevirtual 271, 3) := zD182 whX10_sure_2 (p := 12) rfl rfl
theorem dX10_sure_83 : decode cX10_sure 83 = .ok (.istore 4, 2) := zD54 whX10_sure_2 (p := 15) rfl
theorem dX10_sure_85 : decode cX10_sure 85 = .ok (.iload 4, 2) := zD21 whX10_sure_2 (p := 17) rfl
theorem dX10_sure_87 : decode cX10_sure 87 = .ok (.aload_n 0, 1) := zD42 whX10_sure_2 (p := 19) rfl
theorem dX10_sure_88 : decode cX10_sure 88 = .ok (.getfield 72, 3) := zD180 whX10_sure_2 (p := 20) rfl rfl
theorem dX10_sure_91 : decode cX10_sure 91 = .ok (.getfield 261, 3) := zD180 whX10_sure_2 (p := 23) rfl rfl
theorem dX10_sure_94 : decode cX10_sure 94 = .ok (.if_icmp .ne 9, 3) := zD160p whX10_sure_2 (p := 26) (v := 9) rfl rfl rfl
theorem dX10_sure_97 : decode cX10_sure 97 = .ok (.iload_n 2, 1) := zD28 whX10_sure_2 (p := 29) rfl
theorem dX10_sure_98 : decode cX10_sure 98 = .ok (.iconst 1, 1) := zD4 whX10_sure_2 (p := 30) rfl
theorem dX10_sure_99 : decode cX10_sure 99 = .ok (.iload_n 3, 1) := zD29 whX10_sure_2 (p := 31) rfl
def wlX10_sure_3 : List Nat := [120, 128, 61, 132, 3, 1, 167, 255, 191, 28, 172]
theorem whX10_sure_3 : WLy cX10_sure 100 wlX10_sure_3 := by decide +kernel
theorem dX10_sure_100 : decode cX10_sure 100 = .ok (.ishl, 1) := zD120 whX10_sure_3 (p := 0) rfl
theorem dX10_sure_101 : decode cX10_sure 101 = .ok (.ior, 1) := zD128 whX10_sure_3 (p := 1) rfl
theorem dX10_sure_102 : decode cX10_sure 102 = .ok (.istore_n 2, 1) := zD61 whX10_sure_3 (p := 2) rfl
theorem dX10_sure_103 : decode cX10_sure 103 = .ok (.iinc 3 1, 3) := zD132p whX10_sure_3 (p := 3) (v := 1) rfl rfl rfl
theorem dX10_sure_106 : decode cX10_sure 106 = .ok (.goto (-65), 3) := zD167n whX10_sure_3 (p := 6) (v := 65) rfl rfl rfl
theorem dX10_sure_109 : decode cX10_sure 109 = .ok (.iload_n 2, 1) := zD28 whX10_sure_3 (p := 9) rfl
theorem dX10_sure_110 : decode cX10_sure 110 = .ok (.ireturn, 1) := zD172 whX10_sure_3 (p := 10) rfl
def wlX10_keep_0 : List Nat := [27, 184, 1, 18, 154, 0, 5, 2, 172, 42, 180, 0, 30, 27, 51, 153, 0, 7, 4, 167, 0, 4, 3, 61, 42, 180, 0, 26, 27, 50, 42, 180, 0, 19]
theorem whX10_keep_0 : WLy cX10_keep 0 wlX10_keep_0 := by decide +kernel
theorem dX10_keep_0 : decode cX10_keep 0 = .ok (.iload_n 1, 1) := zD27 whX10_keep_0 (p := 0) rfl
theorem dX10_keep_1 : decode cX10_keep 1 = .ok (.invokestatic 274, 3) := zD184 whX10_keep_0 (p := 1) rfl rfl
theorem dX10_keep_4 : decode cX10_keep 4 = .ok (.ifCond .ne 5, 3) := zD154p whX10_keep_0 (p := 4) (v := 5) rfl rfl rfl
theorem dX10_keep_7 : decode cX10_keep 7 = .ok (.iconst (-1), 1) := zD2 whX10_keep_0 (p := 7) rfl
theorem dX10_keep_8 : decode cX10_keep 8 = .ok (.ireturn, 1) := zD172 whX10_keep_0 (p := 8) rfl
theorem dX10_keep_9 : decode cX10_keep 9 = .ok (.aload_n 0, 1) := zD42 whX10_keep_0 (p := 9) rfl
theorem dX10_keep_10 : decode cX10_keep 10 = .ok (.getfield 30, 3) := zD180 whX10_keep_0 (p := 10) rfl rfl
theorem dX10_keep_13 : decode cX10_keep 13 = .ok (.iload_n 1, 1) := zD27 whX10_keep_0 (p := 13) rfl
theorem dX10_keep_14 : decode cX10_keep 14 = .ok (.baload, 1) := zD51 whX10_keep_0 (p := 14) rfl
theorem dX10_keep_15 : decode cX10_keep 15 = .ok (.ifCond .eq 7, 3) := zD153p whX10_keep_0 (p := 15) (v := 7) rfl rfl rfl
theorem dX10_keep_18 : decode cX10_keep 18 = .ok (.iconst 1, 1) := zD4 whX10_keep_0 (p := 18) rfl
theorem dX10_keep_19 : decode cX10_keep 19 = .ok (.goto 4, 3) := zD167p whX10_keep_0 (p := 19) (v := 4) rfl rfl rfl
theorem dX10_keep_22 : decode cX10_keep 22 = .ok (.iconst 0, 1) := zD3 whX10_keep_0 (p := 22) rfl
theorem dX10_keep_23 : decode cX10_keep 23 = .ok (.istore_n 2, 1) := zD61 whX10_keep_0 (p := 23) rfl
theorem dX10_keep_24 : decode cX10_keep 24 = .ok (.aload_n 0, 1) := zD42 whX10_keep_0 (p := 24) rfl
theorem dX10_keep_25 : decode cX10_keep 25 = .ok (.getfield 26, 3) := zD180 whX10_keep_0 (p := 25) rfl rfl
theorem dX10_keep_28 : decode cX10_keep 28 = .ok (.iload_n 1, 1) := zD27 whX10_keep_0 (p := 28) rfl
theorem dX10_keep_29 : decode cX10_keep 29 = .ok (.aaload, 1) := zD50 whX10_keep_0 (p := 29) rfl
theorem dX10_keep_30 : decode cX10_keep 30 = .ok (.aload_n 0, 1) := zD42 whX10_keep_0 (p := 30) rfl
theorem dX10_keep_31 : decode cX10_keep 31 = .ok (.getfield 19, 3) := zD180 whX10_keep_0 (p := 31) rfl rfl
def wlX10_keep_1 : List Nat := [182, 0, 112, 42, 180, 0, 30, 27, 4, 84, 28, 172]
theorem whX10_keep_1 : WLy cX10_keep 34 wlX10_keep_1 := by decide +kernel
theorem dX10_keep_34 : decode cX10_keep 34 = .ok (.invokevirtual 112, 3) := zD182 whX10_keep_1 (p := 0) rfl rfl
theorem dX10_keep_37 : decode cX10_keep 37 = .ok (.aload_n 0, 1) := zD42 whX10_keep_1 (p := 3) rfl
theorem dX10_keep_38 : decode cX10_keep 38 = .ok (.getfield 30, 3) := zD180 whX10_keep_1 (p := 4) rfl rfl
theorem dX10_keep_41 : decode cX10_keep 41 = .ok (.iload_n 1, 1) := zD27 whX10_keep_1 (p := 7) rfl
theorem dX10_keep_42 : decode cX10_keep 42 = .ok (.iconst 1, 1) := zD4 whX10_keep_1 (p := 8) rfl
theorem dX10_keep_43 : decode cX10_keep 43 = .ok (.bastore, 1) := zD84 whX10_keep_1 (p := 9) rfl
theorem dX10_keep_44 : decode cX10_keep 44 = .ok (.iload_n 2, 1) := zD28 whX10_keep_1 (p := 10) rfl
theorem dX10_keep_45 : decode cX10_keep 45 = .ok (.ireturn, 1) := zD172 whX10_keep_1 (p := 11) rfl
def wlX10_back_0 : List Nat := [27, 184, 1, 18, 154, 0, 5, 2, 172, 42, 180, 0, 30, 27, 51, 154, 0, 6, 16, 254, 172, 42, 180, 0, 19, 42, 180, 0, 26, 27, 50, 182, 0, 112]
theorem whX10_back_0 : WLy cX10_back 0 wlX10_back_0 := by decide +kernel
theorem dX10_back_0 : decode cX10_back 0 = .ok (.iload_n 1, 1) := zD27 whX10_back_0 (p := 0) rfl
theorem dX10_back_1 : decode cX10_back 1 = .ok (.invokestatic 274, 3) := zD184 whX10_back_0 (p := 1) rfl rfl
theorem dX10_back_4 : decode cX10_back 4 = .ok (.ifCond .ne 5, 3) := zD154p whX10_back_0 (p := 4) (v := 5) rfl rfl rfl
theorem dX10_back_7 : decode cX10_back 7 = .ok (.iconst (-1), 1) := zD2 whX10_back_0 (p := 7) rfl
theorem dX10_back_8 : decode cX10_back 8 = .ok (.ireturn, 1) := zD172 whX10_back_0 (p := 8) rfl
theorem dX10_back_9 : decode cX10_back 9 = .ok (.aload_n 0, 1) := zD42 whX10_back_0 (p := 9) rfl
theorem dX10_back_10 : decode cX10_back 10 = .ok (.getfield 30, 3) := zD180 whX10_back_0 (p := 10) rfl rfl
theorem dX10_back_13 : decode cX10_back 13 = .ok (.iload_n 1, 1) := zD27 whX10_back_0 (p := 13) rfl
theorem dX10_back_14 : decode cX10_back 14 = .ok (.baload, 1) := zD51 whX10_back_0 (p := 14) rfl
theorem dX10_back_15 : decode cX10_back 15 = .ok (.ifCond .ne 6, 3) := zD154p whX10_back_0 (p := 15) (v := 6) rfl rfl rfl
theorem dX10_back_18 : decode cX10_back 18 = .ok (.bipush (-2), 2) := zD16n whX10_back_0 (p := 18) (v := 2) rfl rfl rfl
theorem dX10_back_20 : decode cX10_back 20 = .ok (.ireturn, 1) := zD172 whX10_back_0 (p := 20) rfl
theorem dX10_back_21 : decode cX10_back 21 = .ok (.aload_n 0, 1) := zD42 whX10_back_0 (p := 21) rfl
theorem dX10_back_22 : decode cX10_back 22 = .ok (.getfield 19, 3) := zD180 whX10_back_0 (p := 22) rfl rfl
theorem dX10_back_25 : decode cX10_back 25 = .ok (.aload_n 0, 1) := zD42 whX10_back_0 (p := 25) rfl
theorem dX10_back_26 : decode cX10_back 26 = .ok (.getfield 26, 3) := zD180 whX10_back_0 (p := 26) rfl rfl
theorem dX10_back_29 : decode cX10_back 29 = .ok (.iload_n 1, 1) := zD27 whX10_back_0 (p := 29) rfl
theorem dX10_back_30 : decode cX10_back 30 = .ok (.aaload, 1) := zD50 whX10_back_0 (p := 30) rfl
theorem dX10_back_31 : decode cX10_back 31 = .ok (.invokevirtual 112, 3) := zD182 whX10_back_0 (p := 31) rfl rfl
def wlX10_back_1 : List Nat := [42, 180, 0, 19, 180, 0, 123, 172]
theorem whX10_back_1 : WLy cX10_back 34 wlX10_back_1 := by decide +kernel
theorem dX10_back_34 : decode cX10_back 34 = .ok (.aload_n 0, 1) := zD42 whX10_back_1 (p := 0) rfl
theorem dX10_back_35 : decode cX10_back 35 = .ok (.getfield 19, 3) := zD180 whX10_back_1 (p := 1) rfl rfl
theorem dX10_back_38 : decode cX10_back 38 = .ok (.getfield 123, 3) := zD180 whX10_back_1 (p := 4) rfl rfl
theorem dX10_back_41 : decode cX10_back 41 = .ok (.ireturn, 1) := zD172 whX10_back_1 (p := 7) rfl
def wlX10_sheet_0 : List Nat := [27, 184, 1, 21, 153, 0, 16, 28, 184, 1, 24, 153, 0, 9, 29, 16, 40, 164, 0, 5, 2, 172, 29, 156, 0, 6, 16, 242, 172, 42, 180, 0, 79]
theorem whX10_sheet_0 : WLy cX10_sheet 0 wlX10_sheet_0 := by decide +kernel
theorem dX10_sheet_0 : decode cX10_sheet 0 = .ok (.iload_n 1, 1) := zD27 whX10_sheet_0 (p := 0) rfl
theorem dX10_sheet_1 : decode cX10_sheet 1 = .ok (.invokestatic 277, 3) := zD184 whX10_sheet_0 (p := 1) rfl rfl
theorem dX10_sheet_4 : decode cX10_sheet 4 = .ok (.ifCond .eq 16, 3) := zD153p whX10_sheet_0 (p := 4) (v := 16) rfl rfl rfl
theorem dX10_sheet_7 : decode cX10_sheet 7 = .ok (.iload_n 2, 1) := zD28 whX10_sheet_0 (p := 7) rfl
theorem dX10_sheet_8 : decode cX10_sheet 8 = .ok (.invokestatic 280, 3) := zD184 whX10_sheet_0 (p := 8) rfl rfl
theorem dX10_sheet_11 : decode cX10_sheet 11 = .ok (.ifCond .eq 9, 3) := zD153p whX10_sheet_0 (p := 11) (v := 9) rfl rfl rfl
theorem dX10_sheet_14 : decode cX10_sheet 14 = .ok (.iload_n 3, 1) := zD29 whX10_sheet_0 (p := 14) rfl
theorem dX10_sheet_15 : decode cX10_sheet 15 = .ok (.bipush 40, 2) := zD16p whX10_sheet_0 (p := 15) (v := 40) rfl rfl rfl
theorem dX10_sheet_17 : decode cX10_sheet 17 = .ok (.if_icmp .le 5, 3) := zD164p whX10_sheet_0 (p := 17) (v := 5) rfl rfl rfl
theorem dX10_sheet_20 : decode cX10_sheet 20 = .ok (.iconst (-1), 1) := zD2 whX10_sheet_0 (p := 20) rfl
theorem dX10_sheet_21 : decode cX10_sheet 21 = .ok (.ireturn, 1) := zD172 whX10_sheet_0 (p := 21) rfl
theorem dX10_sheet_22 : decode cX10_sheet 22 = .ok (.iload_n 3, 1) := zD29 whX10_sheet_0 (p := 22) rfl
theorem dX10_sheet_23 : decode cX10_sheet 23 = .ok (.ifCond .ge 6, 3) := zD156p whX10_sheet_0 (p := 23) (v := 6) rfl rfl rfl
theorem dX10_sheet_26 : decode cX10_sheet 26 = .ok (.bipush (-14), 2) := zD16n whX10_sheet_0 (p := 26) (v := 14) rfl rfl rfl
theorem dX10_sheet_28 : decode cX10_sheet 28 = .ok (.ireturn, 1) := zD172 whX10_sheet_0 (p := 28) rfl
theorem dX10_sheet_29 : decode cX10_sheet 29 = .ok (.aload_n 0, 1) := zD42 whX10_sheet_0 (p := 29) rfl
theorem dX10_sheet_30 : decode cX10_sheet 30 = .ok (.getfield 79, 3) := zD180 whX10_sheet_0 (p := 30) rfl rfl
def wlX10_sheet_1 : List Nat := [27, 28, 29, 182, 1, 27, 4, 172]
theorem whX10_sheet_1 : WLy cX10_sheet 33 wlX10_sheet_1 := by decide +kernel
theorem dX10_sheet_33 : decode cX10_sheet 33 = .ok (.iload_n 1, 1) := zD27 whX10_sheet_1 (p := 0) rfl
theorem dX10_sheet_34 : decode cX10_sheet 34 = .ok (.iload_n 2, 1) := zD28 whX10_sheet_1 (p := 1) rfl
theorem dX10_sheet_35 : decode cX10_sheet 35 = .ok (.iload_n 3, 1) := zD29 whX10_sheet_1 (p := 2) rfl
theorem dX10_sheet_36 : decode cX10_sheet 36 = .ok (.invokevirtual 283, 3) := zD182 whX10_sheet_1 (p := 3) rfl rfl
theorem dX10_sheet_39 : decode cX10_sheet 39 = .ok (.iconst 1, 1) := zD4 whX10_sheet_1 (p := 6) rfl
theorem dX10_sheet_40 : decode cX10_sheet 40 = .ok (.ireturn, 1) := zD172 whX10_sheet_1 (p := 7) rfl
def wlX10_lay_0 : List Nat := [27, 184, 1, 21, 154, 0, 5, 2, 172, 42, 180, 0, 79, 27, 28, 133, 182, 1, 31, 54, 4, 21, 4, 153, 0, 9, 16, 246, 21, 4, 100, 172]
theorem whX10_lay_0 : WLy cX10_lay 0 wlX10_lay_0 := by decide +kernel
theorem dX10_lay_0 : decode cX10_lay 0 = .ok (.iload_n 1, 1) := zD27 whX10_lay_0 (p := 0) rfl
theorem dX10_lay_1 : decode cX10_lay 1 = .ok (.invokestatic 277, 3) := zD184 whX10_lay_0 (p := 1) rfl rfl
theorem dX10_lay_4 : decode cX10_lay 4 = .ok (.ifCond .ne 5, 3) := zD154p whX10_lay_0 (p := 4) (v := 5) rfl rfl rfl
theorem dX10_lay_7 : decode cX10_lay 7 = .ok (.iconst (-1), 1) := zD2 whX10_lay_0 (p := 7) rfl
theorem dX10_lay_8 : decode cX10_lay 8 = .ok (.ireturn, 1) := zD172 whX10_lay_0 (p := 8) rfl
theorem dX10_lay_9 : decode cX10_lay 9 = .ok (.aload_n 0, 1) := zD42 whX10_lay_0 (p := 9) rfl
theorem dX10_lay_10 : decode cX10_lay 10 = .ok (.getfield 79, 3) := zD180 whX10_lay_0 (p := 10) rfl rfl
theorem dX10_lay_13 : decode cX10_lay 13 = .ok (.iload_n 1, 1) := zD27 whX10_lay_0 (p := 13) rfl
theorem dX10_lay_14 : decode cX10_lay 14 = .ok (.iload_n 2, 1) := zD28 whX10_lay_0 (p := 14) rfl
theorem dX10_lay_15 : decode cX10_lay 15 = .ok (.i2l, 1) := zD133 whX10_lay_0 (p := 15) rfl
theorem dX10_lay_16 : decode cX10_lay 16 = .ok (.invokevirtual 287, 3) := zD182 whX10_lay_0 (p := 16) rfl rfl
theorem dX10_lay_19 : decode cX10_lay 19 = .ok (.istore 4, 2) := zD54 whX10_lay_0 (p := 19) rfl
theorem dX10_lay_21 : decode cX10_lay 21 = .ok (.iload 4, 2) := zD21 whX10_lay_0 (p := 21) rfl
theorem dX10_lay_23 : decode cX10_lay 23 = .ok (.ifCond .eq 9, 3) := zD153p whX10_lay_0 (p := 23) (v := 9) rfl rfl rfl
theorem dX10_lay_26 : decode cX10_lay 26 = .ok (.bipush (-10), 2) := zD16n whX10_lay_0 (p := 26) (v := 10) rfl rfl rfl
theorem dX10_lay_28 : decode cX10_lay 28 = .ok (.iload 4, 2) := zD21 whX10_lay_0 (p := 28) rfl
theorem dX10_lay_30 : decode cX10_lay 30 = .ok (.isub, 1) := zD100 whX10_lay_0 (p := 30) rfl
theorem dX10_lay_31 : decode cX10_lay 31 = .ok (.ireturn, 1) := zD172 whX10_lay_0 (p := 31) rfl
def wlX10_lay_1 : List Nat := [42, 180, 0, 79, 27, 28, 29, 182, 1, 35, 4, 172]
theorem whX10_lay_1 : WLy cX10_lay 32 wlX10_lay_1 := by decide +kernel
theorem dX10_lay_32 : decode cX10_lay 32 = .ok (.aload_n 0, 1) := zD42 whX10_lay_1 (p := 0) rfl
theorem dX10_lay_33 : decode cX10_lay 33 = .ok (.getfield 79, 3) := zD180 whX10_lay_1 (p := 1) rfl rfl
theorem dX10_lay_36 : decode cX10_lay 36 = .ok (.iload_n 1, 1) := zD27 whX10_lay_1 (p := 4) rfl
theorem dX10_lay_37 : decode cX10_lay 37 = .ok (.iload_n 2, 1) := zD28 whX10_lay_1 (p := 5) rfl
theorem dX10_lay_38 : decode cX10_lay 38 = .ok (.iload_n 3, 1) := zD29 whX10_lay_1 (p := 6) rfl
theorem dX10_lay_39 : decode cX10_lay 39 = .ok (.invokevirtual 291, 3) := zD182 whX10_lay_1 (p := 7) rfl rfl
theorem dX10_lay_42 : decode cX10_lay 42 = .ok (.iconst 1, 1) := zD4 whX10_lay_1 (p := 10) rfl
theorem dX10_lay_43 : decode cX10_lay 43 = .ok (.ireturn, 1) := zD172 whX10_lay_1 (p := 11) rfl
def wlX10_read_0 : List Nat := [27, 184, 1, 21, 153, 0, 22, 28, 184, 1, 24, 153, 0, 15, 21, 4, 155, 0, 10, 21, 4, 16, 20, 164, 0, 5, 2, 172, 42, 180, 0, 79]
theorem whX10_read_0 : WLy cX10_read 0 wlX10_read_0 := by decide +kernel
theorem dX10_read_0 : decode cX10_read 0 = .ok (.iload_n 1, 1) := zD27 whX10_read_0 (p := 0) rfl
theorem dX10_read_1 : decode cX10_read 1 = .ok (.invokestatic 277, 3) := zD184 whX10_read_0 (p := 1) rfl rfl
theorem dX10_read_4 : decode cX10_read 4 = .ok (.ifCond .eq 22, 3) := zD153p whX10_read_0 (p := 4) (v := 22) rfl rfl rfl
theorem dX10_read_7 : decode cX10_read 7 = .ok (.iload_n 2, 1) := zD28 whX10_read_0 (p := 7) rfl
theorem dX10_read_8 : decode cX10_read 8 = .ok (.invokestatic 280, 3) := zD184 whX10_read_0 (p := 8) rfl rfl
theorem dX10_read_11 : decode cX10_read 11 = .ok (.ifCond .eq 15, 3) := zD153p whX10_read_0 (p := 11) (v := 15) rfl rfl rfl
theorem dX10_read_14 : decode cX10_read 14 = .ok (.iload 4, 2) := zD21 whX10_read_0 (p := 14) rfl
theorem dX10_read_16 : decode cX10_read 16 = .ok (.ifCond .lt 10, 3) := zD155p whX10_read_0 (p := 16) (v := 10) rfl rfl rfl
theorem dX10_read_19 : decode cX10_read 19 = .ok (.iload 4, 2) := zD21 whX10_read_0 (p := 19) rfl
theorem dX10_read_21 : decode cX10_read 21 = .ok (.bipush 20, 2) := zD16p whX10_read_0 (p := 21) (v := 20) rfl rfl rfl
theorem dX10_read_23 : decode cX10_read 23 = .ok (.if_icmp .le 5, 3) := zD164p whX10_read_0 (p := 23) (v := 5) rfl rfl rfl
theorem dX10_read_26 : decode cX10_read 26 = .ok (.iconst (-1), 1) := zD2 whX10_read_0 (p := 26) rfl
theorem dX10_read_27 : decode cX10_read 27 = .ok (.ireturn, 1) := zD172 whX10_read_0 (p := 27) rfl
theorem dX10_read_28 : decode cX10_read 28 = .ok (.aload_n 0, 1) := zD42 whX10_read_0 (p := 28) rfl
theorem dX10_read_29 : decode cX10_read 29 = .ok (.getfield 79, 3) := zD180 whX10_read_0 (p := 29) rfl rfl
def wlX10_read_1 : List Nat := [27, 28, 29, 21, 4, 182, 1, 38, 3, 54, 5, 21, 5, 42, 180, 0, 79, 180, 1, 42, 162, 0, 55, 42, 180, 0, 19, 42, 180, 0, 79, 180, 1, 45]
theorem whX10_read_1 : WLy cX10_read 32 wlX10_read_1 := by decide +kernel
theorem dX10_read_32 : decode cX10_read 32 = .ok (.iload_n 1, 1) := zD27 whX10_read_1 (p := 0) rfl
theorem dX10_read_33 : decode cX10_read 33 = .ok (.iload_n 2, 1) := zD28 whX10_read_1 (p := 1) rfl
theorem dX10_read_34 : decode cX10_read 34 = .ok (.iload_n 3, 1) := zD29 whX10_read_1 (p := 2) rfl
theorem dX10_read_35 : decode cX10_read 35 = .ok (.iload 4, 2) := zD21 whX10_read_1 (p := 3) rfl
theorem dX10_read_37 : decode cX10_read 37 = .ok (.invokevirtual 294, 3) := zD182 whX10_read_1 (p := 5) rfl rfl
theorem dX10_read_40 : decode cX10_read 40 = .ok (.iconst 0, 1) := zD3 whX10_read_1 (p := 8) rfl
theorem dX10_read_41 : decode cX10_read 41 = .ok (.istore 5, 2) := zD54 whX10_read_1 (p := 9) rfl
theorem dX10_read_43 : decode cX10_read 43 = .ok (.iload 5, 2) := zD21 whX10_read_1 (p := 11) rfl
theorem dX10_read_45 : decode cX10_read 45 = .ok (.aload_n 0, 1) := zD42 whX10_read_1 (p := 13) rfl
theorem dX10_read_46 : decode cX10_read 46 = .ok (.getfield 79, 3) := zD180 whX10_read_1 (p := 14) rfl rfl
theorem dX10_read_49 : decode cX10_read 49 = .ok (.getfield 298, 3) := zD180 whX10_read_1 (p := 17) rfl rfl
theorem dX10_read_52 : decode cX10_read 52 = .ok (.if_icmp .ge 55, 3) := zD162p whX10_read_1 (p := 20) (v := 55) rfl rfl rfl
theorem dX10_read_55 : decode cX10_read 55 = .ok (.aload_n 0, 1) := zD42 whX10_read_1 (p := 23) rfl
theorem dX10_read_56 : decode cX10_read 56 = .ok (.getfield 19, 3) := zD180 whX10_read_1 (p := 24) rfl rfl
theorem dX10_read_59 : decode cX10_read 59 = .ok (.aload_n 0, 1) := zD42 whX10_read_1 (p := 27) rfl
theorem dX10_read_60 : decode cX10_read 60 = .ok (.getfield 79, 3) := zD180 whX10_read_1 (p := 28) rfl rfl
theorem dX10_read_63 : decode cX10_read 63 = .ok (.getfield 301, 3) := zD180 whX10_read_1 (p := 31) rfl rfl
def wlX10_read_2 : List Nat := [21, 5, 46, 182, 0, 132, 153, 0, 23, 42, 180, 0, 19, 42, 180, 0, 79, 180, 1, 48, 21, 5, 46, 182, 0, 146, 154, 0, 9, 16, 236, 21, 5]
theorem whX10_read_2 : WLy cX10_read 66 wlX10_read_2 := by decide +kernel
theorem dX10_read_66 : decode cX10_read 66 = .ok (.iload 5, 2) := zD21 whX10_read_2 (p := 0) rfl
theorem dX10_read_68 : decode cX10_read 68 = .ok (.iaload, 1) := zD46 whX10_read_2 (p := 2) rfl
theorem dX10_read_69 : decode cX10_read 69 = .ok (.invokevirtual 132, 3) := zD182 whX10_read_2 (p := 3) rfl rfl
theorem dX10_read_72 : decode cX10_read 72 = .ok (.ifCond .eq 23, 3) := zD153p whX10_read_2 (p := 6) (v := 23) rfl rfl rfl
theorem dX10_read_75 : decode cX10_read 75 = .ok (.aload_n 0, 1) := zD42 whX10_read_2 (p := 9) rfl
theorem dX10_read_76 : decode cX10_read 76 = .ok (.getfield 19, 3) := zD180 whX10_read_2 (p := 10) rfl rfl
theorem dX10_read_79 : decode cX10_read 79 = .ok (.aload_n 0, 1) := zD42 whX10_read_2 (p := 13) rfl
theorem dX10_read_80 : decode cX10_read 80 = .ok (.getfield 79, 3) := zD180 whX10_read_2 (p := 14) rfl rfl
theorem dX10_read_83 : decode cX10_read 83 = .ok (.getfield 304, 3) := zD180 whX10_read_2 (p := 17) rfl rfl
theorem dX10_read_86 : decode cX10_read 86 = .ok (.iload 5, 2) := zD21 whX10_read_2 (p := 20) rfl
theorem dX10_read_88 : decode cX10_read 88 = .ok (.iaload, 1) := zD46 whX10_read_2 (p := 22) rfl
theorem dX10_read_89 : decode cX10_read 89 = .ok (.invokevirtual 146, 3) := zD182 whX10_read_2 (p := 23) rfl rfl
theorem dX10_read_92 : decode cX10_read 92 = .ok (.ifCond .ne 9, 3) := zD154p whX10_read_2 (p := 26) (v := 9) rfl rfl rfl
theorem dX10_read_95 : decode cX10_read 95 = .ok (.bipush (-20), 2) := zD16n whX10_read_2 (p := 29) (v := 20) rfl rfl rfl
theorem dX10_read_97 : decode cX10_read 97 = .ok (.iload 5, 2) := zD21 whX10_read_2 (p := 31) rfl
def wlX10_read_3 : List Nat := [100, 172, 132, 5, 1, 167, 255, 195, 3, 54, 5, 21, 5, 42, 180, 0, 79, 180, 1, 42, 162, 0, 37, 42, 180, 0, 19, 180, 0, 143, 42, 180, 0, 79]
theorem whX10_read_3 : WLy cX10_read 99 wlX10_read_3 := by decide +kernel
theorem dX10_read_99 : decode cX10_read 99 = .ok (.isub, 1) := zD100 whX10_read_3 (p := 0) rfl
theorem dX10_read_100 : decode cX10_read 100 = .ok (.ireturn, 1) := zD172 whX10_read_3 (p := 1) rfl
theorem dX10_read_101 : decode cX10_read 101 = .ok (.iinc 5 1, 3) := zD132p whX10_read_3 (p := 2) (v := 1) rfl rfl rfl
theorem dX10_read_104 : decode cX10_read 104 = .ok (.goto (-61), 3) := zD167n whX10_read_3 (p := 5) (v := 61) rfl rfl rfl
theorem dX10_read_107 : decode cX10_read 107 = .ok (.iconst 0, 1) := zD3 whX10_read_3 (p := 8) rfl
theorem dX10_read_108 : decode cX10_read 108 = .ok (.istore 5, 2) := zD54 whX10_read_3 (p := 9) rfl
theorem dX10_read_110 : decode cX10_read 110 = .ok (.iload 5, 2) := zD21 whX10_read_3 (p := 11) rfl
theorem dX10_read_112 : decode cX10_read 112 = .ok (.aload_n 0, 1) := zD42 whX10_read_3 (p := 13) rfl
theorem dX10_read_113 : decode cX10_read 113 = .ok (.getfield 79, 3) := zD180 whX10_read_3 (p := 14) rfl rfl
theorem dX10_read_116 : decode cX10_read 116 = .ok (.getfield 298, 3) := zD180 whX10_read_3 (p := 17) rfl rfl
theorem dX10_read_119 : decode cX10_read 119 = .ok (.if_icmp .ge 37, 3) := zD162p whX10_read_3 (p := 20) (v := 37) rfl rfl rfl
theorem dX10_read_122 : decode cX10_read 122 = .ok (.aload_n 0, 1) := zD42 whX10_read_3 (p := 23) rfl
theorem dX10_read_123 : decode cX10_read 123 = .ok (.getfield 19, 3) := zD180 whX10_read_3 (p := 24) rfl rfl
theorem dX10_read_126 : decode cX10_read 126 = .ok (.getfield 143, 3) := zD180 whX10_read_3 (p := 27) rfl rfl
theorem dX10_read_129 : decode cX10_read 129 = .ok (.aload_n 0, 1) := zD42 whX10_read_3 (p := 30) rfl
theorem dX10_read_130 : decode cX10_read 130 = .ok (.getfield 79, 3) := zD180 whX10_read_3 (p := 31) rfl rfl
def wlX10_read_4 : List Nat := [180, 1, 45, 21, 5, 46, 42, 180, 0, 79, 180, 1, 48, 21, 5, 46, 79, 132, 5, 1, 167, 255, 213, 42, 42, 180, 0, 79, 180, 1, 51, 181, 1, 52]
theorem whX10_read_4 : WLy cX10_read 133 wlX10_read_4 := by decide +kernel
theorem dX10_read_133 : decode cX10_read 133 = .ok (.getfield 301, 3) := zD180 whX10_read_4 (p := 0) rfl rfl
theorem dX10_read_136 : decode cX10_read 136 = .ok (.iload 5, 2) := zD21 whX10_read_4 (p := 3) rfl
theorem dX10_read_138 : decode cX10_read 138 = .ok (.iaload, 1) := zD46 whX10_read_4 (p := 5) rfl
theorem dX10_read_139 : decode cX10_read 139 = .ok (.aload_n 0, 1) := zD42 whX10_read_4 (p := 6) rfl
theorem dX10_read_140 : decode cX10_read 140 = .ok (.getfield 79, 3) := zD180 whX10_read_4 (p := 7) rfl rfl
theorem dX10_read_143 : decode cX10_read 143 = .ok (.getfield 304, 3) := zD180 whX10_read_4 (p := 10) rfl rfl
theorem dX10_read_146 : decode cX10_read 146 = .ok (.iload 5, 2) := zD21 whX10_read_4 (p := 13) rfl
theorem dX10_read_148 : decode cX10_read 148 = .ok (.iaload, 1) := zD46 whX10_read_4 (p := 15) rfl
theorem dX10_read_149 : decode cX10_read 149 = .ok (.iastore, 1) := zD79 whX10_read_4 (p := 16) rfl
theorem dX10_read_150 : decode cX10_read 150 = .ok (.iinc 5 1, 3) := zD132p whX10_read_4 (p := 17) (v := 1) rfl rfl rfl
theorem dX10_read_153 : decode cX10_read 153 = .ok (.goto (-43), 3) := zD167n whX10_read_4 (p := 20) (v := 43) rfl rfl rfl
theorem dX10_read_156 : decode cX10_read 156 = .ok (.aload_n 0, 1) := zD42 whX10_read_4 (p := 23) rfl
theorem dX10_read_157 : decode cX10_read 157 = .ok (.aload_n 0, 1) := zD42 whX10_read_4 (p := 24) rfl
theorem dX10_read_158 : decode cX10_read 158 = .ok (.getfield 79, 3) := zD180 whX10_read_4 (p := 25) rfl rfl
theorem dX10_read_161 : decode cX10_read 161 = .ok (.getfield 307, 3) := zD180 whX10_read_4 (p := 28) rfl rfl
theorem dX10_read_164 : decode cX10_read 164 = .ok (.putfield 308, 3) := zD181 whX10_read_4 (p := 31) rfl rfl
def wlX10_read_5 : List Nat := [42, 180, 0, 79, 180, 1, 42, 172]
theorem whX10_read_5 : WLy cX10_read 167 wlX10_read_5 := by decide +kernel
theorem dX10_read_167 : decode cX10_read 167 = .ok (.aload_n 0, 1) := zD42 whX10_read_5 (p := 0) rfl
theorem dX10_read_168 : decode cX10_read 168 = .ok (.getfield 79, 3) := zD180 whX10_read_5 (p := 1) rfl rfl
theorem dX10_read_171 : decode cX10_read 171 = .ok (.getfield 298, 3) := zD180 whX10_read_5 (p := 4) rfl rfl
theorem dX10_read_174 : decode cX10_read 174 = .ok (.ireturn, 1) := zD172 whX10_read_5 (p := 7) rfl
def wlX10_torn_0 : List Nat := [42, 180, 1, 52, 172]
theorem whX10_torn_0 : WLy cX10_torn 0 wlX10_torn_0 := by decide +kernel
theorem dX10_torn_0 : decode cX10_torn 0 = .ok (.aload_n 0, 1) := zD42 whX10_torn_0 (p := 0) rfl
theorem dX10_torn_1 : decode cX10_torn 1 = .ok (.getfield 308, 3) := zD180 whX10_torn_0 (p := 1) rfl rfl
theorem dX10_torn_4 : decode cX10_torn 4 = .ok (.ireturn, 1) := zD172 whX10_torn_0 (p := 4) rfl
def wlX10_count_0 : List Nat := [27]
theorem whX10_count_0 : WLy cX10_count 0 wlX10_count_0 := by decide +kernel
theorem dX10_count_0 : decode cX10_count 0 = .ok (.iload_n 1, 1) := zD27 whX10_count_0 (p := 0) rfl
def wlX10_count_1 : List Nat := [42, 180, 0, 58, 180, 0, 116, 172, 42, 180, 0, 65, 180, 0, 119, 172, 42, 180, 0, 30, 3, 51, 153, 0, 7, 4, 167, 0, 4, 3, 42, 180, 0, 30]
theorem whX10_count_1 : WLy cX10_count 40 wlX10_count_1 := by decide +kernel
theorem dX10_count_40 : decode cX10_count 40 = .ok (.aload_n 0, 1) := zD42 whX10_count_1 (p := 0) rfl
theorem dX10_count_41 : decode cX10_count 41 = .ok (.getfield 58, 3) := zD180 whX10_count_1 (p := 1) rfl rfl
theorem dX10_count_44 : decode cX10_count 44 = .ok (.getfield 116, 3) := zD180 whX10_count_1 (p := 4) rfl rfl
theorem dX10_count_47 : decode cX10_count 47 = .ok (.ireturn, 1) := zD172 whX10_count_1 (p := 7) rfl
theorem dX10_count_48 : decode cX10_count 48 = .ok (.aload_n 0, 1) := zD42 whX10_count_1 (p := 8) rfl
theorem dX10_count_49 : decode cX10_count 49 = .ok (.getfield 65, 3) := zD180 whX10_count_1 (p := 9) rfl rfl
theorem dX10_count_52 : decode cX10_count 52 = .ok (.getfield 119, 3) := zD180 whX10_count_1 (p := 12) rfl rfl
theorem dX10_count_55 : decode cX10_count 55 = .ok (.ireturn, 1) := zD172 whX10_count_1 (p := 15) rfl
theorem dX10_count_56 : decode cX10_count 56 = .ok (.aload_n 0, 1) := zD42 whX10_count_1 (p := 16) rfl
theorem dX10_count_57 : decode cX10_count 57 = .ok (.getfield 30, 3) := zD180 whX10_count_1 (p := 17) rfl rfl
theorem dX10_count_60 : decode cX10_count 60 = .ok (.iconst 0, 1) := zD3 whX10_count_1 (p := 20) rfl
theorem dX10_count_61 : decode cX10_count 61 = .ok (.baload, 1) := zD51 whX10_count_1 (p := 21) rfl
theorem dX10_count_62 : decode cX10_count 62 = .ok (.ifCond .eq 7, 3) := zD153p whX10_count_1 (p := 22) (v := 7) rfl rfl rfl
theorem dX10_count_65 : decode cX10_count 65 = .ok (.iconst 1, 1) := zD4 whX10_count_1 (p := 25) rfl
theorem dX10_count_66 : decode cX10_count 66 = .ok (.goto 4, 3) := zD167p whX10_count_1 (p := 26) (v := 4) rfl rfl rfl
theorem dX10_count_69 : decode cX10_count 69 = .ok (.iconst 0, 1) := zD3 whX10_count_1 (p := 29) rfl
theorem dX10_count_70 : decode cX10_count 70 = .ok (.aload_n 0, 1) := zD42 whX10_count_1 (p := 30) rfl
theorem dX10_count_71 : decode cX10_count 71 = .ok (.getfield 30, 3) := zD180 whX10_count_1 (p := 31) rfl rfl
def wlX10_count_2 : List Nat := [4, 51, 153, 0, 7, 4, 167, 0, 4, 3, 96, 172, 42, 180, 0, 10, 180, 0, 83, 180, 0, 93, 172, 42, 180, 0, 79, 3, 182, 1, 55, 172]
theorem whX10_count_2 : WLy cX10_count 74 wlX10_count_2 := by decide +kernel
theorem dX10_count_74 : decode cX10_count 74 = .ok (.iconst 1, 1) := zD4 whX10_count_2 (p := 0) rfl
theorem dX10_count_75 : decode cX10_count 75 = .ok (.baload, 1) := zD51 whX10_count_2 (p := 1) rfl
theorem dX10_count_76 : decode cX10_count 76 = .ok (.ifCond .eq 7, 3) := zD153p whX10_count_2 (p := 2) (v := 7) rfl rfl rfl
theorem dX10_count_79 : decode cX10_count 79 = .ok (.iconst 1, 1) := zD4 whX10_count_2 (p := 5) rfl
theorem dX10_count_80 : decode cX10_count 80 = .ok (.goto 4, 3) := zD167p whX10_count_2 (p := 6) (v := 4) rfl rfl rfl
theorem dX10_count_83 : decode cX10_count 83 = .ok (.iconst 0, 1) := zD3 whX10_count_2 (p := 9) rfl
theorem dX10_count_84 : decode cX10_count 84 = .ok (.iadd, 1) := zD96 whX10_count_2 (p := 10) rfl
theorem dX10_count_85 : decode cX10_count 85 = .ok (.ireturn, 1) := zD172 whX10_count_2 (p := 11) rfl
theorem dX10_count_86 : decode cX10_count 86 = .ok (.aload_n 0, 1) := zD42 whX10_count_2 (p := 12) rfl
theorem dX10_count_87 : decode cX10_count 87 = .ok (.getfield 10, 3) := zD180 whX10_count_2 (p := 13) rfl rfl
theorem dX10_count_90 : decode cX10_count 90 = .ok (.getfield 83, 3) := zD180 whX10_count_2 (p := 16) rfl rfl
theorem dX10_count_93 : decode cX10_count 93 = .ok (.getfield 93, 3) := zD180 whX10_count_2 (p := 19) rfl rfl
theorem dX10_count_96 : decode cX10_count 96 = .ok (.ireturn, 1) := zD172 whX10_count_2 (p := 22) rfl
theorem dX10_count_97 : decode cX10_count 97 = .ok (.aload_n 0, 1) := zD42 whX10_count_2 (p := 23) rfl
theorem dX10_count_98 : decode cX10_count 98 = .ok (.getfield 79, 3) := zD180 whX10_count_2 (p := 24) rfl rfl
theorem dX10_count_101 : decode cX10_count 101 = .ok (.iconst 0, 1) := zD3 whX10_count_2 (p := 27) rfl
theorem dX10_count_102 : decode cX10_count 102 = .ok (.invokevirtual 311, 3) := zD182 whX10_count_2 (p := 28) rfl rfl
theorem dX10_count_105 : decode cX10_count 105 = .ok (.ireturn, 1) := zD172 whX10_count_2 (p := 31) rfl
def wlX10_count_3 : List Nat := [42, 180, 0, 19, 182, 1, 58, 172, 2, 172]
theorem whX10_count_3 : WLy cX10_count 106 wlX10_count_3 := by decide +kernel
theorem dX10_count_106 : decode cX10_count 106 = .ok (.aload_n 0, 1) := zD42 whX10_count_3 (p := 0) rfl
theorem dX10_count_107 : decode cX10_count 107 = .ok (.getfield 19, 3) := zD180 whX10_count_3 (p := 1) rfl rfl
theorem dX10_count_110 : decode cX10_count 110 = .ok (.invokevirtual 314, 3) := zD182 whX10_count_3 (p := 4) rfl rfl
theorem dX10_count_113 : decode cX10_count 113 = .ok (.ireturn, 1) := zD172 whX10_count_3 (p := 7) rfl
theorem dX10_count_114 : decode cX10_count 114 = .ok (.iconst (-1), 1) := zD2 whX10_count_3 (p := 8) rfl
theorem dX10_count_115 : decode cX10_count 115 = .ok (.ireturn, 1) := zD172 whX10_count_3 (p := 9) rfl
def wlX10_isFractionPart_0 : List Nat := [26, 153, 0, 8, 26, 4, 160, 0, 7, 4, 167, 0, 4, 3, 172]
theorem whX10_isFractionPart_0 : WLy cX10_isFractionPart 0 wlX10_isFractionPart_0 := by decide +kernel
theorem dX10_isFractionPart_0 : decode cX10_isFractionPart 0 = .ok (.iload_n 0, 1) := zD26 whX10_isFractionPart_0 (p := 0) rfl
theorem dX10_isFractionPart_1 : decode cX10_isFractionPart 1 = .ok (.ifCond .eq 8, 3) := zD153p whX10_isFractionPart_0 (p := 1) (v := 8) rfl rfl rfl
theorem dX10_isFractionPart_4 : decode cX10_isFractionPart 4 = .ok (.iload_n 0, 1) := zD26 whX10_isFractionPart_0 (p := 4) rfl
theorem dX10_isFractionPart_5 : decode cX10_isFractionPart 5 = .ok (.iconst 1, 1) := zD4 whX10_isFractionPart_0 (p := 5) rfl
theorem dX10_isFractionPart_6 : decode cX10_isFractionPart 6 = .ok (.if_icmp .ne 7, 3) := zD160p whX10_isFractionPart_0 (p := 6) (v := 7) rfl rfl rfl
theorem dX10_isFractionPart_9 : decode cX10_isFractionPart 9 = .ok (.iconst 1, 1) := zD4 whX10_isFractionPart_0 (p := 9) rfl
theorem dX10_isFractionPart_10 : decode cX10_isFractionPart 10 = .ok (.goto 4, 3) := zD167p whX10_isFractionPart_0 (p := 10) (v := 4) rfl rfl rfl
theorem dX10_isFractionPart_13 : decode cX10_isFractionPart 13 = .ok (.iconst 0, 1) := zD3 whX10_isFractionPart_0 (p := 13) rfl
theorem dX10_isFractionPart_14 : decode cX10_isFractionPart 14 = .ok (.ireturn, 1) := zD172 whX10_isFractionPart_0 (p := 14) rfl
def wlX10_isAnswerPart_0 : List Nat := [26, 155, 0, 12, 26, 5, 163, 0, 7, 4, 167, 0, 4, 3, 172]
theorem whX10_isAnswerPart_0 : WLy cX10_isAnswerPart 0 wlX10_isAnswerPart_0 := by decide +kernel
theorem dX10_isAnswerPart_0 : decode cX10_isAnswerPart 0 = .ok (.iload_n 0, 1) := zD26 whX10_isAnswerPart_0 (p := 0) rfl
theorem dX10_isAnswerPart_1 : decode cX10_isAnswerPart 1 = .ok (.ifCond .lt 12, 3) := zD155p whX10_isAnswerPart_0 (p := 1) (v := 12) rfl rfl rfl
theorem dX10_isAnswerPart_4 : decode cX10_isAnswerPart 4 = .ok (.iload_n 0, 1) := zD26 whX10_isAnswerPart_0 (p := 4) rfl
theorem dX10_isAnswerPart_5 : decode cX10_isAnswerPart 5 = .ok (.iconst 2, 1) := zD5 whX10_isAnswerPart_0 (p := 5) rfl
theorem dX10_isAnswerPart_6 : decode cX10_isAnswerPart 6 = .ok (.if_icmp .gt 7, 3) := zD163p whX10_isAnswerPart_0 (p := 6) (v := 7) rfl rfl rfl
theorem dX10_isAnswerPart_9 : decode cX10_isAnswerPart 9 = .ok (.iconst 1, 1) := zD4 whX10_isAnswerPart_0 (p := 9) rfl
theorem dX10_isAnswerPart_10 : decode cX10_isAnswerPart 10 = .ok (.goto 4, 3) := zD167p whX10_isAnswerPart_0 (p := 10) (v := 4) rfl rfl rfl
theorem dX10_isAnswerPart_13 : decode cX10_isAnswerPart 13 = .ok (.iconst 0, 1) := zD3 whX10_isAnswerPart_0 (p := 13) rfl
theorem dX10_isAnswerPart_14 : decode cX10_isAnswerPart 14 = .ok (.ireturn, 1) := zD172 whX10_isAnswerPart_0 (p := 14) rfl
def wlX10_isDepth_0 : List Nat := [26, 155, 0, 13, 26, 16, 9, 163, 0, 7, 4, 167, 0, 4, 3, 172]
theorem whX10_isDepth_0 : WLy cX10_isDepth 0 wlX10_isDepth_0 := by decide +kernel
theorem dX10_isDepth_0 : decode cX10_isDepth 0 = .ok (.iload_n 0, 1) := zD26 whX10_isDepth_0 (p := 0) rfl
theorem dX10_isDepth_1 : decode cX10_isDepth 1 = .ok (.ifCond .lt 13, 3) := zD155p whX10_isDepth_0 (p := 1) (v := 13) rfl rfl rfl
theorem dX10_isDepth_4 : decode cX10_isDepth 4 = .ok (.iload_n 0, 1) := zD26 whX10_isDepth_0 (p := 4) rfl
theorem dX10_isDepth_5 : decode cX10_isDepth 5 = .ok (.bipush 9, 2) := zD16p whX10_isDepth_0 (p := 5) (v := 9) rfl rfl rfl
theorem dX10_isDepth_7 : decode cX10_isDepth 7 = .ok (.if_icmp .gt 7, 3) := zD163p whX10_isDepth_0 (p := 7) (v := 7) rfl rfl rfl
theorem dX10_isDepth_10 : decode cX10_isDepth 10 = .ok (.iconst 1, 1) := zD4 whX10_isDepth_0 (p := 10) rfl
theorem dX10_isDepth_11 : decode cX10_isDepth 11 = .ok (.goto 4, 3) := zD167p whX10_isDepth_0 (p := 11) (v := 4) rfl rfl rfl
theorem dX10_isDepth_14 : decode cX10_isDepth 14 = .ok (.iconst 0, 1) := zD3 whX10_isDepth_0 (p := 14) rfl
theorem dX10_isDepth_15 : decode cX10_isDepth 15 = .ok (.ireturn, 1) := zD172 whX10_isDepth_0 (p := 15) rfl
def wlX10_isImage_0 : List Nat := [26, 155, 0, 12, 26, 5, 162, 0, 7, 4, 167, 0, 4, 3, 172]
theorem whX10_isImage_0 : WLy cX10_isImage 0 wlX10_isImage_0 := by decide +kernel
theorem dX10_isImage_0 : decode cX10_isImage 0 = .ok (.iload_n 0, 1) := zD26 whX10_isImage_0 (p := 0) rfl
theorem dX10_isImage_1 : decode cX10_isImage 1 = .ok (.ifCond .lt 12, 3) := zD155p whX10_isImage_0 (p := 1) (v := 12) rfl rfl rfl
theorem dX10_isImage_4 : decode cX10_isImage 4 = .ok (.iload_n 0, 1) := zD26 whX10_isImage_0 (p := 4) rfl
theorem dX10_isImage_5 : decode cX10_isImage 5 = .ok (.iconst 2, 1) := zD5 whX10_isImage_0 (p := 5) rfl
theorem dX10_isImage_6 : decode cX10_isImage 6 = .ok (.if_icmp .ge 7, 3) := zD162p whX10_isImage_0 (p := 6) (v := 7) rfl rfl rfl
theorem dX10_isImage_9 : decode cX10_isImage 9 = .ok (.iconst 1, 1) := zD4 whX10_isImage_0 (p := 9) rfl
theorem dX10_isImage_10 : decode cX10_isImage 10 = .ok (.goto 4, 3) := zD167p whX10_isImage_0 (p := 10) (v := 4) rfl rfl rfl
theorem dX10_isImage_13 : decode cX10_isImage 13 = .ok (.iconst 0, 1) := zD3 whX10_isImage_0 (p := 13) rfl
theorem dX10_isImage_14 : decode cX10_isImage 14 = .ok (.ireturn, 1) := zD172 whX10_isImage_0 (p := 14) rfl
def wlX10_fraction_0 : List Nat := [30, 32, 184, 1, 62, 55, 5, 22, 5, 9, 148, 154, 0, 7, 20, 0, 173, 173, 21, 4, 154, 0, 7, 30, 167, 0, 4, 32, 22, 5, 109, 173]
theorem whX10_fraction_0 : WLy cX10_fraction 0 wlX10_fraction_0 := by decide +kernel
theorem dX10_fraction_0 : decode cX10_fraction 0 = .ok (.lload_n 0, 1) := zD30 whX10_fraction_0 (p := 0) rfl
theorem dX10_fraction_1 : decode cX10_fraction 1 = .ok (.lload_n 2, 1) := zD32 whX10_fraction_0 (p := 1) rfl
theorem dX10_fraction_2 : decode cX10_fraction 2 = .ok (.invokestatic 318, 3) := zD184 whX10_fraction_0 (p := 2) rfl rfl
theorem dX10_fraction_5 : decode cX10_fraction 5 = .ok (.lstore 5, 2) := zD55 whX10_fraction_0 (p := 5) rfl
theorem dX10_fraction_7 : decode cX10_fraction 7 = .ok (.lload 5, 2) := zD22 whX10_fraction_0 (p := 7) rfl
theorem dX10_fraction_9 : decode cX10_fraction 9 = .ok (.lconst 0, 1) := zD9 whX10_fraction_0 (p := 9) rfl
theorem dX10_fraction_10 : decode cX10_fraction 10 = .ok (.lcmp, 1) := zD148 whX10_fraction_0 (p := 10) rfl
theorem dX10_fraction_11 : decode cX10_fraction 11 = .ok (.ifCond .ne 7, 3) := zD154p whX10_fraction_0 (p := 11) (v := 7) rfl rfl rfl
theorem dX10_fraction_14 : decode cX10_fraction 14 = .ok (.ldc2_w 173, 3) := zD20 whX10_fraction_0 (p := 14) rfl rfl
theorem dX10_fraction_17 : decode cX10_fraction 17 = .ok (.lreturn, 1) := zD173 whX10_fraction_0 (p := 17) rfl
theorem dX10_fraction_18 : decode cX10_fraction 18 = .ok (.iload 4, 2) := zD21 whX10_fraction_0 (p := 18) rfl
theorem dX10_fraction_20 : decode cX10_fraction 20 = .ok (.ifCond .ne 7, 3) := zD154p whX10_fraction_0 (p := 20) (v := 7) rfl rfl rfl
theorem dX10_fraction_23 : decode cX10_fraction 23 = .ok (.lload_n 0, 1) := zD30 whX10_fraction_0 (p := 23) rfl
theorem dX10_fraction_24 : decode cX10_fraction 24 = .ok (.goto 4, 3) := zD167p whX10_fraction_0 (p := 24) (v := 4) rfl rfl rfl
theorem dX10_fraction_27 : decode cX10_fraction 27 = .ok (.lload_n 2, 1) := zD32 whX10_fraction_0 (p := 27) rfl
theorem dX10_fraction_28 : decode cX10_fraction 28 = .ok (.lload 5, 2) := zD22 whX10_fraction_0 (p := 28) rfl
theorem dX10_fraction_30 : decode cX10_fraction 30 = .ok (.ldiv, 1) := zD109 whX10_fraction_0 (p := 30) rfl
theorem dX10_fraction_31 : decode cX10_fraction 31 = .ok (.lreturn, 1) := zD173 whX10_fraction_0 (p := 31) rfl
def wlX10_commonDivisor_0 : List Nat := [30, 55, 4, 32, 55, 6, 3, 54, 8, 21, 8, 17, 0, 200, 162, 0, 31, 22, 6, 9, 148, 153, 0, 24, 22, 4, 22, 6, 113, 55, 9, 22, 6]
theorem whX10_commonDivisor_0 : WLy cX10_commonDivisor 0 wlX10_commonDivisor_0 := by decide +kernel
theorem dX10_commonDivisor_0 : decode cX10_commonDivisor 0 = .ok (.lload_n 0, 1) := zD30 whX10_commonDivisor_0 (p := 0) rfl
theorem dX10_commonDivisor_1 : decode cX10_commonDivisor 1 = .ok (.lstore 4, 2) := zD55 whX10_commonDivisor_0 (p := 1) rfl
theorem dX10_commonDivisor_3 : decode cX10_commonDivisor 3 = .ok (.lload_n 2, 1) := zD32 whX10_commonDivisor_0 (p := 3) rfl
theorem dX10_commonDivisor_4 : decode cX10_commonDivisor 4 = .ok (.lstore 6, 2) := zD55 whX10_commonDivisor_0 (p := 4) rfl
theorem dX10_commonDivisor_6 : decode cX10_commonDivisor 6 = .ok (.iconst 0, 1) := zD3 whX10_commonDivisor_0 (p := 6) rfl
theorem dX10_commonDivisor_7 : decode cX10_commonDivisor 7 = .ok (.istore 8, 2) := zD54 whX10_commonDivisor_0 (p := 7) rfl
theorem dX10_commonDivisor_9 : decode cX10_commonDivisor 9 = .ok (.iload 8, 2) := zD21 whX10_commonDivisor_0 (p := 9) rfl
theorem dX10_commonDivisor_11 : decode cX10_commonDivisor 11 = .ok (.sipush 200, 3) := zD17p whX10_commonDivisor_0 (p := 11) (v := 200) rfl rfl rfl
theorem dX10_commonDivisor_14 : decode cX10_commonDivisor 14 = .ok (.if_icmp .ge 31, 3) := zD162p whX10_commonDivisor_0 (p := 14) (v := 31) rfl rfl rfl
theorem dX10_commonDivisor_17 : decode cX10_commonDivisor 17 = .ok (.lload 6, 2) := zD22 whX10_commonDivisor_0 (p := 17) rfl
theorem dX10_commonDivisor_19 : decode cX10_commonDivisor 19 = .ok (.lconst 0, 1) := zD9 whX10_commonDivisor_0 (p := 19) rfl
theorem dX10_commonDivisor_20 : decode cX10_commonDivisor 20 = .ok (.lcmp, 1) := zD148 whX10_commonDivisor_0 (p := 20) rfl
theorem dX10_commonDivisor_21 : decode cX10_commonDivisor 21 = .ok (.ifCond .eq 24, 3) := zD153p whX10_commonDivisor_0 (p := 21) (v := 24) rfl rfl rfl
theorem dX10_commonDivisor_24 : decode cX10_commonDivisor 24 = .ok (.lload 4, 2) := zD22 whX10_commonDivisor_0 (p := 24) rfl
theorem dX10_commonDivisor_26 : decode cX10_commonDivisor 26 = .ok (.lload 6, 2) := zD22 whX10_commonDivisor_0 (p := 26) rfl
theorem dX10_commonDivisor_28 : decode cX10_commonDivisor 28 = .ok (.lrem, 1) := zD113 whX10_commonDivisor_0 (p := 28) rfl
theorem dX10_commonDivisor_29 : decode cX10_commonDivisor 29 = .ok (.lstore 9, 2) := zD55 whX10_commonDivisor_0 (p := 29) rfl
theorem dX10_commonDivisor_31 : decode cX10_commonDivisor 31 = .ok (.lload 6, 2) := zD22 whX10_commonDivisor_0 (p := 31) rfl
def wlX10_commonDivisor_1 : List Nat := [55, 4, 22, 9, 55, 6, 132, 8, 1, 167, 255, 223, 22, 4, 173]
theorem whX10_commonDivisor_1 : WLy cX10_commonDivisor 33 wlX10_commonDivisor_1 := by decide +kernel
theorem dX10_commonDivisor_33 : decode cX10_commonDivisor 33 = .ok (.lstore 4, 2) := zD55 whX10_commonDivisor_1 (p := 0) rfl
theorem dX10_commonDivisor_35 : decode cX10_commonDivisor 35 = .ok (.lload 9, 2) := zD22 whX10_commonDivisor_1 (p := 2) rfl
theorem dX10_commonDivisor_37 : decode cX10_commonDivisor 37 = .ok (.lstore 6, 2) := zD55 whX10_commonDivisor_1 (p := 4) rfl
theorem dX10_commonDivisor_39 : decode cX10_commonDivisor 39 = .ok (.iinc 8 1, 3) := zD132p whX10_commonDivisor_1 (p := 6) (v := 1) rfl rfl rfl
theorem dX10_commonDivisor_42 : decode cX10_commonDivisor 42 = .ok (.goto (-33), 3) := zD167n whX10_commonDivisor_1 (p := 9) (v := 33) rfl rfl rfl
theorem dX10_commonDivisor_45 : decode cX10_commonDivisor 45 = .ok (.lload 4, 2) := zD22 whX10_commonDivisor_1 (p := 12) rfl
theorem dX10_commonDivisor_47 : decode cX10_commonDivisor 47 = .ok (.lreturn, 1) := zD173 whX10_commonDivisor_1 (p := 14) rfl
theorem dX10_init_73 : decode cX10_init 73 = .ok (.newarray .boolean, 2) := by decide +kernel
theorem dX10_rule_1 : decode cX10_rule 1 = .ok (.tableswitch 51 0 2 #[27, 35, 43], 27) := by decide +kernel
theorem dX10_stretch_14 : decode cX10_stretch 14 = .ok (.tableswitch 56 0 2 #[26, 36, 46], 26) := by decide +kernel
theorem dX10_bearer_14 : decode cX10_bearer 14 = .ok (.tableswitch 56 0 2 #[26, 36, 46], 26) := by decide +kernel
theorem dX10_carry_22 : decode cX10_carry 22 = .ok (.lookupswitch 42 #[(0, 26), (1, 34)], 26) := by decide +kernel
theorem dX10_count_1 : decode cX10_count 1 = .ok (.tableswitch 113 0 5 #[39, 47, 55, 85, 96, 105], 39) := by decide +kernel
