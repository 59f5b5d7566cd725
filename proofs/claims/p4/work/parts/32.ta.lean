abbrev RSt : Type := Int32 × Int32 × Nat × Nat × Int32 × Int32
def skp (f : Nat → Int32) (T : Nat) (lo hi : Int) : Nat → Nat → Nat
  | 0, p => p
  | n + 1, p => if p < T ∧ lo ≤ (f p).toInt ∧ (f p).toInt ≤ hi then skp f T lo hi n (p + 1) else p
def pst (f : Nat → Int32) (T : Nat) (lo hi : Int) (p : Nat) : Nat := skp f T lo hi (T - p) p
theorem pst_in {f : Nat → Int32} {T p : Nat} {lo hi : Int} (h : p < T) (h1 : lo ≤ (f p).toInt) (h2 : (f p).toInt ≤ hi) : pst f T lo hi p = pst f T lo hi (p + 1) := by
  unfold pst
  rw [show T - p = (T - (p + 1)) + 1 by omega]
  show (if p < T ∧ lo ≤ (f p).toInt ∧ (f p).toInt ≤ hi then skp f T lo hi (T - (p + 1)) (p + 1) else p) = _
  rw [if_pos ⟨h, h1, h2⟩]
theorem pst_out {f : Nat → Int32} {T p : Nat} {lo hi : Int} (h : ¬ (p < T ∧ lo ≤ (f p).toInt ∧ (f p).toInt ≤ hi)) : pst f T lo hi p = p := by
  unfold pst
  cases T - p with
  | zero => rfl
  | succ n =>
    show (if p < T ∧ lo ≤ (f p).toInt ∧ (f p).toInt ≤ hi then skp f T lo hi n (p + 1) else p) = _
    rw [if_neg h]
def flB (c br : Int32) : Int32 := if br = 0 then c else br
def flA (br ba : Int32) (he : Nat) : Int32 := if br = 0 then nI he else ba
def vlS (f : Nat → Int32) (h : Nat) : Nat → Int32
  | 0 => 0
  | n + 1 => if n < 2 then 10 * vlS f h n + f (h + n) - 48 else vlS f h n
def gOn1 (f : Nat → Int32) (T : Nat) (br ba : Int32) (h : Nat) : RSt :=
  if T ≤ h then (br, ba, h, h, 0, 0)
  else if 97 ≤ (f h).toInt ∧ (f h).toInt ≤ 122 then (br, ba, pst f T 97 122 h, h, 1, 0)
  else if 48 ≤ (f h).toInt ∧ (f h).toInt ≤ 57 then
    (if 2 < pst f T 48 57 h - h then (flB 1 br, flA br ba h, pst f T 48 57 h, h, 2, vlS f h (pst f T 48 57 h - h)) else (br, ba, pst f T 48 57 h, h, 2, vlS f h (pst f T 48 57 h - h)))
  else if f h = 59 then (br, ba, h + 1, h, 3, 0) else (flB 1 br, flA br ba h, h + 1, h, 3, 0)
def gOn (f : Nat → Int32) (T : Nat) (br ba : Int32) (sp he : Nat) (tk va : Int32) : RSt :=
  if 0 < br.toInt then (br, ba, sp, he, tk, va) else gOn1 f T br ba (pst f T 32 32 sp)
def otC (lo xh sm br tk va : Int32) : Int32 := if br = 0 then (if tk = 2 then (if lo.toInt ≤ va.toInt ∧ va.toInt ≤ xh.toInt then (if (sm >>> (va &&& 31)) &&& 1 = 1 then 4 else 0) else 3) else 2) else 0
def otB (lo xh sm br tk va : Int32) : Int32 := if otC lo xh sm br tk va = 0 then br else otC lo xh sm br tk va
def otA (lo xh sm br ba : Int32) (he : Nat) (tk va : Int32) : Int32 := if otC lo xh sm br tk va = 0 then ba else nI he
def otV (lo xh sm br tk va : Int32) : Int32 := if otB lo xh sm br tk va = 0 then va else lo
def letL : List Int32 := [115, 116, 97, 114, 116, 115, 116, 114, 101, 116, 99, 104, 98, 101, 97, 114, 101, 114, 99, 97, 114, 114, 121, 112, 108, 97, 105, 110, 104, 117, 109, 109, 101, 114, 116, 114, 101, 109, 98, 108, 101, 114, 116, 97, 108, 108, 116, 119, 105, 110, 112, 97, 105, 100]
abbrev wMt (f : Nat → Int32) (a b n : Nat) : Prop := b - a = cutL.getD (n + 1) 0 - cutL.getD n 0 ∧ ∀ k : Nat, k < b - a → f (a + k) = letL.getD (cutL.getD n 0 + k) 0
def nmF (f : Nat → Int32) (a b : Nat) : Nat → Int32
  | 0 => -4
  | j + 1 => if wMt f a b (10 - (j + 1)) then nI (10 - (j + 1)) else nmF f a b j
def nmS (f : Nat → Int32) (a b : Nat) (tk : Int32) : Int32 := if tk = 1 then nmF f a b 10 else -4
theorem nmF_y {f : Nat → Int32} {a b n : Nat} (hn : n < 10) (h : wMt f a b n) : nmF f a b (10 - n) = nI n := by
  rw [show 10 - n = (9 - n) + 1 by omega]
  show (if wMt f a b (10 - (9 - n + 1)) then nI (10 - (9 - n + 1)) else nmF f a b (9 - n)) = _
  rw [show 10 - (9 - n + 1) = n by omega, if_pos h]
theorem nmF_n {f : Nat → Int32} {a b n : Nat} (hn : n < 10) (h : ¬ wMt f a b n) : nmF f a b (10 - n) = nmF f a b (10 - (n + 1)) := by
  rw [show 10 - n = (9 - n) + 1 by omega]
  show (if wMt f a b (10 - (9 - n + 1)) then nI (10 - (9 - n + 1)) else nmF f a b (9 - n)) = _
  rw [show 10 - (9 - n + 1) = n by omega, if_neg h, show 10 - (n + 1) = 9 - n by omega]
abbrev LSt : Type := RSt × Nat × Nat × Int32 × Int32 × Int32 × Int32 × (Nat → Int32)
def gT (f : Nat → Int32) (T : Nat) (s : RSt) : RSt := gOn f T s.1 s.2.1 s.2.2.1 s.2.2.2.1 s.2.2.2.2.1 s.2.2.2.2.2
def fT (c : Int32) (s : RSt) : RSt := (flB c s.1, flA s.1 s.2.1 s.2.2.2.1, s.2.2.1, s.2.2.2.1, s.2.2.2.2.1, s.2.2.2.2.2)
def oV (lo xh sm : Int32) (s : RSt) : Int32 := otV lo xh sm s.1 s.2.2.2.2.1 s.2.2.2.2.2
def oS (f : Nat → Int32) (T : Nat) (lo xh sm : Int32) (s : RSt) : RSt := gOn f T (otB lo xh sm s.1 s.2.2.2.2.1 s.2.2.2.2.2) (otA lo xh sm s.1 s.2.1 s.2.2.2.1 s.2.2.2.2.1 s.2.2.2.2.2) s.2.2.1 s.2.2.2.1 s.2.2.2.2.1 s.2.2.2.2.2
def nT (f : Nat → Int32) (s : RSt) : Int32 := nmS f s.2.2.2.1 s.2.2.1 s.2.2.2.2.1
def rbS (f : Nat → Int32) (T : Nat) (s : RSt) (rb : Nat) (fp : Nat → Int32) : RSt × Nat × (Nat → Int32) :=
  if rb = 6 then (fT 5 s, rb, fp)
  else if (0 : Int32) ≤ nT f (gT f T s) - 4 then
    (oS f T 0 9 0 (oS f T 0 9 0 (gT f T (gT f T s))), rb + 1, upd (upd (upd fp (20 + 3 * rb) (nT f (gT f T s) - 4)) (20 + 3 * rb + 1) (oV 0 9 0 (gT f T (gT f T s)))) (20 + 3 * rb + 2) (oV 0 9 0 (oS f T 0 9 0 (gT f T (gT f T s)))))
  else (fT 2 (gT f T s), rb, fp)
def rmA (nm : Int32) (rs : Nat) (hs : Int32) (s : RSt) : RSt := if nm = 0 then (if hs = 0 then (if nm = 1 then (if rs = 10 then fT 5 s else s) else s) else fT 4 (if nm = 1 then (if rs = 10 then fT 5 s else s) else s)) else (if nm = 1 then (if rs = 10 then fT 5 s else s) else s)
def rmI (rs : Nat) (s : RSt) : Nat := if s.1 = 0 then rs else 0
def rmX (a b : Int32) : Int32 := if a ≤ b then b else a
def rmS (f : Nat → Int32) (T : Nat) (nm : Int32) (s : RSt) (rs : Nat) (hs ca xs xb : Int32) (fp : Nat → Int32) : RSt × Nat × Int32 × Int32 × Int32 × Int32 × (Nat → Int32) :=
  if nm = 0 then (oS f T 1 9 0 (gT f T (rmA nm rs hs s)), rs, 1, ca, xs, xb, upd fp 48 (oV 1 9 0 (gT f T (rmA nm rs hs s)) - 5))
  else if nm = 1 then (oS f T 0 9 0 (oS f T 0 9 0 (gT f T (rmA nm rs hs s))), rs + 1, hs, ca, xs, xb, upd (upd fp (2 * rmI rs (gT f T (rmA nm rs hs s))) (oV 0 9 0 (gT f T (rmA nm rs hs s)))) (2 * rmI rs (gT f T (rmA nm rs hs s)) + 1) (oV 0 9 0 (oS f T 0 9 0 (gT f T (rmA nm rs hs s)))))
  else (oS f T 0 5 0 (oS f T 0 9 ca (gT f T (rmA nm rs hs s))), rs, hs, ca ||| ((1 : Int32) <<< (oV 0 9 ca (gT f T (rmA nm rs hs s)) &&& 31)), rmX (oV 0 9 ca (gT f T (rmA nm rs hs s))) xs, rmX (oV 0 5 0 (oS f T 0 9 ca (gT f T (rmA nm rs hs s)))) xb, upd fp (38 + (oV 0 9 ca (gT f T (rmA nm rs hs s))).toNatClampNeg) (oV 0 5 0 (oS f T 0 9 ca (gT f T (rmA nm rs hs s)))))
def fiS (f : Nat → Int32) (T : Nat) (s : RSt) : RSt := gT f T (if s.1 = 0 then (if s.2.2.2.2.1 = 3 then s else fT 2 s) else s)
def rlS (f : Nat → Int32) (T : Nat) (s : RSt) (rs rb : Nat) (hs ca xs xb : Int32) (fp : Nat → Int32) : LSt :=
  if 0 ≤ (nT f s).toInt ∧ (nT f s).toInt ≤ 3 then
    (if nT f s = 2 then (fiS f T (rbS f T s rb fp).1, rs, (rbS f T s rb fp).2.1, hs, ca, xs, xb, (rbS f T s rb fp).2.2)
     else (fiS f T (rmS f T (nT f s) s rs hs ca xs xb fp).1, (rmS f T (nT f s) s rs hs ca xs xb fp).2.1, rb, (rmS f T (nT f s) s rs hs ca xs xb fp).2.2.1, (rmS f T (nT f s) s rs hs ca xs xb fp).2.2.2.1, (rmS f T (nT f s) s rs hs ca xs xb fp).2.2.2.2.1, (rmS f T (nT f s) s rs hs ca xs xb fp).2.2.2.2.2.1, (rmS f T (nT f s) s rs hs ca xs xb fp).2.2.2.2.2.2))
  else (fT 2 s, rs, rb, hs, ca, xs, xb, fp)
def nxS (f : Nat → Int32) (T : Nat) (q : LSt) : LSt := rlS f T q.1 q.2.1 q.2.2.1 q.2.2.2.1 q.2.2.2.2.1 q.2.2.2.2.2.1 q.2.2.2.2.2.2.1 q.2.2.2.2.2.2.2
def lpS (f : Nat → Int32) (T : Nat) : Nat → LSt → Nat → LSt × Nat
  | 0, q, n => (q, n)
  | k + 1, q, n => if q.1.1 = 0 then (if q.1.2.2.2.2.1 = 0 then (q, n) else lpS f T k (nxS f T q) (n + 1)) else (q, n)
theorem lpS_go {f : Nat → Int32} {T k n : Nat} {q : LSt} (h0 : q.1.1 = 0) (h1 : ¬ q.1.2.2.2.2.1 = 0) : lpS f T (k + 1) q n = lpS f T k (nxS f T q) (n + 1) := by
  show (if q.1.1 = 0 then (if q.1.2.2.2.2.1 = 0 then (q, n) else lpS f T k (nxS f T q) (n + 1)) else (q, n)) = _
  rw [if_pos h0, if_neg h1]
theorem lpS_e0 {f : Nat → Int32} {T k n : Nat} {q : LSt} (h : ¬ q.1.1 = 0) : lpS f T k q n = (q, n) := by
  cases k with
  | zero => rfl
  | succ k =>
    show (if q.1.1 = 0 then (if q.1.2.2.2.2.1 = 0 then (q, n) else lpS f T k (nxS f T q) (n + 1)) else (q, n)) = _
    rw [if_neg h]
theorem lpS_e1 {f : Nat → Int32} {T k n : Nat} {q : LSt} (h0 : q.1.1 = 0) (h : q.1.2.2.2.2.1 = 0) : lpS f T k q n = (q, n) := by
  cases k with
  | zero => rfl
  | succ k =>
    show (if q.1.1 = 0 then (if q.1.2.2.2.2.1 = 0 then (q, n) else lpS f T k (nxS f T q) (n + 1)) else (q, n)) = _
    rw [if_pos h0, if_pos h]
def be6 (s : RSt) (rs rb : Nat) (xs xb : Int32) : RSt := if s.1 = 0 then (if nI rs ≤ xs then fT 6 s else if xb < nI rb then s else fT 6 s) else s
def be7 (s : RSt) (rs rb : Nat) : RSt := if s.1 = 0 then (if 0 < rs then (if rb = 0 then fT 7 s else s) else s) else s
def zpF (k : Nat) (fp : Nat → Int32) : Nat → Int32 := fun q => if q < k then 0 else fp q
def cpF (k : Nat) (pg fs : Nat → Int32) : Nat → Int32 := fun q => if q < k then pg q else fs q
theorem zpF_s {k : Nat} {fp : Nat → Int32} : upd (zpF k fp) k 0 = zpF (k + 1) fp := by
  funext q
  show (if q = k then 0 else if q < k then 0 else fp q) = (if q < k + 1 then 0 else fp q)
  by_cases c : q < k + 1
  · rw [if_pos c]; split
    · rfl
    · rw [if_pos (by omega)]
  · rw [if_neg c, if_neg (by omega), if_neg (by omega)]
theorem zpF_0 {fp : Nat → Int32} : fp = zpF 0 fp := by
  funext q
  show fp q = (if q < 0 then 0 else fp q)
  rw [if_neg (by omega)]
theorem cpF_s {k : Nat} {pg fs : Nat → Int32} : upd (cpF k pg fs) k (pg k) = cpF (k + 1) pg fs := by
  funext q
  show (if q = k then pg k else if q < k then pg q else fs q) = (if q < k + 1 then pg q else fs q)
  by_cases c : q < k + 1
  · rw [if_pos c]; split
    · rename_i e; rw [e]
    · rw [if_pos (by omega)]
  · rw [if_neg c, if_neg (by omega), if_neg (by omega)]
theorem cpF_0 {pg fs : Nat → Int32} : fs = cpF 0 pg fs := by
  funext q
  show fs q = (if q < 0 then pg q else fs q)
  rw [if_neg (by omega)]
theorem OKS_cp {pg fs : Nat → Int32} (h : OKS fs) (hp : OKP pg) : OKS (cpF 49 pg fs) := by
  intro q hq
  show okS q (if q < 49 then pg q else fs q)
  split
  · rename_i c; exact hp q c
  · exact h q hq
def txQ (f : Nat → Int32) (T : Nat) (ba : Int32) (he : Nat) (tk va : Int32) (fp : Nat → Int32) : LSt × Nat := lpS f T 400 (gOn f T 0 ba 0 he tk va, 0, 0, 0, 0, -1, -1, zpF 49 fp) 0
def txE (q : LSt) : RSt := be7 (be6 q.1 q.2.1 q.2.2.1 q.2.2.2.2.2.1 q.2.2.2.2.2.2.1) q.2.1 q.2.2.1
theorem skp_ge {f : Nat → Int32} {T : Nat} {lo hi : Int} : ∀ (n p : Nat), p ≤ skp f T lo hi n p := by
  intro n
  induction n with
  | zero => intro p; exact Nat.le_refl p
  | succ n ih =>
    intro p
    show p ≤ (if p < T ∧ lo ≤ (f p).toInt ∧ (f p).toInt ≤ hi then skp f T lo hi n (p + 1) else p)
    split
    · exact Nat.le_trans (Nat.le_succ p) (ih (p + 1))
    · exact Nat.le_refl p
theorem skp_le {f : Nat → Int32} {T : Nat} {lo hi : Int} : ∀ (n p : Nat), p ≤ T → skp f T lo hi n p ≤ T := by
  intro n
  induction n with
  | zero => intro p h; exact h
  | succ n ih =>
    intro p h
    show (if p < T ∧ lo ≤ (f p).toInt ∧ (f p).toInt ≤ hi then skp f T lo hi n (p + 1) else p) ≤ T
    split
    · rename_i c; exact ih (p + 1) c.1
    · exact h
theorem pst_b {f : Nat → Int32} {T p : Nat} {lo hi : Int} (h : p ≤ T) : p ≤ pst f T lo hi p ∧ pst f T lo hi p ≤ T := ⟨skp_ge _ _, skp_le _ _ h⟩
def flP (x0 p x1 : Int32) : Int32 := if x0 = 0 then p else x1
def ntS1 (f : Nat → Int32) (T F : Nat) (x0 x1 x3 : Int32) : Int32 × Int32 × Int32 × Nat × Nat :=
  if T ≤ F then (x0, x1, 0, F, F)
  else if 97 ≤ (f F).toInt ∧ (f F).toInt ≤ 122 then (x0, x1, 1, F, pst f T 97 122 F)
  else if 48 ≤ (f F).toInt ∧ (f F).toInt ≤ 57 then
    (if pst f T 48 57 F - F ≤ 2 then (x0, x1, 2, F, pst f T 48 57 F) else (flB 1 x0, flP x0 (nI F) x1, 2, F, pst f T 48 57 F))
  else if f F = 59 then (x0, x1, 3, F, F + 1) else (flB 1 x0, flP x0 (nI F) x1, x3, F, F)
def ntG (f : Nat → Int32) (T F : Nat) : Int32 :=
  if T ≤ F then 1
  else if 97 ≤ (f F).toInt ∧ (f F).toInt ≤ 122 then 1
  else if 48 ≤ (f F).toInt ∧ (f F).toInt ≤ 57 then (if pst f T 48 57 F - F ≤ 2 then 1 else 0)
  else if f F = 59 then 1 else 0
abbrev sYs (f : Nat → Int32) (F P i : Nat) : Prop := P - F = strLen.getD i 0 ∧ ∀ q9 : Nat, q9 < strLen.getD i 0 → f (F + q9) = (strByt.getD i []).getD q9 0 &&& 255
def isN (f : Nat → Int32) (F P : Nat) (x3 : Int32) (i : Nat) : Int32 := if x3 = 1 then (if sYs f F P i then 1 else 0) else 0
def kdF (f : Nat → Int32) (F P : Nat) (x3 : Int32) : Int32 := if isN f F P x3 3 = 0 then (if isN f F P x3 4 = 0 then (if isN f F P x3 5 = 0 then (if isN f F P x3 6 = 0 then (if isN f F P x3 7 = 0 then (if isN f F P x3 8 = 0 then -4 else 5) else 4) else 3) else 2) else 1) else 0
abbrev CS5 : Type := Int32 × Int32 × Int32 × Nat × Nat
def cRF (k : Int32) (c : CS5) : CS5 := (flB k c.1, flP c.1 (nI c.2.2.2.1) c.2.1, c.2.2.1, c.2.2.2.1, c.2.2.2.2)
def cVL (f : Nat → Int32) (T : Nat) (c : CS5) : Int32 := valN f T c.2.2.2.1 (c.2.2.2.2 - c.2.2.2.1)
def cNN (f : Nat → Int32) (T : Nat) (lo hi x0 x1 x3 : Int32) (P : Nat) : Int32 × CS5 :=
  if ntG f T (pst f T 32 32 P) = 0 then (0, ntS1 f T (pst f T 32 32 P) x0 x1 x3)
  else if (ntS1 f T (pst f T 32 32 P) x0 x1 x3).2.2.1 = 2 then (if cVL f T (ntS1 f T (pst f T 32 32 P) x0 x1 x3) < lo then (0, cRF 3 (ntS1 f T (pst f T 32 32 P) x0 x1 x3)) else if cVL f T (ntS1 f T (pst f T 32 32 P) x0 x1 x3) ≤ hi then (1, ntS1 f T (pst f T 32 32 P) x0 x1 x3) else (0, cRF 3 (ntS1 f T (pst f T 32 32 P) x0 x1 x3)))
  else (0, cRF 2 (ntS1 f T (pst f T 32 32 P) x0 x1 x3))
def cNS (f : Nat → Int32) (T : Nat) (x0 x1 x3 : Int32) (P : Nat) : Int32 × CS5 :=
  if ntG f T (pst f T 32 32 P) = 0 then (0, ntS1 f T (pst f T 32 32 P) x0 x1 x3)
  else if (ntS1 f T (pst f T 32 32 P) x0 x1 x3).2.2.1 = 3 then (1, ntS1 f T (pst f T 32 32 P) x0 x1 x3) else (0, cRF 2 (ntS1 f T (pst f T 32 32 P) x0 x1 x3))
def tNN (f : Nat → Int32) (T : Nat) (lo hi : Int32) (c : CS5) : Int32 × CS5 := cNN f T lo hi c.1 c.2.1 c.2.2.1 c.2.2.2.2
def tNS (f : Nat → Int32) (T : Nat) (c : CS5) : Int32 × CS5 := cNS f T c.1 c.2.1 c.2.2.1 c.2.2.2.2
def tNG (f : Nat → Int32) (T : Nat) (c : CS5) : Int32 := ntG f T (pst f T 32 32 c.2.2.2.2)
def tNT (f : Nat → Int32) (T : Nat) (c : CS5) : CS5 := ntS1 f T (pst f T 32 32 c.2.2.2.2) c.1 c.2.1 c.2.2.1
def cKD (f : Nat → Int32) (c : CS5) : Int32 := kdF f c.2.2.2.1 c.2.2.2.2 c.2.2.1
def cST (f : Nat → Int32) (T : Nat) (c : CS5) (st : Int32) (D : Nat) : Int32 × CS5 × Int32 × Nat :=
  if st = 0 then
    (if (tNN f T 1 9 c).1 = 0 then (0, (tNN f T 1 9 c).2, 1, D)
     else ((tNS f T (tNN f T 1 9 c).2).1, (tNS f T (tNN f T 1 9 c).2).2, 1, (cVL f T (tNN f T 1 9 c).2).toNatClampNeg))
  else (0, cRF 4 c, st, D)
def cSR (f : Nat → Int32) (T : Nat) (c : CS5) (N : Nat) (g1 g2 : Nat → Int32) : Int32 × CS5 × Nat × (Nat → Int32) × (Nat → Int32) :=
  if N < 10 then
    (if (tNN f T 0 9 c).1 = 0 then (0, (tNN f T 0 9 c).2, N, g1, g2)
     else if (tNN f T 0 9 (tNN f T 0 9 c).2).1 = 0 then (0, (tNN f T 0 9 (tNN f T 0 9 c).2).2, N, g1, g2)
     else ((tNS f T (tNN f T 0 9 (tNN f T 0 9 c).2).2).1, (tNS f T (tNN f T 0 9 (tNN f T 0 9 c).2).2).2, N + 1, upd g1 N (cVL f T (tNN f T 0 9 c).2), upd g2 N (cVL f T (tNN f T 0 9 (tNN f T 0 9 c).2).2)))
  else (0, cRF 5 c, N, g1, g2)
def cBR (f : Nat → Int32) (T : Nat) (c : CS5) (B : Nat) (g4 g5 g6 : Nat → Int32) : Int32 × CS5 × Nat × (Nat → Int32) × (Nat → Int32) × (Nat → Int32) :=
  if B < 6 then
    (if tNG f T c = 0 then (0, tNT f T c, B, g4, g5, g6)
     else if cKD f (tNT f T c) = -4 then (0, cRF 2 (tNT f T c), B, g4, g5, g6)
     else if (tNN f T 0 9 (tNT f T c)).1 = 0 then (0, (tNN f T 0 9 (tNT f T c)).2, B, g4, g5, g6)
     else if (tNN f T 0 9 (tNN f T 0 9 (tNT f T c)).2).1 = 0 then (0, (tNN f T 0 9 (tNN f T 0 9 (tNT f T c)).2).2, B, g4, g5, g6)
     else ((tNS f T (tNN f T 0 9 (tNN f T 0 9 (tNT f T c)).2).2).1, (tNS f T (tNN f T 0 9 (tNN f T 0 9 (tNT f T c)).2).2).2, B + 1, upd g4 B (cKD f (tNT f T c)), upd g5 B (cVL f T (tNN f T 0 9 (tNT f T c)).2), upd g6 B (cVL f T (tNN f T 0 9 (tNN f T 0 9 (tNT f T c)).2).2)))
  else (0, cRF 5 c, B, g4, g5, g6)
def cCR (f : Nat → Int32) (T : Nat) (c : CS5) (ca xs xb : Int32) (g3 : Nat → Int32) : Int32 × CS5 × Int32 × Int32 × Int32 × (Nat → Int32) :=
  if (tNN f T 0 9 c).1 = 0 then (0, (tNN f T 0 9 c).2, ca, xs, xb, g3)
  else if (ca >>> (cVL f T (tNN f T 0 9 c).2 &&& 31)) &&& 1 = 1 then (0, cRF 4 (tNN f T 0 9 c).2, ca, xs, xb, g3)
  else if (tNN f T 0 5 (tNN f T 0 9 c).2).1 = 0 then (0, (tNN f T 0 5 (tNN f T 0 9 c).2).2, ca ||| ((1 : Int32) <<< (cVL f T (tNN f T 0 9 c).2 &&& 31)), xs, xb, g3)
  else ((tNS f T (tNN f T 0 5 (tNN f T 0 9 c).2).2).1, (tNS f T (tNN f T 0 5 (tNN f T 0 9 c).2).2).2, ca ||| ((1 : Int32) <<< (cVL f T (tNN f T 0 9 c).2 &&& 31)), mx xs (cVL f T (tNN f T 0 9 c).2), mx xb (cVL f T (tNN f T 0 5 (tNN f T 0 9 c).2).2), upd g3 (cVL f T (tNN f T 0 9 c).2).toNatClampNeg (cVL f T (tNN f T 0 5 (tNN f T 0 9 c).2).2))
abbrev CW : Type := CS5 × Int32 × Int32 × Int32 × Int32 × Nat × Nat × Nat × (Nat → Int32) × (Nat → Int32) × (Nat → Int32) × (Nat → Int32) × (Nat → Int32) × (Nat → Int32)
abbrev cIN (f : Nat → Int32) (c : CS5) (i : Nat) : Int32 := isN f c.2.2.2.1 c.2.2.2.2 c.2.2.1 i
def cLN (f : Nat → Int32) (T : Nat) (c : CS5) (st ca xs xb : Int32) (N B D : Nat) (g1 g2 g3 g4 g5 g6 : Nat → Int32) : Int32 × CW :=
  if cIN f c 0 = 0 then
    (if cIN f c 1 = 0 then
      (if cIN f c 2 = 0 then
        (if cIN f c 9 = 0 then (0, cRF 2 c, st, ca, xs, xb, N, B, D, g1, g2, g3, g4, g5, g6)
         else ((cCR f T c ca xs xb g3).1, (cCR f T c ca xs xb g3).2.1, st, (cCR f T c ca xs xb g3).2.2.1, (cCR f T c ca xs xb g3).2.2.2.1, (cCR f T c ca xs xb g3).2.2.2.2.1, N, B, D, g1, g2, (cCR f T c ca xs xb g3).2.2.2.2.2, g4, g5, g6))
       else ((cBR f T c B g4 g5 g6).1, (cBR f T c B g4 g5 g6).2.1, st, ca, xs, xb, N, (cBR f T c B g4 g5 g6).2.2.1, D, g1, g2, g3, (cBR f T c B g4 g5 g6).2.2.2.1, (cBR f T c B g4 g5 g6).2.2.2.2.1, (cBR f T c B g4 g5 g6).2.2.2.2.2))
     else ((cSR f T c N g1 g2).1, (cSR f T c N g1 g2).2.1, st, ca, xs, xb, (cSR f T c N g1 g2).2.2.1, B, D, (cSR f T c N g1 g2).2.2.2.1, (cSR f T c N g1 g2).2.2.2.2, g3, g4, g5, g6))
  else ((cST f T c st D).1, (cST f T c st D).2.1, (cST f T c st D).2.2.1, ca, xs, xb, N, B, (cST f T c st D).2.2.2, g1, g2, g3, g4, g5, g6)
def cLNq (f : Nat → Int32) (T : Nat) (q : CW) : Int32 × CW := cLN f T q.1 q.2.1 q.2.2.1 q.2.2.2.1 q.2.2.2.2.1 q.2.2.2.2.2.1 q.2.2.2.2.2.2.1 q.2.2.2.2.2.2.2.1 q.2.2.2.2.2.2.2.2.1 q.2.2.2.2.2.2.2.2.2.1 q.2.2.2.2.2.2.2.2.2.2.1 q.2.2.2.2.2.2.2.2.2.2.2.1 q.2.2.2.2.2.2.2.2.2.2.2.2.1 q.2.2.2.2.2.2.2.2.2.2.2.2.2
def cNTq (f : Nat → Int32) (T : Nat) (q : CW) : CW := (tNT f T q.1, q.2)
def cLP (f : Nat → Int32) (T : Nat) : Nat → CW → Int32 → CW × Int32
  | 0, q, n => (q, n)
  | k + 1, q, n => if q.1.1 = 0 then (if q.1.2.2.1 = 0 then (q, n) else if (cLNq f T q).1 = 0 then cLP f T k (cLNq f T q).2 n else cLP f T k (cNTq f T (cLNq f T q).2) (n + 1)) else (q, n)
theorem cLP_a {f : Nat → Int32} {T k : Nat} {n : Int32} {q : CW} (h0 : q.1.1 = 0) (h1 : ¬ q.1.2.2.1 = 0) (h2 : (cLNq f T q).1 = 0) : cLP f T (k + 1) q n = cLP f T k (cLNq f T q).2 n := by
  show (if q.1.1 = 0 then (if q.1.2.2.1 = 0 then (q, n) else if (cLNq f T q).1 = 0 then cLP f T k (cLNq f T q).2 n else cLP f T k (cNTq f T (cLNq f T q).2) (n + 1)) else (q, n)) = _
  rw [if_pos h0, if_neg h1, if_pos h2]
theorem cLP_b {f : Nat → Int32} {T k : Nat} {n : Int32} {q : CW} (h0 : q.1.1 = 0) (h1 : ¬ q.1.2.2.1 = 0) (h2 : ¬ (cLNq f T q).1 = 0) : cLP f T (k + 1) q n = cLP f T k (cNTq f T (cLNq f T q).2) (n + 1) := by
  show (if q.1.1 = 0 then (if q.1.2.2.1 = 0 then (q, n) else if (cLNq f T q).1 = 0 then cLP f T k (cLNq f T q).2 n else cLP f T k (cNTq f T (cLNq f T q).2) (n + 1)) else (q, n)) = _
  rw [if_pos h0, if_neg h1, if_neg h2]
theorem cLP_e0 {f : Nat → Int32} {T k : Nat} {n : Int32} {q : CW} (h : ¬ q.1.1 = 0) : cLP f T k q n = (q, n) := by
  cases k with
  | zero => rfl
  | succ k =>
    show (if q.1.1 = 0 then (if q.1.2.2.1 = 0 then (q, n) else if (cLNq f T q).1 = 0 then cLP f T k (cLNq f T q).2 n else cLP f T k (cNTq f T (cLNq f T q).2) (n + 1)) else (q, n)) = _
    rw [if_neg h]
theorem cLP_e1 {f : Nat → Int32} {T k : Nat} {n : Int32} {q : CW} (h0 : q.1.1 = 0) (h : q.1.2.2.1 = 0) : cLP f T k q n = (q, n) := by
  cases k with
  | zero => rfl
  | succ k =>
    show (if q.1.1 = 0 then (if q.1.2.2.1 = 0 then (q, n) else if (cLNq f T q).1 = 0 then cLP f T k (cLNq f T q).2 n else cLP f T k (cNTq f T (cLNq f T q).2) (n + 1)) else (q, n)) = _
    rw [if_pos h0, if_pos h]
def cQ0 (f : Nat → Int32) (T : Nat) (x3 : Int32) (g1 g2 g3 g4 g5 g6 : Nat → Int32) : CW := (tNT f T (0, 0, x3, 0, 0), 0, 0, -4, -4, 0, 0, 5, g1, g2, zpF 10 g3, g4, g5, g6)
def cRA (f : Nat → Int32) (T : Nat) (x3 : Int32) (g1 g2 g3 g4 g5 g6 : Nat → Int32) : CW × Int32 := cLP f T (T + 1) (cQ0 f T x3 g1 g2 g3 g4 g5 g6) 0
def cRT (k : Int32) (T : Nat) (c : CS5) : CS5 := (flB k c.1, flP c.1 (nI T) c.2.1, c.2.2.1, c.2.2.2.1, c.2.2.2.2)
def cLB (T : Nat) (c : CS5) (xs xb : Int32) (N B : Nat) : CS5 := if xs.toInt < (N : Int) then (if xb.toInt < (B : Int) then (if 0 < N then (if B = 0 then cRT 7 T c else c) else c) else cRT 6 T c) else cRT 6 T c
def cFN (T : Nat) (q : CW) : CS5 := if q.1.1 = 0 then cLB T q.1 q.2.2.2.1 q.2.2.2.2.1 q.2.2.2.2.2.1 q.2.2.2.2.2.2.1 else q.1
